/-! the law's own methods over the class -/
def wuL_leaf : List Cond := .codeWith yL_leaf cL_leaf 4 (some .int) [(0, 9, 12, 13), (0, 9, 15, 15)] :: wU
abbrev mL_leaf : sMeth := (cL_leaf, 4, RL, wuL_leaf, { frames := 8, cells := 4, slots := 91, locals := 133 }, (some .int), "leaf", [(0, 9, 12, 13), (0, 9, 15, 15)])
theorem gu_L_leaf : GoodIn wuL_leaf (wsV RL 7 RX3 yX3_leaf wuX3_leaf) := goodVU (by decide +kernel)
set_option maxHeartbeats 4000000 in
set_option maxRecDepth 100000 in
theorem c_L_leaf (G : sG) (l : Launch) (hl : l.stackTraces = false) (ad : sAd) (M : sM) (α : sAl) (hA : AI α) (hc : cI G ad M α) (w : Nat → Int64) (hw : lOut G M w) (x : Int32) : sMet G l yL_leaf mL_leaf [.ref (ad 0 0), .int x, .ref (ad 26 0)] ad M (lPost G ad M (fun k v α' => lfRel α x k v α')) (fun _ _ _ => False) := by
  obtain ⟨κ, h, hC⟩ := id hc
  refine sMet.ofH hl (by decide +kernel) rfl rfl rfl (Nat.le_of_ble_eq_true rfl) (fun X => ?_)
  refine s_lv (lv' := [some (.ref (ad 0 0)), some (.int x), some (.ref (ad 26 0)), none]) rfl ?_
  refine s_aload_n dL_leaf_0 rfl ?_
  refine s_iconst (v := 0) dL_leaf_1 (by decide) ?_
  refine s_aload_n dL_leaf_2 rfl ?_
  refine s_iload_n dL_leaf_3 rfl ?_
  refine s_xcallV (As := [.int x]) (rest := [.int 0, .ref (ad 26 0)]) (n := 1) (kd := 0) (ix := 0) (fun l hl => c_X3_leaf G l hl ad M α hA κ h hC x) gu_L_leaf rfl (by decide +kernel) h.1 rfl rfl ⟨(Nat.le_of_ble_eq_true rfl), (Nat.le_of_ble_eq_true rfl)⟩ ⟨(Nat.le_of_ble_eq_true rfl), (Nat.le_of_ble_eq_true rfl)⟩ (Nat.le_of_ble_eq_true rfl) dL_leaf_4 rfl (fun E ad9 M9 h9 => ?_) (fun r9 ad9 M9 h9 => ?_)
  · obtain ⟨rfl, rfl, h9⟩ := h9
    rcases h9 with ⟨rfl, h9⟩ | ⟨rfl, h9⟩
    · refine s_catch (E := eI) (hpc := 12) [] ⟨0, 9, 12, 13⟩ [⟨0, 9, 15, 15⟩] rfl (hp0 ) (by decide) (by decide) (List.mem_cons_of_mem _ (inU (by decide +kernel) rfl)) (by decide +kernel) rfl (fun q9 => ?_)
      refine s_astore_n dL_leaf_12 rfl rfl ?_
      refine s_lv (lv' := [some (.ref (ad 0 0)), some (.int x), some (.ref (ad 26 0)), some (.ref q9)]) rfl ?_
      refine s_iconst (v := 1) dL_leaf_13 (by decide) ?_
      exact s_iret rfl (rfl) dL_leaf_14 (Nat.le_of_ble_eq_true rfl) (Nat.le_of_ble_eq_true rfl) (⟨fun _ _ _ _ => rfl, sSame.rfl, 1, 0, α, w, Or.inl ⟨rfl, rfl, h9⟩, hA, hc, rfl, by omega, hw, fun q => absurd q (by decide)⟩)
    · refine s_catch (E := eS) (hpc := 15) [⟨0, 9, 12, 13⟩] ⟨0, 9, 15, 15⟩ [] rfl (hp1 (Or.inr ⟨by decide, eI, (List.mem_cons_of_mem _ (inU (by decide +kernel) rfl)), by decide +kernel⟩)) (by decide) (by decide) (List.mem_cons_of_mem _ (inU (by decide +kernel) rfl)) (by decide +kernel) rfl (fun q9 => ?_)
      refine s_astore_n dL_leaf_15 rfl rfl ?_
      refine s_lv (lv' := [some (.ref (ad 0 0)), some (.int x), some (.ref (ad 26 0)), some (.ref q9)]) rfl ?_
      refine s_iconst (v := 2) dL_leaf_16 (by decide) ?_
      exact s_iret rfl (rfl) dL_leaf_17 (Nat.le_of_ble_eq_true rfl) (Nat.le_of_ble_eq_true rfl) (⟨fun _ _ _ _ => rfl, sSame.rfl, 2, 0, α, w, Or.inr (Or.inl ⟨rfl, rfl, h9⟩), hA, hc, rfl, by omega, hw, fun q => absurd q (by decide)⟩)
  obtain ⟨lt, hl2, hx, rfl, hT, hex, hsx, m, hA9, hc9⟩ := h9
  have e26 := hex 26 0 _ hw
  refine s_st (st' := [.int (nI (aT α)), .int 0, .ref (ad9 26 0)]) (by rw [e26]; rfl) ?_
  refine s_i2l dL_leaf_7 ?_
  refine s_last (kd := 26) (ix := 0) (n := 1) (f := w) (j := 0) (x := (nI (aT α)).toInt64) (((hsx 26 0 (by simp [pCk])).trans hw))  (rfl) (by decide) (by decide) dL_leaf_8 ?_
  refine s_goto 18 dL_leaf_9 (by decide) ?_
  refine s_iconst (v := 0) dL_leaf_18 (by decide) ?_
  exact s_iret rfl (rfl) dL_leaf_19 (Nat.le_of_ble_eq_true rfl) (Nat.le_of_ble_eq_true rfl) (⟨hex, (hsx.mono (fun _ _ => ck_lw)).set (P := pLw) (Or.inr rfl) _, 0, _, _, _, Or.inr (Or.inr ⟨rfl, rfl, hT, lt, m, hl2, hx, rfl⟩), hA9, hc9.keep (fun k i hk => sset_k _ _ (by omega)), rfl, by omega, sset_self _ _ _ _, fun _ => vp_updL_at _ _ _⟩)
def wuL_number : List Cond := .codeWith yL_number cL_number 4 (some .int) [(0, 9, 12, 13), (0, 9, 15, 15)] :: wU
abbrev mL_number : sMeth := (cL_number, 4, RL, wuL_number, { frames := 8, cells := 4, slots := 91, locals := 133 }, (some .int), "number", [(0, 9, 12, 13), (0, 9, 15, 15)])
theorem gu_L_number : GoodIn wuL_number (wsV RL 17 RX3 yX3_number wuX3_number) := goodVU (by decide +kernel)
set_option maxHeartbeats 4000000 in
set_option maxRecDepth 100000 in
theorem c_L_number (G : sG) (l : Launch) (hl : l.stackTraces = false) (ad : sAd) (M : sM) (α : sAl) (hA : AI α) (hc : cI G ad M α) (w : Nat → Int64) (hw : lOut G M w) (x : Int32) : sMet G l yL_number mL_number [.ref (ad 0 0), .int x, .ref (ad 26 0)] ad M (lPost G ad M (fun k v α' => nmRel α x k v α')) (fun _ _ _ => False) := by
  obtain ⟨κ, h, hC⟩ := id hc
  refine sMet.ofH hl (by decide +kernel) rfl rfl rfl (Nat.le_of_ble_eq_true rfl) (fun X => ?_)
  refine s_lv (lv' := [some (.ref (ad 0 0)), some (.int x), some (.ref (ad 26 0)), none]) rfl ?_
  refine s_aload_n dL_number_0 rfl ?_
  refine s_iconst (v := 0) dL_number_1 (by decide) ?_
  refine s_aload_n dL_number_2 rfl ?_
  refine s_iload_n dL_number_3 rfl ?_
  refine s_xcallV (As := [.int x]) (rest := [.int 0, .ref (ad 26 0)]) (n := 1) (kd := 0) (ix := 0) (fun l hl => c_X3_number G l hl ad M α hA κ h hC x) gu_L_number rfl (by decide +kernel) h.1 rfl rfl ⟨(Nat.le_of_ble_eq_true rfl), (Nat.le_of_ble_eq_true rfl)⟩ ⟨(Nat.le_of_ble_eq_true rfl), (Nat.le_of_ble_eq_true rfl)⟩ (Nat.le_of_ble_eq_true rfl) dL_number_4 rfl (fun E ad9 M9 h9 => ?_) (fun r9 ad9 M9 h9 => ?_)
  · obtain ⟨rfl, rfl, h9⟩ := h9
    rcases h9 with ⟨rfl, h9⟩ | ⟨rfl, h9⟩
    · refine s_catch (E := eI) (hpc := 12) [] ⟨0, 9, 12, 13⟩ [⟨0, 9, 15, 15⟩] rfl (hp0 ) (by decide) (by decide) (List.mem_cons_of_mem _ (inU (by decide +kernel) rfl)) (by decide +kernel) rfl (fun q9 => ?_)
      refine s_astore_n dL_number_12 rfl rfl ?_
      refine s_lv (lv' := [some (.ref (ad 0 0)), some (.int x), some (.ref (ad 26 0)), some (.ref q9)]) rfl ?_
      refine s_iconst (v := 1) dL_number_13 (by decide) ?_
      exact s_iret rfl (rfl) dL_number_14 (Nat.le_of_ble_eq_true rfl) (Nat.le_of_ble_eq_true rfl) (⟨fun _ _ _ _ => rfl, sSame.rfl, 1, 0, α, w, Or.inl ⟨rfl, rfl, h9⟩, hA, hc, rfl, by omega, hw, fun q => absurd q (by decide)⟩)
    · refine s_catch (E := eS) (hpc := 15) [⟨0, 9, 12, 13⟩] ⟨0, 9, 15, 15⟩ [] rfl (hp1 (Or.inr ⟨by decide, eI, (List.mem_cons_of_mem _ (inU (by decide +kernel) rfl)), by decide +kernel⟩)) (by decide) (by decide) (List.mem_cons_of_mem _ (inU (by decide +kernel) rfl)) (by decide +kernel) rfl (fun q9 => ?_)
      refine s_astore_n dL_number_15 rfl rfl ?_
      refine s_lv (lv' := [some (.ref (ad 0 0)), some (.int x), some (.ref (ad 26 0)), some (.ref q9)]) rfl ?_
      refine s_iconst (v := 2) dL_number_16 (by decide) ?_
      exact s_iret rfl (rfl) dL_number_17 (Nat.le_of_ble_eq_true rfl) (Nat.le_of_ble_eq_true rfl) (⟨fun _ _ _ _ => rfl, sSame.rfl, 2, 0, α, w, Or.inr (Or.inl ⟨rfl, rfl, h9⟩), hA, hc, rfl, by omega, hw, fun q => absurd q (by decide)⟩)
  obtain ⟨hx, rfl, hT, hex, hsx, m, hA9, hc9⟩ := h9
  have e26 := hex 26 0 _ hw
  refine s_st (st' := [.int (nI (aT α)), .int 0, .ref (ad9 26 0)]) (by rw [e26]; rfl) ?_
  refine s_i2l dL_number_7 ?_
  refine s_last (kd := 26) (ix := 0) (n := 1) (f := w) (j := 0) (x := (nI (aT α)).toInt64) (((hsx 26 0 (by simp [pCk])).trans hw))  (rfl) (by decide) (by decide) dL_number_8 ?_
  refine s_goto 18 dL_number_9 (by decide) ?_
  refine s_iconst (v := 0) dL_number_18 (by decide) ?_
  exact s_iret rfl (rfl) dL_number_19 (Nat.le_of_ble_eq_true rfl) (Nat.le_of_ble_eq_true rfl) (⟨hex, (hsx.mono (fun _ _ => ck_lw)).set (P := pLw) (Or.inr rfl) _, 0, _, _, _, Or.inr (Or.inr ⟨rfl, rfl, hT, hx, m, rfl⟩), hA9, hc9.keep (fun k i hk => sset_k _ _ (by omega)), rfl, by omega, sset_self _ _ _ _, fun _ => vp_updL_at _ _ _⟩)
def wuL_node : List Cond := .codeWith yL_node cL_node 6 (some .int) [(0, 12, 15, 24), (0, 12, 19, 13), (0, 12, 23, 15)] :: wU
abbrev mL_node : sMeth := (cL_node, 6, RL, wuL_node, { frames := 8, cells := 4, slots := 91, locals := 140 }, (some .int), "node", [(0, 12, 15, 24), (0, 12, 19, 13), (0, 12, 23, 15)])
theorem gu_L_node : GoodIn wuL_node (wsV RL 20 RX3 yX3_node wuX3_node) := goodVU (by decide +kernel)
set_option maxHeartbeats 4000000 in
set_option maxRecDepth 100000 in
theorem c_L_node (G : sG) (l : Launch) (hl : l.stackTraces = false) (ad : sAd) (M : sM) (α : sAl) (hA : AI α) (hc : cI G ad M α) (w : Nat → Int64) (hw : lOut G M w) (x a b : Int32) : sMet G l yL_node mL_node [.ref (ad 0 0), .int x, .int a, .int b, .ref (ad 26 0)] ad M (lPost G ad M (fun k v α' => ndRel α x a b k v α')) (fun _ _ _ => False) := by
  obtain ⟨κ, h, hC⟩ := id hc
  refine sMet.ofH hl (by decide +kernel) rfl rfl rfl (Nat.le_of_ble_eq_true rfl) (fun X => ?_)
  refine s_lv (lv' := [some (.ref (ad 0 0)), some (.int x), some (.int a), some (.int b), some (.ref (ad 26 0)), none]) rfl ?_
  refine s_aload dL_node_0 rfl ?_
  refine s_iconst (v := 0) dL_node_2 (by decide) ?_
  refine s_aload_n dL_node_3 rfl ?_
  refine s_iload_n dL_node_4 rfl ?_
  refine s_iload_n dL_node_5 rfl ?_
  refine s_iload_n dL_node_6 rfl ?_
  refine s_xcallV (As := [.int x, .int a, .int b]) (rest := [.int 0, .ref (ad 26 0)]) (n := 3) (kd := 0) (ix := 0) (fun l hl => c_X3_node G l hl ad M α hA κ h hC x a b) gu_L_node rfl (by decide +kernel) h.1 rfl rfl ⟨(Nat.le_of_ble_eq_true rfl), (Nat.le_of_ble_eq_true rfl)⟩ ⟨(Nat.le_of_ble_eq_true rfl), (Nat.le_of_ble_eq_true rfl)⟩ (Nat.le_of_ble_eq_true rfl) dL_node_7 rfl (fun E ad9 M9 h9 => ?_) (fun r9 ad9 M9 h9 => ?_)
  · obtain ⟨rfl, rfl, h9⟩ := h9
    rcases h9 with ⟨rfl, h9⟩ | ⟨rfl, h9⟩ | ⟨rfl, h9⟩
    · refine s_catch (E := eA) (hpc := 15) [] ⟨0, 12, 15, 24⟩ [⟨0, 12, 19, 13⟩, ⟨0, 12, 23, 15⟩] rfl (hp0 ) (by decide) (by decide) (List.mem_cons_of_mem _ (inU (by decide +kernel) rfl)) (by decide +kernel) rfl (fun q9 => ?_)
      refine s_astore dL_node_15 rfl rfl ?_
      refine s_lv (lv' := [some (.ref (ad 0 0)), some (.int x), some (.int a), some (.int b), some (.ref (ad 26 0)), some (.ref q9)]) rfl ?_
      refine s_iconst (v := 1) dL_node_17 (by decide) ?_
      exact s_iret rfl (rfl) dL_node_18 (Nat.le_of_ble_eq_true rfl) (Nat.le_of_ble_eq_true rfl) (⟨fun _ _ _ _ => rfl, sSame.rfl, 1, 0, α, w, Or.inl ⟨rfl, rfl, h9⟩, hA, hc, rfl, by omega, hw, fun q => absurd q (by decide)⟩)
    · refine s_catch (E := eI) (hpc := 19) [⟨0, 12, 15, 24⟩] ⟨0, 12, 19, 13⟩ [⟨0, 12, 23, 15⟩] rfl (hp1 (Or.inr ⟨by decide, eA, (List.mem_cons_of_mem _ (inU (by decide +kernel) rfl)), by decide +kernel⟩)) (by decide) (by decide) (List.mem_cons_of_mem _ (inU (by decide +kernel) rfl)) (by decide +kernel) rfl (fun q9 => ?_)
      refine s_astore dL_node_19 rfl rfl ?_
      refine s_lv (lv' := [some (.ref (ad 0 0)), some (.int x), some (.int a), some (.int b), some (.ref (ad 26 0)), some (.ref q9)]) rfl ?_
      refine s_iconst (v := 2) dL_node_21 (by decide) ?_
      exact s_iret rfl (rfl) dL_node_22 (Nat.le_of_ble_eq_true rfl) (Nat.le_of_ble_eq_true rfl) (⟨fun _ _ _ _ => rfl, sSame.rfl, 2, 0, α, w, Or.inr (Or.inl ⟨rfl, rfl, h9⟩), hA, hc, rfl, by omega, hw, fun q => absurd q (by decide)⟩)
    · refine s_catch (E := eS) (hpc := 23) [⟨0, 12, 15, 24⟩, ⟨0, 12, 19, 13⟩] ⟨0, 12, 23, 15⟩ [] rfl (hp2 (Or.inr ⟨by decide, eA, (List.mem_cons_of_mem _ (inU (by decide +kernel) rfl)), by decide +kernel⟩) (Or.inr ⟨by decide, eI, (List.mem_cons_of_mem _ (inU (by decide +kernel) rfl)), by decide +kernel⟩)) (by decide) (by decide) (List.mem_cons_of_mem _ (inU (by decide +kernel) rfl)) (by decide +kernel) rfl (fun q9 => ?_)
      refine s_astore dL_node_23 rfl rfl ?_
      refine s_lv (lv' := [some (.ref (ad 0 0)), some (.int x), some (.int a), some (.int b), some (.ref (ad 26 0)), some (.ref q9)]) rfl ?_
      refine s_iconst (v := 3) dL_node_25 (by decide) ?_
      exact s_iret rfl (rfl) dL_node_26 (Nat.le_of_ble_eq_true rfl) (Nat.le_of_ble_eq_true rfl) (⟨fun _ _ _ _ => rfl, sSame.rfl, 3, 0, α, w, Or.inr (Or.inr (Or.inl ⟨rfl, rfl, h9⟩)), hA, hc, rfl, by omega, hw, fun q => absurd q (by decide)⟩)
  obtain ⟨h6, ja, jb, g, P, hok, hnr, rfl, hT, hex, hsx, m, hA9, hc9⟩ := h9
  have e26 := hex 26 0 _ hw
  refine s_st (st' := [.int (nI (aT α)), .int 0, .ref (ad9 26 0)]) (by rw [e26]; rfl) ?_
  refine s_i2l dL_node_10 ?_
  refine s_last (kd := 26) (ix := 0) (n := 1) (f := w) (j := 0) (x := (nI (aT α)).toInt64) (((hsx 26 0 (by simp [pCk])).trans hw))  (rfl) (by decide) (by decide) dL_node_11 ?_
  refine s_goto 27 dL_node_12 (by decide) ?_
  refine s_iconst (v := 0) dL_node_27 (by decide) ?_
  exact s_iret rfl (rfl) dL_node_28 (Nat.le_of_ble_eq_true rfl) (Nat.le_of_ble_eq_true rfl) (⟨hex, (hsx.mono (fun _ _ => ck_lw)).set (P := pLw) (Or.inr rfl) _, 0, _, _, _, Or.inr (Or.inr (Or.inr ⟨rfl, rfl, hT, h6, ja, jb, g, P, m, hok, hnr, rfl⟩)), hA9, hc9.keep (fun k i hk => sset_k _ _ (by omega)), rfl, by omega, sset_self _ _ _ _, fun _ => vp_updL_at _ _ _⟩)
def wuL_load : List Cond := .codeWith yL_load cL_load 7 (some .int) [(0, 14, 17, 24), (0, 14, 21, 13), (0, 14, 25, 15)] :: wU
abbrev mL_load : sMeth := (cL_load, 7, RL, wuL_load, { frames := 8, cells := 1, slots := 6, locals := 128 }, (some .int), "load", [(0, 14, 17, 24), (0, 14, 21, 13), (0, 14, 25, 15)])
theorem gu_L_load : GoodIn wuL_load (wsV RL 26 RX3 yX3_load wuX3_load) := goodVU (by decide +kernel)
set_option maxHeartbeats 4000000 in
set_option maxRecDepth 100000 in
theorem c_L_load (G : sG) (l : Launch) (hl : l.stackTraces = false) (ad : sAd) (M : sM) (α : sAl) (hA : AI α) (hc : cI G ad M α) (w : Nat → Int64) (hw : lOut G M w) (q a b c : Int32) : sMet G l yL_load mL_load [.ref (ad 0 0), .int q, .int a, .int b, .int c, .ref (ad 26 0)] ad M (lPost G ad M (fun k v α' => ldRel α q a b c k v α')) (fun _ _ _ => False) := by
  obtain ⟨κ, h, hC⟩ := id hc
  refine sMet.ofH hl (by decide +kernel) rfl rfl rfl (Nat.le_of_ble_eq_true rfl) (fun X => ?_)
  refine s_lv (lv' := [some (.ref (ad 0 0)), some (.int q), some (.int a), some (.int b), some (.int c), some (.ref (ad 26 0)), none]) rfl ?_
  refine s_aload dL_load_0 rfl ?_
  refine s_iconst (v := 0) dL_load_2 (by decide) ?_
  refine s_aload_n dL_load_3 rfl ?_
  refine s_iload_n dL_load_4 rfl ?_
  refine s_iload_n dL_load_5 rfl ?_
  refine s_iload_n dL_load_6 rfl ?_
  refine s_iload dL_load_7 rfl ?_
  refine s_xcallV (As := [.int q, .int a, .int b, .int c]) (rest := [.int 0, .ref (ad 26 0)]) (n := 4) (kd := 0) (ix := 0) (fun l hl => c_X3_load G l hl ad M α hA κ h hC q a b c) gu_L_load rfl (by decide +kernel) h.1 rfl rfl ⟨(Nat.le_of_ble_eq_true rfl), (Nat.le_of_ble_eq_true rfl)⟩ ⟨(Nat.le_of_ble_eq_true rfl), (Nat.le_of_ble_eq_true rfl)⟩ (Nat.le_of_ble_eq_true rfl) dL_load_9 rfl (fun E ad9 M9 h9 => ?_) (fun r9 ad9 M9 h9 => ?_)
  · obtain ⟨rfl, rfl, h9⟩ := h9
    rcases h9 with ⟨rfl, h9⟩ | ⟨rfl, h9⟩ | ⟨rfl, h9⟩
    · refine s_catch (E := eA) (hpc := 17) [] ⟨0, 14, 17, 24⟩ [⟨0, 14, 21, 13⟩, ⟨0, 14, 25, 15⟩] rfl (hp0 ) (by decide) (by decide) (List.mem_cons_of_mem _ (inU (by decide +kernel) rfl)) (by decide +kernel) rfl (fun q9 => ?_)
      refine s_astore dL_load_17 rfl rfl ?_
      refine s_lv (lv' := [some (.ref (ad 0 0)), some (.int q), some (.int a), some (.int b), some (.int c), some (.ref (ad 26 0)), some (.ref q9)]) rfl ?_
      refine s_iconst (v := 1) dL_load_19 (by decide) ?_
      exact s_iret rfl (rfl) dL_load_20 (Nat.le_of_ble_eq_true rfl) (Nat.le_of_ble_eq_true rfl) (⟨fun _ _ _ _ => rfl, sSame.rfl, 1, 0, α, w, Or.inl ⟨rfl, rfl, h9⟩, hA, hc, rfl, by omega, hw, fun q => absurd q (by decide)⟩)
    · refine s_catch (E := eI) (hpc := 21) [⟨0, 14, 17, 24⟩] ⟨0, 14, 21, 13⟩ [⟨0, 14, 25, 15⟩] rfl (hp1 (Or.inr ⟨by decide, eA, (List.mem_cons_of_mem _ (inU (by decide +kernel) rfl)), by decide +kernel⟩)) (by decide) (by decide) (List.mem_cons_of_mem _ (inU (by decide +kernel) rfl)) (by decide +kernel) rfl (fun q9 => ?_)
      refine s_astore dL_load_21 rfl rfl ?_
      refine s_lv (lv' := [some (.ref (ad 0 0)), some (.int q), some (.int a), some (.int b), some (.int c), some (.ref (ad 26 0)), some (.ref q9)]) rfl ?_
      refine s_iconst (v := 2) dL_load_23 (by decide) ?_
      exact s_iret rfl (rfl) dL_load_24 (Nat.le_of_ble_eq_true rfl) (Nat.le_of_ble_eq_true rfl) (⟨fun _ _ _ _ => rfl, sSame.rfl, 2, 0, α, w, Or.inr (Or.inl ⟨rfl, rfl, h9⟩), hA, hc, rfl, by omega, hw, fun q => absurd q (by decide)⟩)
    · refine s_catch (E := eS) (hpc := 25) [⟨0, 14, 17, 24⟩, ⟨0, 14, 21, 13⟩] ⟨0, 14, 25, 15⟩ [] rfl (hp2 (Or.inr ⟨by decide, eA, (List.mem_cons_of_mem _ (inU (by decide +kernel) rfl)), by decide +kernel⟩) (Or.inr ⟨by decide, eI, (List.mem_cons_of_mem _ (inU (by decide +kernel) rfl)), by decide +kernel⟩)) (by decide) (by decide) (List.mem_cons_of_mem _ (inU (by decide +kernel) rfl)) (by decide +kernel) rfl (fun q9 => ?_)
      refine s_astore dL_load_25 rfl rfl ?_
      refine s_lv (lv' := [some (.ref (ad 0 0)), some (.int q), some (.int a), some (.int b), some (.int c), some (.ref (ad 26 0)), some (.ref q9)]) rfl ?_
      refine s_iconst (v := 3) dL_load_27 (by decide) ?_
      exact s_iret rfl (rfl) dL_load_28 (Nat.le_of_ble_eq_true rfl) (Nat.le_of_ble_eq_true rfl) (⟨fun _ _ _ _ => rfl, sSame.rfl, 3, 0, α, w, Or.inr (Or.inr (Or.inl ⟨rfl, rfl, h9⟩)), hA, hc, rfl, by omega, hw, fun q => absurd q (by decide)⟩)
  obtain ⟨rfl, rfl, hR, hn1, hfk, hsx, hc9⟩ := h9
  refine s_i2l dL_load_12 ?_
  refine s_last (kd := 26) (ix := 0) (n := 1) (f := w) (j := 0) (x := (nI (aR α)).toInt64) (((hsx 26 0 (by simp [pCk])).trans hw))  (rfl) (by decide) (by decide) dL_load_13 ?_
  refine s_goto 29 dL_load_14 (by decide) ?_
  refine s_iconst (v := 0) dL_load_29 (by decide) ?_
  exact s_iret rfl (rfl) dL_load_30 (Nat.le_of_ble_eq_true rfl) (Nat.le_of_ble_eq_true rfl) (⟨(fun _ _ _ _ => rfl), (hsx.mono (fun _ _ => ck_lw)).set (P := pLw) (Or.inr rfl) _, 0, _, _, _, Or.inr (Or.inr (Or.inr ⟨rfl, rfl, hR, hn1, hfk, rfl⟩)), hA.addR hR (wfR_ld hn1 hfk), hc9.keep (fun k i hk => sset_k _ _ (by omega)), rfl, by omega, sset_self _ _ _ _, fun _ => vp_updL_at _ _ _⟩)
def wuL_cofactor : List Cond := .codeWith yL_cofactor cL_cofactor 4 (some .int) [(0, 6, 9, 24), (0, 6, 12, 13)] :: wU
abbrev mL_cofactor : sMeth := (cL_cofactor, 4, RL, wuL_cofactor, { frames := 8, cells := 1, slots := 6, locals := 125 }, (some .int), "cofactor", [(0, 6, 9, 24), (0, 6, 12, 13)])
theorem gu_L_cofactor : GoodIn wuL_cofactor (wsV RL 30 RX3 yX3_cofactor wuX3_cofactor) := goodVU (by decide +kernel)
set_option maxHeartbeats 4000000 in
set_option maxRecDepth 100000 in
theorem c_L_cofactor (G : sG) (l : Launch) (hl : l.stackTraces = false) (ad : sAd) (M : sM) (α : sAl) (hA : AI α) (hc : cI G ad M α) (w : Nat → Int64) (hw : lOut G M w) (x t : Int32) : sMet G l yL_cofactor mL_cofactor [.ref (ad 0 0), .int x, .int t] ad M (lPostV G ad M (fun k α' => cfRel α x t k α')) (fun _ _ _ => False) := by
  obtain ⟨κ, h, hC⟩ := id hc
  refine sMet.ofH hl (by decide +kernel) rfl rfl rfl (Nat.le_of_ble_eq_true rfl) (fun X => ?_)
  refine s_lv (lv' := [some (.ref (ad 0 0)), some (.int x), some (.int t), none]) rfl ?_
  refine s_aload_n dL_cofactor_0 rfl ?_
  refine s_iload_n dL_cofactor_1 rfl ?_
  refine s_iload_n dL_cofactor_2 rfl ?_
  refine s_xcallV (As := [.int x, .int t]) (rest := []) (n := 2) (kd := 0) (ix := 0) (fun l hl => c_X3_cofactor G l hl ad M α hA κ h hC x t) gu_L_cofactor rfl (by decide +kernel) h.1 rfl rfl ⟨(Nat.le_of_ble_eq_true rfl), (Nat.le_of_ble_eq_true rfl)⟩ ⟨(Nat.le_of_ble_eq_true rfl), (Nat.le_of_ble_eq_true rfl)⟩ (Nat.le_of_ble_eq_true rfl) dL_cofactor_3 rfl (fun E ad9 M9 h9 => ?_) (fun r9 ad9 M9 h9 => ?_)
  · obtain ⟨rfl, rfl, h9⟩ := h9
    rcases h9 with ⟨rfl, h9⟩ | ⟨rfl, h9⟩
    · refine s_catch (E := eA) (hpc := 9) [] ⟨0, 6, 9, 24⟩ [⟨0, 6, 12, 13⟩] rfl (hp0 ) (by decide) (by decide) (List.mem_cons_of_mem _ (inU (by decide +kernel) rfl)) (by decide +kernel) rfl (fun q9 => ?_)
      refine s_astore_n dL_cofactor_9 rfl rfl ?_
      refine s_lv (lv' := [some (.ref (ad 0 0)), some (.int x), some (.int t), some (.ref q9)]) rfl ?_
      refine s_iconst (v := 1) dL_cofactor_10 (by decide) ?_
      exact s_iret rfl (rfl) dL_cofactor_11 (Nat.le_of_ble_eq_true rfl) (Nat.le_of_ble_eq_true rfl) (⟨fun _ _ _ _ => rfl, sSame.rfl, 1, α, w, Or.inl ⟨rfl, rfl, h9⟩, hA, hc, rfl, by omega, hw⟩)
    · refine s_catch (E := eI) (hpc := 12) [⟨0, 6, 9, 24⟩] ⟨0, 6, 12, 13⟩ [] rfl (hp1 (Or.inr ⟨by decide, eA, (List.mem_cons_of_mem _ (inU (by decide +kernel) rfl)), by decide +kernel⟩)) (by decide) (by decide) (List.mem_cons_of_mem _ (inU (by decide +kernel) rfl)) (by decide +kernel) rfl (fun q9 => ?_)
      refine s_astore_n dL_cofactor_12 rfl rfl ?_
      refine s_lv (lv' := [some (.ref (ad 0 0)), some (.int x), some (.int t), some (.ref q9)]) rfl ?_
      refine s_iconst (v := 2) dL_cofactor_13 (by decide) ?_
      exact s_iret rfl (rfl) dL_cofactor_14 (Nat.le_of_ble_eq_true rfl) (Nat.le_of_ble_eq_true rfl) (⟨fun _ _ _ _ => rfl, sSame.rfl, 2, α, w, Or.inr (Or.inl ⟨rfl, rfl, h9⟩), hA, hc, rfl, by omega, hw⟩)
  obtain ⟨rfl, rfl, jr, hj, hx, ht, h6, hsx, hc9⟩ := h9
  refine s_goto 15 dL_cofactor_6 (by decide) ?_
  refine s_iconst (v := 0) dL_cofactor_15 (by decide) ?_
  exact s_iret rfl (rfl) dL_cofactor_16 (Nat.le_of_ble_eq_true rfl) (Nat.le_of_ble_eq_true rfl) (⟨(fun _ _ _ _ => rfl), (hsx.mono (fun _ _ => ck_lw)), 0, _, w, Or.inr (Or.inr ⟨rfl, jr, hj, hx, ht, h6, rfl⟩), hA.setR ((hA.2.2.2 jr hj).cof h6 ht), hc9, rfl, by omega, (hsx 26 0 (by simp [pCk])).trans hw⟩)
def wuL_sample : List Cond := .codeWith yL_sample cL_sample 5 (some .int) [(0, 7, 10, 24), (0, 7, 14, 13)] :: wU
abbrev mL_sample : sMeth := (cL_sample, 5, RL, wuL_sample, { frames := 8, cells := 1, slots := 6, locals := 126 }, (some .int), "sample", [(0, 7, 10, 24), (0, 7, 14, 13)])
theorem gu_L_sample : GoodIn wuL_sample (wsV RL 34 RX3 yX3_sample wuX3_sample) := goodVU (by decide +kernel)
set_option maxHeartbeats 4000000 in
set_option maxRecDepth 100000 in
theorem c_L_sample (G : sG) (l : Launch) (hl : l.stackTraces = false) (ad : sAd) (M : sM) (α : sAl) (hA : AI α) (hc : cI G ad M α) (w : Nat → Int64) (hw : lOut G M w) (x y v : Int32) : sMet G l yL_sample mL_sample [.ref (ad 0 0), .int x, .int y, .int v] ad M (lPostV G ad M (fun k α' => spRel α x y v k α')) (fun _ _ _ => False) := by
  obtain ⟨κ, h, hC⟩ := id hc
  refine sMet.ofH hl (by decide +kernel) rfl rfl rfl (Nat.le_of_ble_eq_true rfl) (fun X => ?_)
  refine s_lv (lv' := [some (.ref (ad 0 0)), some (.int x), some (.int y), some (.int v), none]) rfl ?_
  refine s_aload_n dL_sample_0 rfl ?_
  refine s_iload_n dL_sample_1 rfl ?_
  refine s_iload_n dL_sample_2 rfl ?_
  refine s_iload_n dL_sample_3 rfl ?_
  refine s_xcallV (As := [.int x, .int y, .int v]) (rest := []) (n := 3) (kd := 0) (ix := 0) (fun l hl => c_X3_sample G l hl ad M α hA κ h hC x y v) gu_L_sample rfl (by decide +kernel) h.1 rfl rfl ⟨(Nat.le_of_ble_eq_true rfl), (Nat.le_of_ble_eq_true rfl)⟩ ⟨(Nat.le_of_ble_eq_true rfl), (Nat.le_of_ble_eq_true rfl)⟩ (Nat.le_of_ble_eq_true rfl) dL_sample_4 rfl (fun E ad9 M9 h9 => ?_) (fun r9 ad9 M9 h9 => ?_)
  · obtain ⟨rfl, rfl, h9⟩ := h9
    rcases h9 with ⟨rfl, h9⟩ | ⟨rfl, h9⟩
    · refine s_catch (E := eA) (hpc := 10) [] ⟨0, 7, 10, 24⟩ [⟨0, 7, 14, 13⟩] rfl (hp0 ) (by decide) (by decide) (List.mem_cons_of_mem _ (inU (by decide +kernel) rfl)) (by decide +kernel) rfl (fun q9 => ?_)
      refine s_astore dL_sample_10 rfl rfl ?_
      refine s_lv (lv' := [some (.ref (ad 0 0)), some (.int x), some (.int y), some (.int v), some (.ref q9)]) rfl ?_
      refine s_iconst (v := 1) dL_sample_12 (by decide) ?_
      exact s_iret rfl (rfl) dL_sample_13 (Nat.le_of_ble_eq_true rfl) (Nat.le_of_ble_eq_true rfl) (⟨fun _ _ _ _ => rfl, sSame.rfl, 1, α, w, Or.inl ⟨rfl, rfl, h9⟩, hA, hc, rfl, by omega, hw⟩)
    · refine s_catch (E := eI) (hpc := 14) [⟨0, 7, 10, 24⟩] ⟨0, 7, 14, 13⟩ [] rfl (hp1 (Or.inr ⟨by decide, eA, (List.mem_cons_of_mem _ (inU (by decide +kernel) rfl)), by decide +kernel⟩)) (by decide) (by decide) (List.mem_cons_of_mem _ (inU (by decide +kernel) rfl)) (by decide +kernel) rfl (fun q9 => ?_)
      refine s_astore dL_sample_14 rfl rfl ?_
      refine s_lv (lv' := [some (.ref (ad 0 0)), some (.int x), some (.int y), some (.int v), some (.ref q9)]) rfl ?_
      refine s_iconst (v := 2) dL_sample_16 (by decide) ?_
      exact s_iret rfl (rfl) dL_sample_17 (Nat.le_of_ble_eq_true rfl) (Nat.le_of_ble_eq_true rfl) (⟨fun _ _ _ _ => rfl, sSame.rfl, 2, α, w, Or.inr (Or.inl ⟨rfl, rfl, h9⟩), hA, hc, rfl, by omega, hw⟩)
  obtain ⟨rfl, rfl, jr, lt, hj, hx, hl2, hy, hv, hsx, hc9⟩ := h9
  refine s_goto 18 dL_sample_7 (by decide) ?_
  refine s_iconst (v := 0) dL_sample_18 (by decide) ?_
  exact s_iret rfl (rfl) dL_sample_19 (Nat.le_of_ble_eq_true rfl) (Nat.le_of_ble_eq_true rfl) (⟨(fun _ _ _ _ => rfl), (hsx.mono (fun _ _ => ck_lw)), 0, _, w, Or.inr (Or.inr ⟨rfl, jr, lt, hj, hx, hl2, hy, hv, rfl⟩), hA.setR ((hA.2.2.2 jr hj).smp hl2 hv), hc9, rfl, by omega, (hsx 26 0 (by simp [pCk])).trans hw⟩)
def wuL_check : List Cond := .codeWith yL_check cL_check 5 (some .int) [(0, 10, 13, 24)] :: wU
abbrev mL_check : sMeth := (cL_check, 5, RL, wuL_check, { frames := 8, cells := 1, slots := 6, locals := 126 }, (some .int), "check", [(0, 10, 13, 24)])
theorem gu_L_check : GoodIn wuL_check (wsV RL 38 RX3 yX3_check wuX3_check) := goodVU (by decide +kernel)
set_option maxHeartbeats 4000000 in
set_option maxRecDepth 100000 in
theorem c_L_check (G : sG) (l : Launch) (hl : l.stackTraces = false) (ad : sAd) (M : sM) (α : sAl) (hA : AI α) (hc : cI G ad M α) (w : Nat → Int64) (hw : lOut G M w) (fr to : Int32) : sMet G l yL_check mL_check [.ref (ad 0 0), .int fr, .int to, .ref (ad 26 0)] ad M (lPost G ad M (fun k v α' => α' = α ∧ ckR α fr to k v)) (fun _ _ _ => False) := by
  obtain ⟨κ, h, hC⟩ := id hc
  refine sMet.ofH hl (by decide +kernel) rfl rfl rfl (Nat.le_of_ble_eq_true rfl) (fun X => ?_)
  refine s_lv (lv' := [some (.ref (ad 0 0)), some (.int fr), some (.int to), some (.ref (ad 26 0)), none]) rfl ?_
  refine s_aload_n dL_check_0 rfl ?_
  refine s_iconst (v := 0) dL_check_1 (by decide) ?_
  refine s_aload_n dL_check_2 rfl ?_
  refine s_iload_n dL_check_3 rfl ?_
  refine s_iload_n dL_check_4 rfl ?_
  refine s_xcallV (As := [.int fr, .int to]) (rest := [.int 0, .ref (ad 26 0)]) (n := 2) (kd := 0) (ix := 0) (fun l hl => c_X3_check G l hl ad M α hA κ h hC fr to) gu_L_check rfl (by decide +kernel) h.1 rfl rfl ⟨(Nat.le_of_ble_eq_true rfl), (Nat.le_of_ble_eq_true rfl)⟩ ⟨(Nat.le_of_ble_eq_true rfl), (Nat.le_of_ble_eq_true rfl)⟩ (Nat.le_of_ble_eq_true rfl) dL_check_5 rfl (fun E ad9 M9 h9 => ?_) (fun r9 ad9 M9 h9 => ?_)
  · obtain ⟨rfl, rfl, rfl, h9⟩ := h9
    refine s_catch (E := eA) (hpc := 13) [] ⟨0, 10, 13, 24⟩ [] rfl (hp0 ) (by decide) (by decide) (List.mem_cons_of_mem _ (inU (by decide +kernel) rfl)) (by decide +kernel) rfl (fun q9 => ?_)
    refine s_astore dL_check_13 rfl rfl ?_
    refine s_lv (lv' := [some (.ref (ad 0 0)), some (.int fr), some (.int to), some (.ref (ad 26 0)), some (.ref q9)]) rfl ?_
    refine s_iconst (v := 1) dL_check_15 (by decide) ?_
    exact s_iret rfl (rfl) dL_check_16 (Nat.le_of_ble_eq_true rfl) (Nat.le_of_ble_eq_true rfl) (⟨fun _ _ _ _ => rfl, sSame.rfl, 1, 0, α, w, ⟨rfl, Or.inl ⟨rfl, h9⟩⟩, hA, hc, rfl, by omega, hw, fun q => absurd q (by decide)⟩)
  obtain ⟨rfl, hno, hsx, hc9, v, rfl, hck⟩ := h9
  refine s_i2l dL_check_8 ?_
  refine s_last (kd := 26) (ix := 0) (n := 1) (f := w) (j := 0) (x := v.toInt64) (((hsx 26 0 (by simp [pCk])).trans hw))  (rfl) (by decide) (by decide) dL_check_9 ?_
  refine s_goto 17 dL_check_10 (by decide) ?_
  refine s_iconst (v := 0) dL_check_17 (by decide) ?_
  exact s_iret rfl (rfl) dL_check_18 (Nat.le_of_ble_eq_true rfl) (Nat.le_of_ble_eq_true rfl) (⟨(fun _ _ _ _ => rfl), (hsx.mono (fun _ _ => ck_lw)).set (P := pLw) (Or.inr rfl) _, 0, v, α, _, ⟨rfl, Or.inr ⟨rfl, hno, hck⟩⟩, hA, hc9.keep (fun k i hk => sset_k _ _ (by omega)), rfl, by omega, sset_self _ _ _ _, fun _ => vp_updL_at _ _ _⟩)
def wuL_rowAt : List Cond := .codeWith yL_rowAt cL_rowAt 5 (some .int) [(0, 10, 13, 24)] :: wU
abbrev mL_rowAt : sMeth := (cL_rowAt, 5, RL, wuL_rowAt, { frames := 8, cells := 1, slots := 6, locals := 125 }, (some .int), "rowAt", [(0, 10, 13, 24)])
theorem gu_L_rowAt : GoodIn wuL_rowAt (wsV RL 42 RX3 yX3_rowAt wuX3_rowAt) := goodVU (by decide +kernel)
set_option maxHeartbeats 4000000 in
set_option maxRecDepth 100000 in
theorem c_L_rowAt (G : sG) (l : Launch) (hl : l.stackTraces = false) (ad : sAd) (M : sM) (α : sAl) (hA : AI α) (hc : cI G ad M α) (w : Nat → Int64) (hw : lOut G M w) (x y : Int32) : sMet G l yL_rowAt mL_rowAt [.ref (ad 0 0), .int x, .int y, .ref (ad 26 0)] ad M (lPost G ad M (fun k v α' => α' = α ∧ raR α x y k v)) (fun _ _ _ => False) := by
  obtain ⟨κ, h, hC⟩ := id hc
  refine sMet.ofH hl (by decide +kernel) rfl rfl rfl (Nat.le_of_ble_eq_true rfl) (fun X => ?_)
  refine s_lv (lv' := [some (.ref (ad 0 0)), some (.int x), some (.int y), some (.ref (ad 26 0)), none]) rfl ?_
  refine s_aload_n dL_rowAt_0 rfl ?_
  refine s_iconst (v := 0) dL_rowAt_1 (by decide) ?_
  refine s_aload_n dL_rowAt_2 rfl ?_
  refine s_iload_n dL_rowAt_3 rfl ?_
  refine s_iload_n dL_rowAt_4 rfl ?_
  refine s_xcallV (As := [.int x, .int y]) (rest := [.int 0, .ref (ad 26 0)]) (n := 2) (kd := 0) (ix := 0) (fun l hl => c_X3_rowAt G l hl ad M α hA κ h hC x y) gu_L_rowAt rfl (by decide +kernel) h.1 rfl rfl ⟨(Nat.le_of_ble_eq_true rfl), (Nat.le_of_ble_eq_true rfl)⟩ ⟨(Nat.le_of_ble_eq_true rfl), (Nat.le_of_ble_eq_true rfl)⟩ (Nat.le_of_ble_eq_true rfl) dL_rowAt_5 rfl (fun E ad9 M9 h9 => ?_) (fun r9 ad9 M9 h9 => ?_)
  · obtain ⟨rfl, rfl, rfl, h9⟩ := h9
    refine s_catch (E := eA) (hpc := 13) [] ⟨0, 10, 13, 24⟩ [] rfl (hp0 ) (by decide) (by decide) (List.mem_cons_of_mem _ (inU (by decide +kernel) rfl)) (by decide +kernel) rfl (fun q9 => ?_)
    refine s_astore dL_rowAt_13 rfl rfl ?_
    refine s_lv (lv' := [some (.ref (ad 0 0)), some (.int x), some (.int y), some (.ref (ad 26 0)), some (.ref q9)]) rfl ?_
    refine s_iconst (v := 1) dL_rowAt_15 (by decide) ?_
    exact s_iret rfl (rfl) dL_rowAt_16 (Nat.le_of_ble_eq_true rfl) (Nat.le_of_ble_eq_true rfl) (⟨fun _ _ _ _ => rfl, sSame.rfl, 1, 0, α, w, ⟨rfl, Or.inl ⟨rfl, h9⟩⟩, hA, hc, rfl, by omega, hw, fun q => absurd q (by decide)⟩)
  obtain ⟨rfl, rfl, jr, y9, hj, hx, hy8, hy, rfl⟩ := h9
  refine s_i2l dL_rowAt_8 ?_
  refine s_last (kd := 26) (ix := 0) (n := 1) (f := w) (j := 0) (x := (aRw α jr y9).toInt64) hw  (rfl) (by decide) (by decide) dL_rowAt_9 ?_
  refine s_goto 17 dL_rowAt_10 (by decide) ?_
  refine s_iconst (v := 0) dL_rowAt_17 (by decide) ?_
  exact s_iret rfl (rfl) dL_rowAt_18 (Nat.le_of_ble_eq_true rfl) (Nat.le_of_ble_eq_true rfl) (⟨(fun _ _ _ _ => rfl), sSame.rfl.set (P := pLw) (Or.inr rfl) _, 0, _, α, _, ⟨rfl, Or.inr ⟨rfl, jr, y9, hj, hx, hy8, hy, rfl⟩⟩, hA, hc.keep (fun k i hk => sset_k _ _ (by omega)), rfl, by omega, sset_self _ _ _ _, fun _ => vp_updL_at _ _ _⟩)
def wuL_counted : List Cond := .codeWith yL_counted cL_counted 4 (some .int) [(0, 9, 12, 24)] :: wU
abbrev mL_counted : sMeth := (cL_counted, 4, RL, wuL_counted, { frames := 8, cells := 1, slots := 6, locals := 128 }, (some .int), "counted", [(0, 9, 12, 24)])
theorem gu_L_counted : GoodIn wuL_counted (wsV RL 45 RX3 yX3_counted wuX3_counted) := goodVU (by decide +kernel)
set_option maxHeartbeats 4000000 in
set_option maxRecDepth 100000 in
theorem c_L_counted (G : sG) (l : Launch) (hl : l.stackTraces = false) (ad : sAd) (M : sM) (α : sAl) (hA : AI α) (hc : cI G ad M α) (w : Nat → Int64) (hw : lOut G M w) (x : Int32) : sMet G l yL_counted mL_counted [.ref (ad 0 0), .int x, .ref (ad 26 0)] ad M (lPost G ad M (fun k v α' => α' = α ∧ cdR α x k v)) (fun _ _ _ => False) := by
  obtain ⟨κ, h, hC⟩ := id hc
  refine sMet.ofH hl (by decide +kernel) rfl rfl rfl (Nat.le_of_ble_eq_true rfl) (fun X => ?_)
  refine s_lv (lv' := [some (.ref (ad 0 0)), some (.int x), some (.ref (ad 26 0)), none]) rfl ?_
  refine s_aload_n dL_counted_0 rfl ?_
  refine s_iconst (v := 0) dL_counted_1 (by decide) ?_
  refine s_aload_n dL_counted_2 rfl ?_
  refine s_iload_n dL_counted_3 rfl ?_
  refine s_xcallV (As := [.int x]) (rest := [.int 0, .ref (ad 26 0)]) (n := 1) (kd := 0) (ix := 0) (fun l hl => c_X3_counted G l hl ad M α hA κ h hC x) gu_L_counted rfl (by decide +kernel) h.1 rfl rfl ⟨(Nat.le_of_ble_eq_true rfl), (Nat.le_of_ble_eq_true rfl)⟩ ⟨(Nat.le_of_ble_eq_true rfl), (Nat.le_of_ble_eq_true rfl)⟩ (Nat.le_of_ble_eq_true rfl) dL_counted_4 rfl (fun E ad9 M9 h9 => ?_) (fun r9 ad9 M9 h9 => ?_)
  · obtain ⟨rfl, rfl, rfl, h9⟩ := h9
    refine s_catch (E := eA) (hpc := 12) [] ⟨0, 9, 12, 24⟩ [] rfl (hp0 ) (by decide) (by decide) (List.mem_cons_of_mem _ (inU (by decide +kernel) rfl)) (by decide +kernel) rfl (fun q9 => ?_)
    refine s_astore_n dL_counted_12 rfl rfl ?_
    refine s_lv (lv' := [some (.ref (ad 0 0)), some (.int x), some (.ref (ad 26 0)), some (.ref q9)]) rfl ?_
    refine s_iconst (v := 1) dL_counted_13 (by decide) ?_
    exact s_iret rfl (rfl) dL_counted_14 (Nat.le_of_ble_eq_true rfl) (Nat.le_of_ble_eq_true rfl) (⟨fun _ _ _ _ => rfl, sSame.rfl, 1, 0, α, w, ⟨rfl, Or.inl ⟨rfl, h9⟩⟩, hA, hc, rfl, by omega, hw, fun q => absurd q (by decide)⟩)
  obtain ⟨rfl, rfl, jr, N, hj, hx, rfl, hN⟩ := h9
  refine s_i2l dL_counted_7 ?_
  refine s_last (kd := 26) (ix := 0) (n := 1) (f := w) (j := 0) (x := (nI N).toInt64) hw  (rfl) (by decide) (by decide) dL_counted_8 ?_
  refine s_goto 15 dL_counted_9 (by decide) ?_
  refine s_iconst (v := 0) dL_counted_15 (by decide) ?_
  exact s_iret rfl (rfl) dL_counted_16 (Nat.le_of_ble_eq_true rfl) (Nat.le_of_ble_eq_true rfl) (⟨(fun _ _ _ _ => rfl), sSame.rfl.set (P := pLw) (Or.inr rfl) _, 0, _, α, _, ⟨rfl, Or.inr ⟨rfl, jr, N, hj, hx, rfl, hN⟩⟩, hA, hc.keep (fun k i hk => sset_k _ _ (by omega)), rfl, by omega, sset_self _ _ _ _, fun _ => vp_updL_at _ _ _⟩)
def wuL_terms : List Cond := .codeWith yL_terms cL_terms 4 (some .int) [(0, 9, 12, 24)] :: wU
abbrev mL_terms : sMeth := (cL_terms, 4, RL, wuL_terms, { frames := 9, cells := 1, slots := 6, locals := 147 }, (some .int), "terms", [(0, 9, 12, 24)])
theorem gu_L_terms : GoodIn wuL_terms (wsV RL 48 RX3 yX3_terms wuX3_terms) := goodVU (by decide +kernel)
set_option maxHeartbeats 4000000 in
set_option maxRecDepth 100000 in
theorem c_L_terms (G : sG) (l : Launch) (hl : l.stackTraces = false) (ad : sAd) (M : sM) (α : sAl) (hA : AI α) (hc : cI G ad M α) (w : Nat → Int64) (hw : lOut G M w) (x : Int32) : sMet G l yL_terms mL_terms [.ref (ad 0 0), .int x, .ref (ad 26 0)] ad M (lPost G ad M (fun k v α' => α' = α ∧ teR α x k v)) (fun _ _ _ => False) := by
  obtain ⟨κ, h, hC⟩ := id hc
  refine sMet.ofH hl (by decide +kernel) rfl rfl rfl (Nat.le_of_ble_eq_true rfl) (fun X => ?_)
  refine s_lv (lv' := [some (.ref (ad 0 0)), some (.int x), some (.ref (ad 26 0)), none]) rfl ?_
  refine s_aload_n dL_terms_0 rfl ?_
  refine s_iconst (v := 0) dL_terms_1 (by decide) ?_
  refine s_aload_n dL_terms_2 rfl ?_
  refine s_iload_n dL_terms_3 rfl ?_
  refine s_xcallV (As := [.int x]) (rest := [.int 0, .ref (ad 26 0)]) (n := 1) (kd := 0) (ix := 0) (fun l hl => c_X3_terms G l hl ad M α hA κ h hC x) gu_L_terms rfl (by decide +kernel) h.1 rfl rfl ⟨(Nat.le_of_ble_eq_true rfl), (Nat.le_of_ble_eq_true rfl)⟩ ⟨(Nat.le_of_ble_eq_true rfl), (Nat.le_of_ble_eq_true rfl)⟩ (Nat.le_of_ble_eq_true rfl) dL_terms_4 rfl (fun E ad9 M9 h9 => ?_) (fun r9 ad9 M9 h9 => ?_)
  · obtain ⟨rfl, rfl, rfl, h9⟩ := h9
    refine s_catch (E := eA) (hpc := 12) [] ⟨0, 9, 12, 24⟩ [] rfl (hp0 ) (by decide) (by decide) (List.mem_cons_of_mem _ (inU (by decide +kernel) rfl)) (by decide +kernel) rfl (fun q9 => ?_)
    refine s_astore_n dL_terms_12 rfl rfl ?_
    refine s_lv (lv' := [some (.ref (ad 0 0)), some (.int x), some (.ref (ad 26 0)), some (.ref q9)]) rfl ?_
    refine s_iconst (v := 1) dL_terms_13 (by decide) ?_
    exact s_iret rfl (rfl) dL_terms_14 (Nat.le_of_ble_eq_true rfl) (Nat.le_of_ble_eq_true rfl) (⟨fun _ _ _ _ => rfl, sSame.rfl, 1, 0, α, w, ⟨rfl, Or.inl ⟨rfl, h9⟩⟩, hA, hc, rfl, by omega, hw, fun q => absurd q (by decide)⟩)
  obtain ⟨rfl, rfl, j, v, hj, hx, rfl, hts⟩ := h9
  refine s_i2l dL_terms_7 ?_
  refine s_last (kd := 26) (ix := 0) (n := 1) (f := w) (j := 0) (x := v.toInt64) hw  (rfl) (by decide) (by decide) dL_terms_8 ?_
  refine s_goto 15 dL_terms_9 (by decide) ?_
  refine s_iconst (v := 0) dL_terms_15 (by decide) ?_
  exact s_iret rfl (rfl) dL_terms_16 (Nat.le_of_ble_eq_true rfl) (Nat.le_of_ble_eq_true rfl) (⟨(fun _ _ _ _ => rfl), sSame.rfl.set (P := pLw) (Or.inr rfl) _, 0, _, α, _, ⟨rfl, Or.inr ⟨rfl, j, hj, hx, hts⟩⟩, hA, hc.keep (fun k i hk => sset_k _ _ (by omega)), rfl, by omega, sset_self _ _ _ _, fun _ => vp_updL_at _ _ _⟩)
def wuL_term : List Cond := .codeWith yL_term cL_term 7 (some .int) [(0, 14, 17, 24), (0, 14, 21, 15)] :: wU
abbrev mL_term : sMeth := (cL_term, 7, RL, wuL_term, { frames := 9, cells := 2, slots := 12, locals := 150 }, (some .int), "term", [(0, 14, 17, 24), (0, 14, 21, 15)])
theorem gu_L_term : GoodIn wuL_term (wsV RL 51 RX3 yX3_term wuX3_term) := goodVU (by decide +kernel)
set_option maxHeartbeats 4000000 in
set_option maxRecDepth 100000 in
theorem c_L_term (G : sG) (l : Launch) (hl : l.stackTraces = false) (ad : sAd) (M : sM) (α : sAl) (hA : AI α) (hc : cI G ad M α) (w : Nat → Int64) (hw : lOut G M w) (x p q r : Int32) : sMet G l yL_term mL_term [.ref (ad 0 0), .int x, .int p, .int q, .int r, .ref (ad 26 0)] ad M (lPost G ad M (fun k v α' => α' = α ∧ tmR α x p q r k v)) (fun _ _ _ => False) := by
  obtain ⟨κ, h, hC⟩ := id hc
  refine sMet.ofH hl (by decide +kernel) rfl rfl rfl (Nat.le_of_ble_eq_true rfl) (fun X => ?_)
  refine s_lv (lv' := [some (.ref (ad 0 0)), some (.int x), some (.int p), some (.int q), some (.int r), some (.ref (ad 26 0)), none]) rfl ?_
  refine s_aload dL_term_0 rfl ?_
  refine s_iconst (v := 0) dL_term_2 (by decide) ?_
  refine s_aload_n dL_term_3 rfl ?_
  refine s_iload_n dL_term_4 rfl ?_
  refine s_iload_n dL_term_5 rfl ?_
  refine s_iload_n dL_term_6 rfl ?_
  refine s_iload dL_term_7 rfl ?_
  refine s_xcallV (As := [.int x, .int p, .int q, .int r]) (rest := [.int 0, .ref (ad 26 0)]) (n := 4) (kd := 0) (ix := 0) (fun l hl => c_X3_term G l hl ad M α hA κ h hC x p q r) gu_L_term rfl (by decide +kernel) h.1 rfl rfl ⟨(Nat.le_of_ble_eq_true rfl), (Nat.le_of_ble_eq_true rfl)⟩ ⟨(Nat.le_of_ble_eq_true rfl), (Nat.le_of_ble_eq_true rfl)⟩ (Nat.le_of_ble_eq_true rfl) dL_term_9 rfl (fun E ad9 M9 h9 => ?_) (fun r9 ad9 M9 h9 => ?_)
  · obtain ⟨rfl, rfl, h9⟩ := h9
    rcases h9 with ⟨rfl, h9⟩ | ⟨rfl, h9⟩
    · refine s_catch (E := eA) (hpc := 17) [] ⟨0, 14, 17, 24⟩ [⟨0, 14, 21, 15⟩] rfl (hp0 ) (by decide) (by decide) (List.mem_cons_of_mem _ (inU (by decide +kernel) rfl)) (by decide +kernel) rfl (fun q9 => ?_)
      refine s_astore dL_term_17 rfl rfl ?_
      refine s_lv (lv' := [some (.ref (ad 0 0)), some (.int x), some (.int p), some (.int q), some (.int r), some (.ref (ad 26 0)), some (.ref q9)]) rfl ?_
      refine s_iconst (v := 1) dL_term_19 (by decide) ?_
      exact s_iret rfl (rfl) dL_term_20 (Nat.le_of_ble_eq_true rfl) (Nat.le_of_ble_eq_true rfl) (⟨fun _ _ _ _ => rfl, sSame.rfl, 1, 0, α, w, ⟨rfl, Or.inl ⟨rfl, h9⟩⟩, hA, hc, rfl, by omega, hw, fun q => absurd q (by decide)⟩)
    · refine s_catch (E := eS) (hpc := 21) [⟨0, 14, 17, 24⟩] ⟨0, 14, 21, 15⟩ [] rfl (hp1 (Or.inr ⟨by decide, eA, (List.mem_cons_of_mem _ (inU (by decide +kernel) rfl)), by decide +kernel⟩)) (by decide) (by decide) (List.mem_cons_of_mem _ (inU (by decide +kernel) rfl)) (by decide +kernel) rfl (fun q9 => ?_)
      refine s_astore dL_term_21 rfl rfl ?_
      refine s_lv (lv' := [some (.ref (ad 0 0)), some (.int x), some (.int p), some (.int q), some (.int r), some (.ref (ad 26 0)), some (.ref q9)]) rfl ?_
      refine s_iconst (v := 2) dL_term_23 (by decide) ?_
      exact s_iret rfl (rfl) dL_term_24 (Nat.le_of_ble_eq_true rfl) (Nat.le_of_ble_eq_true rfl) (⟨fun _ _ _ _ => rfl, sSame.rfl, 2, 0, α, w, ⟨rfl, Or.inr (Or.inl ⟨rfl, h9⟩)⟩, hA, hc, rfl, by omega, hw, fun q => absurd q (by decide)⟩)
  obtain ⟨rfl, rfl, j, v, hj, hx, hg, rfl, hts⟩ := h9
  refine s_i2l dL_term_12 ?_
  refine s_last (kd := 26) (ix := 0) (n := 1) (f := w) (j := 0) (x := v.toInt64) hw  (rfl) (by decide) (by decide) dL_term_13 ?_
  refine s_goto 25 dL_term_14 (by decide) ?_
  refine s_iconst (v := 0) dL_term_25 (by decide) ?_
  exact s_iret rfl (rfl) dL_term_26 (Nat.le_of_ble_eq_true rfl) (Nat.le_of_ble_eq_true rfl) (⟨(fun _ _ _ _ => rfl), sSame.rfl.set (P := pLw) (Or.inr rfl) _, 0, _, α, _, ⟨rfl, Or.inr (Or.inr ⟨rfl, j, hj, hx, hg, hts⟩)⟩, hA, hc.keep (fun k i hk => sset_k _ _ (by omega)), rfl, by omega, sset_self _ _ _ _, fun _ => vp_updL_at _ _ _⟩)
def wuL_deep : List Cond := .codeWith yL_deep cL_deep 4 (some .int) [(0, 9, 12, 24)] :: wU
abbrev mL_deep : sMeth := (cL_deep, 4, RL, wuL_deep, { frames := 9, cells := 1, slots := 6, locals := 146 }, (some .int), "deep", [(0, 9, 12, 24)])
theorem gu_L_deep : GoodIn wuL_deep (wsV RL 54 RX3 yX3_deep wuX3_deep) := goodVU (by decide +kernel)
set_option maxHeartbeats 4000000 in
set_option maxRecDepth 100000 in
theorem c_L_deep (G : sG) (l : Launch) (hl : l.stackTraces = false) (ad : sAd) (M : sM) (α : sAl) (hA : AI α) (hc : cI G ad M α) (w : Nat → Int64) (hw : lOut G M w) (x : Int32) : sMet G l yL_deep mL_deep [.ref (ad 0 0), .int x, .ref (ad 26 0)] ad M (lPost G ad M (fun k v α' => α' = α ∧ dpR α x k v)) (fun _ _ _ => False) := by
  obtain ⟨κ, h, hC⟩ := id hc
  refine sMet.ofH hl (by decide +kernel) rfl rfl rfl (Nat.le_of_ble_eq_true rfl) (fun X => ?_)
  refine s_lv (lv' := [some (.ref (ad 0 0)), some (.int x), some (.ref (ad 26 0)), none]) rfl ?_
  refine s_aload_n dL_deep_0 rfl ?_
  refine s_iconst (v := 0) dL_deep_1 (by decide) ?_
  refine s_aload_n dL_deep_2 rfl ?_
  refine s_iload_n dL_deep_3 rfl ?_
  refine s_xcallV (As := [.int x]) (rest := [.int 0, .ref (ad 26 0)]) (n := 1) (kd := 0) (ix := 0) (fun l hl => c_X3_deep G l hl ad M α hA κ h hC x) gu_L_deep rfl (by decide +kernel) h.1 rfl rfl ⟨(Nat.le_of_ble_eq_true rfl), (Nat.le_of_ble_eq_true rfl)⟩ ⟨(Nat.le_of_ble_eq_true rfl), (Nat.le_of_ble_eq_true rfl)⟩ (Nat.le_of_ble_eq_true rfl) dL_deep_4 rfl (fun E ad9 M9 h9 => ?_) (fun r9 ad9 M9 h9 => ?_)
  · obtain ⟨rfl, rfl, rfl, h9⟩ := h9
    refine s_catch (E := eA) (hpc := 12) [] ⟨0, 9, 12, 24⟩ [] rfl (hp0 ) (by decide) (by decide) (List.mem_cons_of_mem _ (inU (by decide +kernel) rfl)) (by decide +kernel) rfl (fun q9 => ?_)
    refine s_astore_n dL_deep_12 rfl rfl ?_
    refine s_lv (lv' := [some (.ref (ad 0 0)), some (.int x), some (.ref (ad 26 0)), some (.ref q9)]) rfl ?_
    refine s_iconst (v := 1) dL_deep_13 (by decide) ?_
    exact s_iret rfl (rfl) dL_deep_14 (Nat.le_of_ble_eq_true rfl) (Nat.le_of_ble_eq_true rfl) (⟨fun _ _ _ _ => rfl, sSame.rfl, 1, 0, α, w, ⟨rfl, Or.inl ⟨rfl, h9⟩⟩, hA, hc, rfl, by omega, hw, fun q => absurd q (by decide)⟩)
  obtain ⟨rfl, rfl, j, hj, hx, rfl⟩ := h9
  refine s_i2l dL_deep_7 ?_
  refine s_last (kd := 26) (ix := 0) (n := 1) (f := w) (j := 0) (x := (nI (aD α j)).toInt64) hw  (rfl) (by decide) (by decide) dL_deep_8 ?_
  refine s_goto 15 dL_deep_9 (by decide) ?_
  refine s_iconst (v := 0) dL_deep_15 (by decide) ?_
  exact s_iret rfl (rfl) dL_deep_16 (Nat.le_of_ble_eq_true rfl) (Nat.le_of_ble_eq_true rfl) (⟨(fun _ _ _ _ => rfl), sSame.rfl.set (P := pLw) (Or.inr rfl) _, 0, _, α, _, ⟨rfl, Or.inr ⟨rfl, j, hj, hx, rfl⟩⟩, hA, hc.keep (fun k i hk => sset_k _ _ (by omega)), rfl, by omega, sset_self _ _ _ _, fun _ => vp_updL_at _ _ _⟩)
def wuL_alike : List Cond := .codeWith yL_alike cL_alike 5 (some .int) [(0, 17, 20, 24)] :: wU
abbrev mL_alike : sMeth := (cL_alike, 5, RL, wuL_alike, { frames := 9, cells := 2, slots := 12, locals := 147 }, (some .int), "alike", [(0, 17, 20, 24)])
theorem gu_L_alike : GoodIn wuL_alike (wsV RL 57 RX3 yX3_alike wuX3_alike) := goodVU (by decide +kernel)
set_option maxHeartbeats 4000000 in
set_option maxRecDepth 100000 in
theorem c_L_alike (G : sG) (l : Launch) (hl : l.stackTraces = false) (ad : sAd) (M : sM) (α : sAl) (hA : AI α) (hc : cI G ad M α) (w : Nat → Int64) (hw : lOut G M w) (x y : Int32) : sMet G l yL_alike mL_alike [.ref (ad 0 0), .int x, .int y, .ref (ad 26 0)] ad M (lPost G ad M (fun k v α' => α' = α ∧ alR α x y k v)) (fun _ _ _ => False) := by
  obtain ⟨κ, h, hC⟩ := id hc
  refine sMet.ofH hl (by decide +kernel) rfl rfl rfl (Nat.le_of_ble_eq_true rfl) (fun X => ?_)
  refine s_lv (lv' := [some (.ref (ad 0 0)), some (.int x), some (.int y), some (.ref (ad 26 0)), none]) rfl ?_
  refine s_aload_n dL_alike_0 rfl ?_
  refine s_iconst (v := 0) dL_alike_1 (by decide) ?_
  refine s_aload_n dL_alike_2 rfl ?_
  refine s_iload_n dL_alike_3 rfl ?_
  refine s_iload_n dL_alike_4 rfl ?_
  refine s_xcallV (As := [.int x, .int y]) (rest := [.int 0, .ref (ad 26 0)]) (n := 2) (kd := 0) (ix := 0) (fun l hl => c_X3_alike G l hl ad M α hA κ h hC x y) gu_L_alike rfl (by decide +kernel) h.1 rfl rfl ⟨(Nat.le_of_ble_eq_true rfl), (Nat.le_of_ble_eq_true rfl)⟩ ⟨(Nat.le_of_ble_eq_true rfl), (Nat.le_of_ble_eq_true rfl)⟩ (Nat.le_of_ble_eq_true rfl) dL_alike_5 rfl (fun E ad9 M9 h9 => ?_) (fun r9 ad9 M9 h9 => ?_)
  · obtain ⟨rfl, rfl, rfl, h9⟩ := h9
    refine s_catch (E := eA) (hpc := 20) [] ⟨0, 17, 20, 24⟩ [] rfl (hp0 ) (by decide) (by decide) (List.mem_cons_of_mem _ (inU (by decide +kernel) rfl)) (by decide +kernel) rfl (fun q9 => ?_)
    refine s_astore dL_alike_20 rfl rfl ?_
    refine s_lv (lv' := [some (.ref (ad 0 0)), some (.int x), some (.int y), some (.ref (ad 26 0)), some (.ref q9)]) rfl ?_
    refine s_iconst (v := 1) dL_alike_22 (by decide) ?_
    exact s_iret rfl (rfl) dL_alike_23 (Nat.le_of_ble_eq_true rfl) (Nat.le_of_ble_eq_true rfl) (⟨fun _ _ _ _ => rfl, sSame.rfl, 1, 0, α, w, ⟨rfl, Or.inl ⟨rfl, h9⟩⟩, hA, hc, rfl, by omega, hw, fun q => absurd q (by decide)⟩)
  obtain ⟨rfl, rfl, ja, jb, hja, hjb, hx, hy, rfl⟩ := h9
  refine s_if_eq 15 dL_alike_8 (by decide) (fun c8 => ?_) (fun c8 => ?_)
  · refine s_lconst (v := 0) dL_alike_15 (by decide) ?_
    refine s_last (kd := 26) (ix := 0) (n := 1) (f := w) (j := 0) (x := 0) hw  (rfl) (by decide) (by decide) dL_alike_16 ?_
    refine s_goto 24 dL_alike_17 (by decide) ?_
    refine s_iconst (v := 0) dL_alike_24 (by decide) ?_
    exact s_iret rfl (rfl) dL_alike_25 (Nat.le_of_ble_eq_true rfl) (Nat.le_of_ble_eq_true rfl) (⟨(fun _ _ _ _ => rfl), sSame.rfl.set (P := pLw) (Or.inr rfl) _, 0, _, α, _, ⟨rfl, Or.inr ⟨rfl, ja, jb, hja, hjb, hx, hy, rfl⟩⟩, hA, hc.keep (fun k i hk => sset_k _ _ (by omega)), rfl, by omega, sset_self _ _ _ _, fun _ => by rw [vp_updL_at, c8]; rfl⟩)
  · refine s_lconst (v := 1) dL_alike_11 (by decide) ?_
    refine s_goto 16 dL_alike_12 (by decide) ?_
    refine s_last (kd := 26) (ix := 0) (n := 1) (f := w) (j := 0) (x := 1) hw  (rfl) (by decide) (by decide) dL_alike_16 ?_
    refine s_goto 24 dL_alike_17 (by decide) ?_
    refine s_iconst (v := 0) dL_alike_24 (by decide) ?_
    exact s_iret rfl (rfl) dL_alike_25 (Nat.le_of_ble_eq_true rfl) (Nat.le_of_ble_eq_true rfl) (⟨(fun _ _ _ _ => rfl), sSame.rfl.set (P := pLw) (Or.inr rfl) _, 0, _, α, _, ⟨rfl, Or.inr ⟨rfl, ja, jb, hja, hjb, hx, hy, rfl⟩⟩, hA, hc.keep (fun k i hk => sset_k _ _ (by omega)), rfl, by omega, sset_self _ _ _ _, fun _ => by rw [vp_updL_at, Bool.of_not_eq_false (fun z => c8 (jB_0.mpr z))]; rfl⟩)
