/-! THE FRAME, part five: arrays of references, the static table's reads. -/
section SFE
variable {X : sMach} {G : sG} {Y : sMeth} {Q : State → Prop} {ad : sAd} {M : sM} {kc ks : Nat} {lv : List (Option Value)} {pc : Nat} {rest : List Value} {kd ix : Nat}
theorem s_aald {n : Nat} {f : Nat → Option Nat} {i : Int32} {j : Nat} {v : Value} {cA : ClassId} {ty : FieldType} (t0 : Nat) (ht : (gTys G)[t0]? = some (cA, ty)) (hr : ty.isReference = true) (he : M kd ix = some (.inl (cA, n, .inr (.inr (.inr (.inr f)))))) (hi : i = nI j) (hj : j < n) (hn31 : n < 2 ^ 31) (hv : va_rf (f j) = v) (hd : decode (yC Y) pc = .ok (.aaload, 1)) (k : sW X G Y Q ad M kc ks lv (pc + 1) (v :: rest)) : sW X G Y Q ad M kc ks lv pc (.int i :: .ref (ad kd ix) :: rest) := by
  intro F H locs ls hM hS hL hn
  subst hi
  subst hv
  refine W.aald F.1 F.2.1 (hM.1 kd ix _ he).2 ((F.2.2.2.2.2.2.1.1.1.2 t0 _ ht).1 n (fun j => va_rf (f j))) hr (fun q => by cases q) (by show ¬ (nI j < 0 ∨ (arrV _ _ _).slots.size ≤ _); rw [arrV_size]; exact vp_in_nI hj hn31) (v := va_rf (f j)) (by rw [nI_clamp (Nat.lt_trans hj hn31)]; show (arrV _ _ _).slots[_]? = _; rw [arrV_read _ _ hj]) rfl rfl hd (k F H locs ls hM hS hL hn)
theorem s_aast {n : Nat} {f : Nat → Option Nat} {i : Int32} {j : Nat} {ci kd' ix' : Nat} {r : vw_C} {vs : List Value} {cA : ClassId} (t0 : Nat) (ht : (gTys G)[t0]? = some (cA, .object r.1)) (he : M kd ix = some (.inl (cA, n, .inr (.inr (.inr (.inr f)))))) (hv : M kd' ix' = some (.inr (ci, vs))) (hc : vwCl[ci]? = some r) (hi : i = nI j) (hj : j < n) (hn31 : n < 2 ^ 31) (hd : decode (yC Y) pc = .ok (.aastore, 1)) (k : sW X G Y Q ad (sset M kd ix (.inl (cA, n, .inr (.inr (.inr (.inr (va_up f j (some (ad kd' ix'))))))))) kc ks lv (pc + 1) rest) : sW X G Y Q ad M kc ks lv pc (.ref (ad kd' ix') :: .int i :: .ref (ad kd ix) :: rest) := by
  intro F H locs ls hM hS hL hn
  subst hi
  have hK := F.2.2.2.2.2.2.1.1.1
  obtain ⟨r', hr', cellV, g1, g2, g3, -⟩ := (hM.1 kd' ix' _ hv).2
  have hcls := (hK.1 ci r hc).2
  obtain ⟨kA, comp, k1, k2, k3, -⟩ := (hK.2 t0 _ ht).2
  have hcomp : comp = (gD G).1 ci := Option.some.inj (k3.symm.trans hcls.1)
  subst hcomp
  obtain ⟨kC, hkC, -⟩ := hcls.2
  refine W.aast F.1 F.2.1 (hM.1 kd ix _ he).2 (fun q h => by cases h) (fun h => by cases h) k1 k2 rfl hkC ⟨nI_pos (Nat.lt_trans hj hn31), by show _ < (arrV _ _ _).slots.size; rw [arrV_size, nI_clamp (Nat.lt_trans hj hn31)]; exact hj⟩ g1 (fun q h => by rw [g3] at h; cases h) (by rw [g2]; exact hkC) (by rw [g2]; exact va_assign hcls) rfl rfl hd fun H1 e z oq => ?_
  refine k F H1 _ ls (hM.set he ?_ oq) (hS.put z oq (hM.1 kd ix _ he).1) hL hn
  show H1[ad kd ix]? = some (vp_cell _ _)
  rw [e, nI_clamp (Nat.lt_trans hj hn31)]
  rw [vp_cell_q, vp_cell_q, arrV_store]
  congr 2
  funext q
  by_cases hq : q = j
  · subst hq
    simp [updV, va_up, va_rf]
  · simp [updV, va_up, hq]
def tfN : Nat → Nat := fun j => match j with
  | 0 => 2
  | 1 => 2
  | 2 => 3
  | 3 => 1
  | 4 => 2
  | 5 => 1
  | _ => 2
theorem sTF_eq (j : Nat) (hj : j < 7) : sTF j = .int (nI (tfN j)) := by
  rcases (show j = 0 ∨ j = 1 ∨ j = 2 ∨ j = 3 ∨ j = 4 ∨ j = 5 ∨ j = 6 by omega) with rfl | rfl | rfl | rfl | rfl | rfl | rfl <;> rfl
theorem s_tfl {i : Int32} {j : Nat} (hi : i = nI j) (hj : j < 7) (hd : decode (yC Y) pc = .ok (.iaload, 1)) (k : sW X G Y Q ad M kc ks lv (pc + 1) (.int (nI (tfN j)) :: rest)) : sW X G Y Q ad M kc ks lv pc (.int i :: .ref (gF G) :: rest) := fun F H locs ls a b c d => by
  subst hi
  exact va_ti F.1 F.2.1 F.2.2.2.2.2.2.1.2.2.1 b (vp_in_nI hj (by decide)) (by rw [nI_clamp (by omega)]; exact sTF_eq j hj) hd (k F H locs ls a b c d)
/-! all good words of the tables, for the methods whose printed lists don't hold all that they need -/
def wU : List Cond := lw_tbl.filter goodWord
theorem inU {w : Cond} (h1 : w ∈ lw_tbl) (h2 : goodWord w = true) : w ∈ wU := List.mem_filter.mpr ⟨h1, h2⟩
theorem goodU {ws : List Cond} {c : Cond} (h1 : ∀ w ∈ ws, w ∈ lw_tbl) (h2 : ws.all goodWord = true) : GoodIn (c :: wU) ws := goodIn_sub (fun w hw => List.mem_cons_of_mem _ (inU (h1 w hw) (List.all_eq_true.mp h2 w hw))) h2
theorem goodUU {c c' : Cond} (h1 : c' ∈ lw_tbl) (h2 : goodWord c' = true) : GoodIn (c :: wU) (c' :: wU) := goodIn_sub (fun w hw => List.mem_cons_of_mem _ ((List.mem_cons.mp hw).elim (fun e => e ▸ inU h1 h2) id)) (List.all_eq_true.mpr (fun w hw => (List.mem_cons.mp hw).elim (fun e => e ▸ h2) (fun h => (List.mem_filter.mp h).2)))
abbrev eA : String := "java/lang/ArrayIndexOutOfBoundsException"
abbrev eI : String := "java/lang/IllegalArgumentException"
abbrev eS : String := "java/lang/IllegalStateException"
abbrev eAs : List String := ["java/lang/IndexOutOfBoundsException", "java/lang/RuntimeException", "java/lang/Exception"]
abbrev eRs : List String := ["java/lang/RuntimeException", "java/lang/Exception"]
set_option maxRecDepth 100000 in
theorem xwA : ∀ w ∈ (vx_atS RX3 86 eA eAs).filter goodWord, w ∈ lw_tbl := by decide +kernel
set_option maxRecDepth 100000 in
theorem xbA : ∀ w ∈ (vx_atS RX3 86 eA eAs).filter (fun w => !goodWord w), w ∈ sBad := by decide +kernel
set_option maxRecDepth 100000 in
theorem xoA : ∀ w ∈ Cond.classLink RX3 82 eA :: Cond.initialized eA :: vx_atS RX3 86 eA eAs, vx_ot w = true := by decide +kernel
theorem xuA {c : Cond} : ∀ w ∈ (vx_atS RX3 86 eA eAs).filter goodWord, w ∈ c :: wU := fun w hw => List.mem_cons_of_mem _ (inU (xwA w hw) (List.mem_filter.mp hw).2)
set_option maxRecDepth 100000 in
theorem xwI : ∀ w ∈ (vx_atS RX3 49 eI eRs).filter goodWord, w ∈ lw_tbl := by decide +kernel
set_option maxRecDepth 100000 in
theorem xbI : ∀ w ∈ (vx_atS RX3 49 eI eRs).filter (fun w => !goodWord w), w ∈ sBad := by decide +kernel
set_option maxRecDepth 100000 in
theorem xoI : ∀ w ∈ Cond.classLink RX3 45 eI :: Cond.initialized eI :: vx_atS RX3 49 eI eRs, vx_ot w = true := by decide +kernel
theorem xuI {c : Cond} : ∀ w ∈ (vx_atS RX3 49 eI eRs).filter goodWord, w ∈ c :: wU := fun w hw => List.mem_cons_of_mem _ (inU (xwI w hw) (List.mem_filter.mp hw).2)
set_option maxRecDepth 100000 in
theorem xwS : ∀ w ∈ (vx_atS RX3 120 eS eRs).filter goodWord, w ∈ lw_tbl := by decide +kernel
set_option maxRecDepth 100000 in
theorem xbS : ∀ w ∈ (vx_atS RX3 120 eS eRs).filter (fun w => !goodWord w), w ∈ sBad := by decide +kernel
set_option maxRecDepth 100000 in
theorem xoS : ∀ w ∈ Cond.classLink RX3 116 eS :: Cond.initialized eS :: vx_atS RX3 120 eS eRs, vx_ot w = true := by decide +kernel
theorem xuS {c : Cond} : ∀ w ∈ (vx_atS RX3 120 eS eRs).filter goodWord, w ∈ c :: wU := fun w hw => List.mem_cons_of_mem _ (inU (xwS w hw) (List.mem_filter.mp hw).2)
end SFE
