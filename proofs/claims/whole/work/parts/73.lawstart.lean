/-! what holds at the law's entry, as the frame wants it -/
section SST
theorem posIn {ι : Type} (l : List ι) (f : ι → Cond) (ps : List Nat) (hp : l.map f = ps.filterMap (fun i => lw_tbl[i]?)) : ∀ w ∈ l, f w ∈ lw_tbl := fun w hw => by
  have h : f w ∈ l.map f := List.mem_map_of_mem hw
  rw [hp] at h
  obtain ⟨i, -, hi⟩ := List.mem_filterMap.mp h
  exact List.mem_of_getElem? hi
theorem pNF : ∀ w ∈ sNF, Cond.fieldLinkNest w.1 w.2.1 w.2.2.1 w.2.2.2.1 w.2.2.2.2.1 w.2.2.2.2.2 ∈ lw_tbl := posIn sNF (fun w => Cond.fieldLinkNest w.1 w.2.1 w.2.2.1 w.2.2.2.1 w.2.2.2.2.1 w.2.2.2.2.2) [260, 264, 265, 110, 261, 262, 263, 107, 104, 109, 103, 106, 112] (by decide +kernel)
theorem pNM : ∀ w ∈ sNM, Cond.methodLinkNest w.1 w.2.1 w.2.2.1 w.2.2.2 ∈ lw_tbl := posIn sNM (fun w => Cond.methodLinkNest w.1 w.2.1 w.2.2.1 w.2.2.2) [74, 98, 279, 286, 363, 530, 253, 367, 368, 372, 380, 384, 460, 468, 482, 296, 472, 473, 486, 388, 389, 390, 258] (by decide +kernel)
theorem pTX : ∀ w ∈ sTx, Cond.stringRef RX3 w.1 w.2 ∈ lw_tbl := posIn sTx (fun w => Cond.stringRef RX3 w.1 w.2) [205, 245, 326, 346, 356, 358, 409, 410, 425, 426, 434, 435, 443, 500, 526] (by decide +kernel)
theorem pCS : ∀ w ∈ sCs, Cond.castable w w ∈ lw_tbl := posIn sCs (fun w => Cond.castable w w) [337, 166, 238] (by decide +kernel)
theorem pDC : ∀ w ∈ sDc, Cond.declares w ∈ lw_tbl := posIn sDc (fun w => Cond.declares w) [339, 168, 170, 172] (by decide +kernel)
theorem pJ : ∀ w ∈ wsJx000600, w ∈ lw_tbl := posIn wsJx000600 id [341, 342, 343, 344, 345, 354] (by decide +kernel)
theorem pNC : ∀ w ∈ sNc, Cond.not (.castable w.1 w.2) ∈ flatC (Jvm.Cond.and given_1 narrow_1) := by decide +kernel
theorem arrT {s : State} {c : ClassId} {k : Class} {comp : ClassId} {ty : FieldType} (h1 : s.vm.classes[c]? = some k) (h2 : k.kind = .array comp ty) : ArrOfT s c ty := fun n z => ⟨(fun k9 h => by cases h), k, h1, comp, h2⟩
theorem sTa_ex (b : Nat) (s : State) : ∃ g : Nat → Nat, ∀ k : Nat, (∃ a : Nat, (Term.string RX3 k).eval #[Value.ref b] s none [] s = some (.ref a)) → (Term.string RX3 k).eval #[Value.ref b] s none [] s = some (.ref (g k)) := by
  refine Classical.axiomOfChoice (r := fun (k a : Nat) => (∃ a : Nat, (Term.string RX3 k).eval #[Value.ref b] s none [] s = some (.ref a)) → (Term.string RX3 k).eval #[Value.ref b] s none [] s = some (.ref a)) fun k => ?_
  by_cases h : ∃ a : Nat, (Term.string RX3 k).eval #[Value.ref b] s none [] s = some (.ref a)
  · exact ⟨h.choose, fun _ => h.choose_spec⟩
  · exact ⟨0, fun q => absurd q h⟩
theorem el7 {s : State} {b : Nat} (hs : ∀ c ∈ flatC (Jvm.Cond.and given_1 narrow_1), c.before #[Value.ref b] s = true) : ∀ j : Nat, j < 7 → (Term.elem (.static RX3 "TREE_FIELDS" "[I") (.int (Int32.ofNat j))).eval #[Value.ref b] s none [] s = some (sTF j) := by
  intro j hj
  rcases (show j = 0 ∨ j = 1 ∨ j = 2 ∨ j = 3 ∨ j = 4 ∨ j = 5 ∨ j = 6 by omega) with rfl | rfl | rfl | rfl | rfl | rfl | rfl
  · exact va_eqt (z := 2) (hs _ (by decide +kernel))
  · exact va_eqt (z := 2) (hs _ (by decide +kernel))
  · exact va_eqt (z := 3) (hs _ (by decide +kernel))
  · exact va_eqt (z := 1) (hs _ (by decide +kernel))
  · exact va_eqt (z := 2) (hs _ (by decide +kernel))
  · exact va_eqt (z := 1) (hs _ (by decide +kernel))
  · exact va_eqt (z := 2) (hs _ (by decide +kernel))
set_option maxHeartbeats 4000000 in
theorem cx_of {s : State} {b : Nat} (hts : ∀ w ∈ lw_tbl, w.before #[Value.ref b] s = true) (hgv : (Jvm.Cond.and given_1 narrow_1).before #[Value.ref b] s = true) : ∃ G : sG, gN G = s.heap.size ∧ sCx G s := by
  have hs := flat_of_before _ hgv
  have T : ∀ (w : Cond) (i : Nat), lw_tbl[i]? = some w → w.before #[Value.ref b] s = true := fun w i h => hts _ (List.mem_of_getElem? h)
  have hA : ∀ a : Nat, a < s.heap.size → ¬ (fun q => s.heap.size ≤ q) a := fun a h q => absurd h (Nat.not_lt.mpr q)
  obtain ⟨c0, i0, k0⟩ := u_known (C := RJx00060) (T := TJx00060) (N := 6) hts pJ (T (.instantiable RJx00060 6) 336 (by decide +kernel))
  obtain ⟨c1, i1, k1⟩ := u_known (C := RX0) (T := TX0) (N := 5) hts (fun w hw => (iu_X0 w hw).1) (T (.instantiable RX0 5) 97 (by decide +kernel))
  obtain ⟨c2, i2, k2⟩ := u_known (C := RX1) (T := TX1) (N := 5) hts (fun w hw => (iu_X1 w hw).1) (T (.instantiable RX1 5) 73 (by decide +kernel))
  obtain ⟨c3, i3, k3⟩ := u_known (C := RX2) (T := TX2) (N := 6) hts (fun w hw => (iu_X2 w hw).1) (T (.instantiable RX2 6) 252 (by decide +kernel))
  obtain ⟨c4, i4, k4⟩ := u_known (C := RX3) (T := TX3) (N := 6) hts (fun w hw => (iu_X3 w hw).1) (T (.instantiable RX3 6) 61 (by decide +kernel))
  obtain ⟨c5, i5, k5⟩ := u_known (C := RX4) (T := TX4) (N := 17) hts (fun w hw => (iu_X4 w hw).1) (T (.instantiable RX4 17) 549 (by decide +kernel))
  obtain ⟨aI, kI, pI, fI, mI, qI⟩ := Cond.arrayClass_spec (T (.arrayClass .int) 94 (by decide +kernel))
  obtain ⟨aJ, kJ, pJ', fJ, mJ, qJ⟩ := Cond.arrayClass_spec (T (.arrayClass .long) 95 (by decide +kernel))
  obtain ⟨aZ, kZ', pZ, fZ, mZ, qZ⟩ := Cond.arrayClass_spec (T (.arrayClass .boolean) 606 (by decide +kernel))
  have oT := T (.arrayOver (.object RX2)) 69 (by decide +kernel)
  have oR := T (.arrayOver (.array .int)) 71 (by decide +kernel)
  obtain ⟨pT, aT', kT, f1, -, f3, f4, f5⟩ := Cond.arrayOver_spec oT
  obtain ⟨pR, aR', kR, g1, -, g3, g4, g5⟩ := arrayOverA_spec oR
  obtain ⟨t, ht, hT7⟩ := va_Tof (tm := .static RX3 "TREE_FIELDS" "[I") (ty := .int) (N := 7) (f := sTF) (A := fun q => s.heap.size ≤ q) (by decide) (hs _ (by decide +kernel)) (va_eqt (z := 7) (hs _ (by decide +kernel))) (el7 hs) hA
  obtain ⟨gS9, hS9⟩ := sTa_ex b s
  obtain ⟨cX, kX, hcX⟩ : ∃ (c : ClassId) (k : Nat), s.vm.findClass RX3 = some c := ⟨c4, 0, k4.2.1⟩
  refine ⟨((fun k => match k with | 0 => c0 | 1 => c1 | 2 => c2 | 3 => c3 | 4 => c4 | _ => c5, fun k => match k with | 0 => i0 | 1 => i1 | 2 => i2 | 3 => i3 | 4 => i4 | _ => i5), (aI, aJ, aZ, aT', aR'), t, s.heap.size, gS9), rfl, ⟨⟨fun c q hq => ?_, fun k q hq => ?_⟩, fun w hw => va_Nw.of rfl (hts _ (pNF w hw)), fun w hw => va_Nw.of rfl (hts _ (pNM w hw)), fun w hw => vk_R.of (A := #[Value.ref b]) (hts _ (pTX w hw)) ?_, va_AO.of oT, oR, fun w hw => va_Nw.of rfl (hts _ (pCS w hw)), fun w hw => va_Nw.of rfl (hts _ (pDC w hw)), fun w hw => va_Nc.of (hs _ (pNC w hw))⟩, va_Zref (T (.laysStatic RX3 "TREE_FIELDS" "[I") 402 (by decide +kernel)) (T (.initialized RX3) 47 (by decide +kernel)) ht hA, hT7, vx_Zqof (T (.laysStatic Bundle.tN "UNASSIGNED_STACK" Bundle.steD) 191 (by decide +kernel)) (T (.initialized Bundle.tN) 51 (by decide +kernel)) (hs _ (by decide +kernel)) hA, vx_Zqof (T (.laysStatic Bundle.tN "SUPPRESSED_SENTINEL" Bundle.listD) 193 (by decide +kernel)) (T (.initialized Bundle.tN) 51 (by decide +kernel)) (hs _ (by decide +kernel)) hA⟩
  · match c, hq with
    | 0, hq => cases hq; exact k0
    | 1, hq => cases hq; exact k1
    | 2, hq => cases hq; exact k2
    | 3, hq => cases hq; exact k3
    | 4, hq => cases hq; exact k4
    | 5, hq => cases hq; exact k5
    | n + 6, hq => simp at hq
  · match k, hq with
    | 0, hq => cases hq; exact ⟨arrT mI qI, fI⟩
    | 1, hq => cases hq; exact ⟨arrT mJ qJ, fJ⟩
    | 2, hq => cases hq; exact ⟨arrT mZ qZ, fZ⟩
    | 3, hq => cases hq; exact ⟨arrT f3 f4, kT, pT, f3, f4, f1, f5⟩
    | 4, hq => cases hq; exact ⟨arrT g3 g4, g5⟩
    | n + 5, hq => simp at hq
  · obtain ⟨_, _, _, a, _, _, _, _, _, h6⟩ := Cond.stringRef_spec hcX (hts _ (pTX w hw))
    exact hS9 _ ⟨a, h6⟩
end SST
