set_option maxHeartbeats 4000000 in
theorem whole_start {p : Program} {e : Env} {s : State} {m : MethodId} {below : List Frame} {meth : Method} {c : Code} (l : Launch) (hl : l.stackTraces = false) {b L : Nat} {xs : Nat → Int32} (hL : L ≤ 2560) (C0 : lw_At p s m meth c b L xs) (hnm : meth.name = "law") (htb : c.exceptionTable.toList = []) : W p l e room_1 s m #[Value.ref b] below meth c s.heap [] 0 0 (lw_Z below #[Value.ref b] s) (entryFrame m ([Value.ref b] : List Value).toArray 7) := by
  obtain ⟨hx, hb, hr, hml, hown, hts, hX, hbl, hlk, hgv⟩ := C0
  obtain ⟨G, hGN, hCx⟩ := cx_of hts hgv
  have hw : ∀ w ∈ cLw :: wU, w.before #[Value.ref b] s = true := fun w h => (List.mem_cons.mp h).elim (fun q => by rw [q]; exact hts _ (List.mem_of_getElem? (i := 47) (by decide +kernel))) (fun q => hts w (List.mem_filter.mp q).1)
  have hF : sF (p, l, e, s, m, #[Value.ref b], below, meth, c) G mL_law := ⟨hx, hb, hml, hown, hw, Nat.le_of_eq hGN, hCx, hlk, hl, hr, hnm, htb⟩
  have hbA : ¬ gA G b := fun q => by
    have q' : gN G ≤ b := q
    rw [hGN] at q'
    exact absurd hbl (Nat.not_lt.mpr q')
  have K := law_body (p, l, e, s, m, #[Value.ref b], below, meth, c) G (lw_Z below #[Value.ref b] s) b L xs hX hbl hbA hL (fun ad M i kc ks h1 h2 => s_iconst (v := 1) dL_law_1017 (by decide) (fun F H locs ls hM hS hL9 hn9 => W.widen h1 h2 (va_forget (fun q hq => Nat.le_trans (Nat.le_of_eq hGN.symm) (hS.2.2 q hq)) (lw_ret hx hb hr hlk dL_law_1018)))) (fun _ _ => 0) (fun _ _ => none) (fun _ _ => rfl)
  rw [lg_entry_eq]
  exact K hF s.heap [] _ ⟨(fun k i e he => absurd he (by simp)), (fun k i k' i' e e' he => absurd he (by simp))⟩ va_S.rf (sL.entry [Value.ref b] (n := 7) (Nat.le_of_ble_eq_true rfl)) rfl
