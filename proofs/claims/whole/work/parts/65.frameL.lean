section Rows
variable {p : Program} {l : Launch} {e : Env} {R : Room} {s : State} {m : MethodId} {args : Array Value} {below : List Frame} {meth : Method} {c : Code} {H : Heap} {locs : List Loc} {cells slots : Nat} {Q : State → Prop}
variable {mc ms : Nat} {free : Addr → Prop} {A0 A1 : Nat → Prop} {H0 : Heap} {a : Array Value} {pc : Nat} {ls : Array Slot} {st0 rest : List Value}
/-- caught by the row x of this method's table; the rows ahead don't take it -/
theorem vx_catch {own name : String} {E : String} {ce : Cell} {q : Addr} (hown : s.vm.findClass own = some m.cls) (pre : List ExceptionTableEntry) (x : ExceptionTableEntry) (suf : List ExceptionTableEntry) (hsplit : c.exceptionTable.toList = pre ++ x :: suf)
    (hpass : ∀ z ∈ pre, covers z pc = false ∨ (z.catchType ≠ 0 ∧ ∃ nm : String, (Cond.classLink own z.catchType nm).before args s = true ∧ va_Nc E nm s)) (hx : covers x pc = true) (h0 : x.catchType ≠ 0)
    (hlink : (Cond.classLink own x.catchType name).before args s = true) (hcast : (Cond.castable E name).before args s = true) (hcell : H[q]? = some ce) (hv : ce.vm = .none) (hcl : s.vm.findClass E = some ce.cls)
    (kk : W p l e R s m args below meth c H locs cells slots Q (F0 m x.handlerPc ls [.ref q])) : vx_W p l e R s m args below meth c H locs cells slots Q (F0 m pc ls rest) q := by
  intro T hT X
  have hpl : e.platform.magicAccessors = ({} : Platform).magicAccessors := by rw [X.admits.platform]
  obtain ⟨c3, c4, hc3, hc4, hasg⟩ := Cond.castable_spec hcast
  cases Option.some.inj (hc3.symm.trans hcl)
  obtain ⟨c5, hc5, hcl5⟩ := Cond.classLink_spec hown hlink e.platform hpl
  cases Option.some.inj (hc4.symm.trans hc5)
  obtain ⟨vm', X', st⟩ := X.thenCaughtThrough q (g := F0 m pc ls rest) rfl (Steps.refl _) (by rw [hT]; exact hcell) (by rw [hv]; rfl) (by obtain ⟨k9, h9, -⟩ := Vm.findClass_spec hcl; exact ⟨k9, h9⟩) pre x suf hsplit
    (fun z hz => by
      rcases hpass z hz with h | ⟨hz0, nm, hl1, hn1⟩
      · exact Or.inl h
      · obtain ⟨c6, hc6, hcl6⟩ := Cond.classLink_spec hown hl1 e.platform hpl
        obtain ⟨a8, b8, h1, h2, h3⟩ := hn1
        cases Option.some.inj (h1.symm.trans hcl)
        cases Option.some.inj (h2.symm.trans hc6)
        exact Or.inr ⟨hz0, _, hcl6, h3⟩) hx (Or.inr ⟨h0, c4, hcl5, hasg⟩)
  obtain ⟨t, a1, b1⟩ := kk (T.setVm vm') hT X'
  exact ⟨t, st.trans a1, b1⟩
end Rows
/-! THE FRAME for the law: handlers, the script, what the two worlds leave each other. -/
section SFL
variable {X : sMach} {G : sG} {Y : sMeth} {Q : State → Prop} {ad : sAd} {M : sM} {kc ks : Nat} {lv : List (Option Value)} {pc : Nat} {rest : List Value} {index : Nat}
theorem s_catch {E : String} {hpc : Nat} (pre : List ExceptionTableEntry) (x : ExceptionTableEntry) (suf : List ExceptionTableEntry) (hsplit : tableOf (yH Y) = pre ++ x :: suf) (hpass : ∀ z ∈ pre, covers z pc = false ∨ (z.catchType ≠ 0 ∧ ∃ nm : String, Cond.classLink (yO Y) z.catchType nm ∈ yT Y ∧ (E, nm) ∈ sNc)) (hx : covers x pc = true) (h0 : x.catchType ≠ 0) (hlink : Cond.classLink (yO Y) x.catchType E ∈ yT Y) (hcs : E ∈ sCs) (hp : x.handlerPc = hpc) (kk : ∀ q : Nat, sW X G Y Q ad M kc ks lv hpc [.ref q]) : sXW X G Y Q E ad M kc ks lv pc rest := by
  subst hp
  intro F H locs ls q ce hM hS hL hn hce hcv hcl
  exact vx_catch F.2.2.2.1 pre x suf (F.2.2.2.2.2.2.2.2.2.2.2.trans hsplit) (fun z hz => (hpass z hz).elim Or.inl (fun ⟨h1, nm, h2, h3⟩ => Or.inr ⟨h1, nm, F.2.2.2.2.1 _ h2, F.2.2.2.2.2.2.1.1.2.2.2.2.2.2.2.2 _ h3⟩)) hx h0 (F.2.2.2.2.1 _ hlink) (va_Nw.use rfl (F.2.2.2.2.2.2.1.1.2.2.2.2.2.2.1 _ hcs)) hce hcv hcl (kk q F H locs ls hM hS hL hn)
theorem hp0 {P : ExceptionTableEntry → Prop} : ∀ z ∈ ([] : List ExceptionTableEntry), P z := fun _ h => absurd h List.not_mem_nil
theorem hp1 {P : ExceptionTableEntry → Prop} {a : ExceptionTableEntry} (h : P a) : ∀ z ∈ [a], P z := fun z hz => by rw [List.mem_singleton.mp hz]; exact h
theorem hp2 {P : ExceptionTableEntry → Prop} {a b : ExceptionTableEntry} (h : P a) (h' : P b) : ∀ z ∈ [a, b], P z := fun z hz => (List.mem_cons.mp hz).elim (fun e => by rw [e]; exact h) (fun e => hp1 h' z e)
theorem s_sld {b L : Nat} {xs : Nat → Int32} (hX : va_X b L xs (mS X) (mS X).heap) (hbl : b < (mS X).heap.size) (hbA : ¬ gA G b) (hL9 : L ≤ 2560) {i : Int32} {j : Nat} (hi : i = nI j) (hj : j < L) (hd : decode (yC Y) pc = .ok (.iaload, 1)) (k : sW X G Y Q ad M kc ks lv (pc + 1) (.int (xs j) :: rest)) : sW X G Y Q ad M kc ks lv pc (.int i :: .ref b :: rest) := fun F H locs ls a c d e => by
  subst hi
  have e9 : (nI j).toNatClampNeg = j := nI_clamp (by omega)
  exact va_sld F.1 F.2.1 hX hbl hbA c (fun q => q.elim (nI_pos (by omega)) (fun q => by rw [e9] at q; omega)) hd (by rw [e9]; exact k F H locs ls a c d e)
theorem s_slen {b L : Nat} {xs : Nat → Int32} (hX : va_X b L xs (mS X) (mS X).heap) (hbl : b < (mS X).heap.size) (hbA : ¬ gA G b) (hd : decode (yC Y) pc = .ok (.arraylength, 1)) (k : sW X G Y Q ad M kc ks lv (pc + 1) (.int (nI L) :: rest)) : sW X G Y Q ad M kc ks lv pc (.ref b :: rest) := fun F H locs ls a c d e => va_slen F.1 F.2.1 hX hbl hbA c hd (k F H locs ls a c d e)
theorem goodSU {c c' : Cond} {own : String} {idx : Nat} {y : MethodName} (h : ([Cond.methodLink own idx y, .static y, .initialized y.cls, c'] : List Cond).all (fun w => decide (w ∈ lw_tbl) && goodWord w) = true) : GoodIn (c :: wU) (va_wsS own idx y (c' :: wU)) := by
  intro w hw
  unfold va_wsS at hw
  rcases List.mem_append.mp hw with q | q
  · exact goodUW h w (List.mem_append_left [c'] q)
  · rcases List.mem_cons.mp q with q | q
    · exact goodUW h w (by rw [q]; simp)
    · exact ⟨List.mem_cons_of_mem _ q, good_of_word (List.mem_filter.mp q).2⟩
theorem hPo.keep {M' : sM} {p : Nat} {π : sPol} (h : hPo G ad M p π) (hk : ∀ k i, k ≤ 11 → M' k i = M k i) : hPo G ad M' p π := ⟨(hk _ _ (by omega)).trans h.1, (hk _ _ (by omega)).trans h.2.1, (hk _ _ (by omega)).trans h.2.2⟩
theorem hCk.keep {M' : sM} {κ : sCk} (h : hCk G ad M κ) (hk : ∀ k i, k ≤ 11 → M' k i = M k i) : hCk G ad M' κ := by
  obtain ⟨h1, h2, h3, h4, h5, h6, h7, h8, h9⟩ := h
  refine ⟨(hk _ _ (by omega)).trans h1, (hk _ _ (by omega)).trans h2, (hk _ _ (by omega)).trans h3, fun i hi => (hk _ _ (by omega)).trans (h4 i hi), fun i hi => (hk _ _ (by omega)).trans (h5 i hi), fun i hi => (h6 i hi).keep hk, h7.keep hk, ⟨(hk _ _ (by omega)).trans h8.1, (hk _ _ (by omega)).trans h8.2.1, (hk _ _ (by omega)).trans h8.2.2.1, (hk _ _ (by omega)).trans h8.2.2.2⟩, fun i a b => ?_⟩
  obtain ⟨q1, q2, q3, q4⟩ := h9 i a b
  exact ⟨(hk _ _ (by omega)).trans q1, (hk _ _ (by omega)).trans q2, (hk _ _ (by omega)).trans q3, (hk _ _ (by omega)).trans q4⟩
theorem cI.keep {M' : sM} {α : sAl} (h : cI G ad M α) (hk : ∀ k i, k ≤ 11 → M' k i = M k i) : cI G ad M' α := by
  obtain ⟨κ, h1, h2⟩ := h
  exact ⟨κ, h1.keep hk, h2⟩
theorem hMd.ext {ad' : sAd} {M' : sM} {ρ : sMd} (h : hMd G ad M ρ) (hx : sExt M ad ad') (hk : ∀ k i, 12 ≤ k → k ≤ 25 → M' k i = M k i) : hMd G ad' M' ρ := by
  obtain ⟨c0, t0, hd, on, tw, dp, cl, gr, r0, kd, fl, co, sm, wk, sp, b0, mu⟩ := ρ
  obtain ⟨h0, h1, h2, h3, h4, h5, h6, h7, h8, h9, h10, h11, h12, h13⟩ := h
  refine ⟨?_, (hk _ _ (by omega) (by omega)).trans h1, (hk _ _ (by omega) (by omega)).trans h2, (hk _ _ (by omega) (by omega)).trans h3, (hk _ _ (by omega) (by omega)).trans h4, (hk _ _ (by omega) (by omega)).trans h5, (hk _ _ (by omega) (by omega)).trans h6, (hk _ _ (by omega) (by omega)).trans h7, (hk _ _ (by omega) (by omega)).trans h8, (hk _ _ (by omega) (by omega)).trans h9, (hk _ _ (by omega) (by omega)).trans h10, (hk _ _ (by omega) (by omega)).trans h11, (hk _ _ (by omega) (by omega)).trans h12, (hk _ _ (by omega) (by omega)).trans h13⟩
  rw [hk 12 0 (by omega) (by omega), h0, hx 13 0 _ h1, hx 14 0 _ h2, hx 15 0 _ h3, hx 16 0 _ h4, hx 17 0 _ h5, hx 18 0 _ h6, hx 19 0 _ h7, hx 20 0 _ h8, hx 21 0 _ h9, hx 22 0 _ h10, hx 23 0 _ h11, hx 24 0 _ h12, hx 25 0 _ h13]
/-- what the law's calls of the class leave -/
def pLw : Nat → Nat → Prop := fun k _ => k ≤ 11 ∨ k = 26
def lOut (G : sG) (M : sM) (w : Nat → Int64) : Prop := M 26 0 = some (.inl (gJ G, 1, .inr (.inl w)))
def lPost (G : sG) (ad : sAd) (M : sM) (R : Nat → Int32 → sAl → Prop) : Option Value → sAd → sM → Prop := fun r ad' M' => sExt M ad ad' ∧ sSame pLw M M' ∧ ∃ (k : Nat) (v : Int32) (α' : sAl) (w' : Nat → Int64), R k v α' ∧ AI α' ∧ cI G ad' M' α' ∧ r = some (.int (nI k)) ∧ k ≤ 3 ∧ lOut G M' w' ∧ (k = 0 → w' 0 = v.toInt64)
def lPostV (G : sG) (ad : sAd) (M : sM) (R : Nat → sAl → Prop) : Option Value → sAd → sM → Prop := fun r ad' M' => sExt M ad ad' ∧ sSame pLw M M' ∧ ∃ (k : Nat) (α' : sAl) (w' : Nat → Int64), R k α' ∧ AI α' ∧ cI G ad' M' α' ∧ r = some (.int (nI k)) ∧ k ≤ 3 ∧ lOut G M' w'
theorem ck_lw {k i : Nat} (h : pCk k i) : pLw k i := Or.inl h
end SFL
