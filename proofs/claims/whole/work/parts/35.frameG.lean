/-! THE FRAME, part seven: words of methods with all good words; what a call that adds a tree leaves. -/
section SFG
theorem goodUW {c : Cond} {ws : List Cond} (h : ws.all (fun w => decide (w ∈ lw_tbl) && goodWord w) = true) : GoodIn (c :: wU) ws := by
  refine goodU (fun w hw => ?_) (List.all_eq_true.mpr fun w hw => ?_)
  · have := List.all_eq_true.mp h w hw
    simp only [Bool.and_eq_true, decide_eq_true_eq] at this
    exact this.1
  · have := List.all_eq_true.mp h w hw
    simp only [Bool.and_eq_true, decide_eq_true_eq] at this
    exact this.2
theorem goodVU {c c' : Cond} {own C : String} {idx : Nat} {y : MethodName} (h : ([Cond.methodLink own idx y, .instanceMethod y, .selects C y y, .initialized C, c'] : List Cond).all (fun w => decide (w ∈ lw_tbl) && goodWord w) = true) : GoodIn (c :: wU) (wsV own idx C y (c' :: wU)) := by
  intro w hw
  unfold wsV at hw
  rcases List.mem_append.mp hw with q | q
  · exact goodUW h w (List.mem_append_left [c'] q)
  · rcases List.mem_cons.mp q with q | q
    · exact goodUW h w (by rw [q]; simp)
    · exact ⟨List.mem_cons_of_mem _ q, good_of_word (List.mem_filter.mp q).2⟩
def cAdd (G : sG) (ad : sAd) (M : sM) (α : sAl) (h o w : Int32) (d : Nat) (g : Prop) (P : Nat → Int) : Option Value → sAd → sM → Prop := fun r ad' M' => r = some (.int (nI (aT α))) ∧ aT α < 120 ∧ sExt M ad ad' ∧ sSame pCk M M' ∧ ∃ m, AI (addT α (h, o, w, d, m) g P) ∧ cI G ad' M' (addT α (h, o, w, d, m) g P)
theorem cAdd.of {G : sG} {ad ad' : sAd} {M M' : sM} {α : sAl} {κ κ1 : sCk} {σ : sShe} {π : sPol} {h o w c1 c2 c3 : Int32} {d m : Nat} {g : Prop} {P : Nat → Int} (hC : CI α κ) (hA : AI α) (hN : kNx κ κ1) (hT : kTc κ < 120) (hex : sExt M ad ad') (hs : sSame pCk M M') (hm : mdOf κ1 (c1, c2, c3) m) (hck : hCk G ad' M' (kSetTc (kSetTr (kSetPo (kSetSh κ1 σ) (kTc κ1) π) (kTc κ1) (c1, c2, c3, d, m)) (kTc κ1 + 1))) (hσ : ∃ f, ShR σ f) (hp : (g ∧ PG π ∧ P = fun _ => 0) ∨ (¬ g ∧ PR π P)) (ht : wfT (aT α) (h, o, w, d, m)) (hc : (c1, c2, c3) = aCl α (h, o, w, d, m)) : cAdd G ad M α h o w d g P (some (.int (nI (kTc κ1)))) ad' M' := by
  have e := hN.1
  have e2 : kTc κ = aT α := hC.1
  refine ⟨by rw [e, e2], by omega, hex, hs, m, hA.add (by omega) ht (by rw [← hc]; exact hC.wm hN hm) ?_, _, hck, ?_⟩
  · rcases hp with ⟨q1, -, q2⟩ | ⟨q1, q2⟩
    · rw [q2]; exact wfP_0 g
    · exact q2.wf q1
  · rw [e]
    exact hC.add hA hN hσ (hp.elim (fun q => Or.inl ⟨q.1, q.2.1⟩) Or.inr) ht hc rfl
set_option maxRecDepth 100000 in
theorem iu_X0 : ∀ w ∈ wsX00, w ∈ lw_tbl ∧ goodWord w = true := by decide +kernel
set_option maxRecDepth 100000 in
theorem iu_X1 : ∀ w ∈ wsX10, w ∈ lw_tbl ∧ goodWord w = true := by decide +kernel
set_option maxRecDepth 100000 in
theorem iu_X2 : ∀ w ∈ wsX20, w ∈ lw_tbl ∧ goodWord w = true := by decide +kernel
set_option maxRecDepth 100000 in
theorem iu_X3 : ∀ w ∈ wsX30, w ∈ lw_tbl ∧ goodWord w = true := by decide +kernel
set_option maxRecDepth 100000 in
theorem iu_X4 : ∀ w ∈ wsX40, w ∈ lw_tbl ∧ goodWord w = true := by decide +kernel
end SFG
