/-! THE FRAME, part six: new cells by a fresh map of places. -/
section SFF
variable {X : sMach} {G : sG} {Y : sMeth} {Q : State → Prop} {ad : sAd} {M : sM} {kc ks : Nat} {lv : List (Option Value)} {pc : Nat} {rest : List Value} {index : Nat}
theorem s_st {st st' : List Value} (h : st = st') (k : sW X G Y Q ad M kc ks lv pc st') : sW X G Y Q ad M kc ks lv pc st := h ▸ k
/-- the map ad' is ad but at one place -/
def sOn (kd ix : Nat) (ad ad' : sAd) : Prop := ∀ k i, ¬ (k = kd ∧ i = ix) → ad' k i = ad k i
theorem s_newC {C : String} {T : u_T} {N ci : Nat} (kd ix : Nat) (ty : Nat → FieldType) (hty : ∀ k, k < N → parseFieldDescriptor (T k).2.2.1 = some (ty k)) (he : M kd ix = none) (hc : vwCl[ci]? = some (C, T, N)) (hin : ∀ w ∈ u_ws C T N, w ∈ yT Y) (hw1 : Cond.classLink (yO Y) index C ∈ yT Y) (hw2 : Cond.instantiable C N ∈ yT Y) (hw3 : Cond.initialized C ∈ yT Y) {fs : List Value} (hfs : ∀ j, j < N → defaultValue (ty j) = vp_V fs j) (h1 : kc + 1 ≤ (yR Y).cells) (h2 : ks + N ≤ (yR Y).slots) (hd : decode (yC Y) pc = .ok (.new index, 3))
    (k : ∀ ad' : sAd, sOn kd ix ad ad' → sW X G Y Q ad' (sset M kd ix (.inr (ci, fs))) (kc + 1) (ks + N) lv (pc + 3) (.ref (ad' kd ix) :: rest)) : sW X G Y Q ad M kc ks lv pc rest :=
  s_new kd ix ty hty he hc hin hw1 hw2 hw3 hfs h1 h2 hd (fun q => by
    have h9 := k (aset ad kd ix q) (fun k i h => aset_ne ad q h)
    rw [aset_self] at h9
    exact h9)
theorem s_newI (kd ix : Nat) (he : M kd ix = none) (hw : Cond.arrayClass .int ∈ yT Y) {n9 : Int32} {N' : Nat} (hn9 : ¬ n9 < 0) (hN : n9.toNatClampNeg = N') (hb : N' * 4 ≤ 536870912) (h1 : kc + 1 ≤ (yR Y).cells) (h2 : ks + N' ≤ (yR Y).slots) (hd : decode (yC Y) pc = .ok (.newarray .int, 2))
    (k : ∀ ad' : sAd, sOn kd ix ad ad' → sW X G Y Q ad' (sset M kd ix (.inl (gI G, N', .inl (fun _ => 0)))) (kc + 1) (ks + N') lv (pc + 2) (.ref (ad' kd ix) :: rest)) : sW X G Y Q ad M kc ks lv pc (.int n9 :: rest) :=
  s_newa (ty := .int) (cA := gI G) kd ix 0 rfl he rfl (fun C h => by cases h) hw (a0 := (N', .inl (fun _ => 0))) (fun cA => by rw [vp_cell_i]; rfl) hn9 hN hb h1 h2 hd (fun q => by
    have h9 := k (aset ad kd ix q) (fun k i h => aset_ne ad q h)
    rw [aset_self] at h9
    exact h9)
theorem s_newJ (kd ix : Nat) (he : M kd ix = none) (hw : Cond.arrayClass .long ∈ yT Y) {n9 : Int32} {N' : Nat} (hn9 : ¬ n9 < 0) (hN : n9.toNatClampNeg = N') (hb : N' * 8 ≤ 536870912) (h1 : kc + 1 ≤ (yR Y).cells) (h2 : ks + N' ≤ (yR Y).slots) (hd : decode (yC Y) pc = .ok (.newarray .long, 2))
    (k : ∀ ad' : sAd, sOn kd ix ad ad' → sW X G Y Q ad' (sset M kd ix (.inl (gJ G, N', .inr (.inl (fun _ => 0))))) (kc + 1) (ks + N') lv (pc + 2) (.ref (ad' kd ix) :: rest)) : sW X G Y Q ad M kc ks lv pc (.int n9 :: rest) :=
  s_newa (ty := .long) (cA := gJ G) kd ix 1 rfl he rfl (fun C h => by cases h) hw (a0 := (N', .inr (.inl (fun _ => 0)))) (fun cA => by rw [vp_cell_l]; rfl) hn9 hN hb h1 h2 hd (fun q => by
    have h9 := k (aset ad kd ix q) (fun k i h => aset_ne ad q h)
    rw [aset_self] at h9
    exact h9)
theorem s_newZ (kd ix : Nat) (he : M kd ix = none) (hw : Cond.arrayClass .boolean ∈ yT Y) {n9 : Int32} {N' : Nat} (hn9 : ¬ n9 < 0) (hN : n9.toNatClampNeg = N') (hb : N' * 1 ≤ 536870912) (h1 : kc + 1 ≤ (yR Y).cells) (h2 : ks + N' ≤ (yR Y).slots) (hd : decode (yC Y) pc = .ok (.newarray .boolean, 2))
    (k : ∀ ad' : sAd, sOn kd ix ad ad' → sW X G Y Q ad' (sset M kd ix (.inl (gZ G, N', .inl (fun _ => 0)))) (kc + 1) (ks + N') lv (pc + 2) (.ref (ad' kd ix) :: rest)) : sW X G Y Q ad M kc ks lv pc (.int n9 :: rest) :=
  s_newa (ty := .boolean) (cA := gZ G) kd ix 2 rfl he rfl (fun C h => by cases h) hw (a0 := (N', .inl (fun _ => 0))) (fun cA => by rw [vp_cell_i]; rfl) hn9 hN hb h1 h2 hd (fun q => by
    have h9 := k (aset ad kd ix q) (fun k i h => aset_ne ad q h)
    rw [aset_self] at h9
    exact h9)
end SFF
