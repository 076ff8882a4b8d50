/-! THE FRAME, part four: calls, ends, throws, new cells. -/
section SFD
variable {X : sMach} {G : sG} {Y : sMeth} {Q : State → Prop} {ad : sAd} {M : sM} {kc ks : Nat} {lv : List (Option Value)} {pc : Nat} {rest st0 : List Value}
variable {Post : Option Value → sAd → sM → Prop} {PX : String → sAd → sM → Prop}
/-- a contract that doesn't throw -/
theorem sMet.met {l : Launch} {y : MethodName} {Y9 : sMeth} {As : List Value} (h : sMet G l y Y9 As ad M Post (fun _ _ _ => False)) : Met l y (yT Y9) (yR Y9) (sPc G As ad M) (sQc G Post) (yR Y9).cells (yR Y9).slots (gA G) := by
  intro p e h1 h2 h3 s m args below h4 h5 h6 h7
  obtain ⟨n, o, a1, a2, a3, a4⟩ := h p e h1 h2 h3 s m args below h4 h5 h6 h7
  refine ⟨n, o, a1, a2, a3, ?_⟩
  rcases a4 with a4 | ⟨q, -, E, ce, L, ⟨⟨_, _, hf, _⟩, _⟩, _⟩
  · exact a4
  · exact hf.elim
theorem sMet.mono {l : Launch} {y : MethodName} {Y9 : sMeth} {As : List Value} {Post' : Option Value → sAd → sM → Prop} {PX' : String → sAd → sM → Prop} (h : sMet G l y Y9 As ad M Post PX) (hp : ∀ r a m, Post r a m → Post' r a m) (hx : ∀ r a m, PX r a m → PX' r a m) : sMet G l y Y9 As ad M Post' PX' := by
  intro p e h1 h2 h3 s m args below h4 h5 h6 h7
  obtain ⟨n, o, a1, a2, a3, a4⟩ := h p e h1 h2 h3 s m args below h4 h5 h6 h7
  refine ⟨n, o, a1, a2, a3, ?_⟩
  rcases a4 with ⟨⟨⟨r, a, m', b1, b2, b3⟩, b4⟩, b5⟩ | ⟨q, b0, E, ce, L, ⟨⟨a, m', b1, b2⟩, b3⟩, b4⟩
  · exact Or.inl ⟨⟨⟨r, a, m', b1, hp _ _ _ b2, b3⟩, b4⟩, b5⟩
  · exact Or.inr ⟨q, b0, E, ce, L, ⟨⟨a, m', hx _ _ _ b1, b2⟩, b3⟩, b4⟩
theorem sW.callP {mc ms : Nat} {a : Array Value}
    (hr : ∀ (H : Heap) (locs : List Loc) (ls : Array Slot), sF X G Y → sWd G ad M H → va_S (gA G) (mS X).heap H locs → sL ls lv → lv.length = yN Y → va_Run (mP X) (mL X) (mE X) (yR Y) (mS X) (mM X) (mG X) (mB X) (mT X) (mC X) H locs kc ks mc ms (F0 (mM X) pc ls st0) rest (sQc G Post a) (gA G))
    (kk : ∀ (r : Option Value) (ad' : sAd) (M' : sM), Post r ad' M' → sW X G Y Q ad' M' (kc + mc) (ks + ms) lv (pc + 3) (r.toList ++ rest)) : sW X G Y Q ad M kc ks lv pc st0 := by
  intro F H locs ls hM hS hL hn T hT Xs
  obtain ⟨v, st₀, t, T', L, h0, X', hL', e1, e2, ⟨⟨r, ad', M', hv, hp, hw⟩, hF⟩, st⟩ := hr H locs ls F hM hS hL hn T hT Xs
  cases hv
  obtain ⟨k1, k2, k3⟩ := vx_keep h0 e1 hS (fun q _ h => h) (fun q h => h) hL' hF
  obtain ⟨t2, a1, b1⟩ := kk v ad' M' hp F T'.heap (locs ++ L) ls (by rw [e1]; exact hw) k3 hL hn T' rfl X'
  exact ⟨t2, st t2 a1, b1⟩
theorem sW.callX {mc ms : Nat} {a : Array Value}
    (hr : ∀ (H : Heap) (locs : List Loc) (ls : Array Slot), sF X G Y → sWd G ad M H → va_S (gA G) (mS X).heap H locs → sL ls lv → lv.length = yN Y → vx_Run (mP X) (mL X) (mE X) (yR Y) (mS X) (mM X) (mG X) (mB X) (mT X) (mC X) H locs kc ks mc ms (F0 (mM X) pc ls st0) rest (sQc G Post a) (sXC G PX) (gA G))
    (kx : ∀ (E : String) (ad' : sAd) (M' : sM), PX E ad' M' → sXW X G Y Q E ad' M' (kc + mc) (ks + ms) lv pc rest)
    (kk : ∀ (r : Option Value) (ad' : sAd) (M' : sM), Post r ad' M' → sW X G Y Q ad' M' (kc + mc) (ks + ms) lv (pc + 3) (r.toList ++ rest)) : sW X G Y Q ad M kc ks lv pc st0 := by
  intro F H locs ls hM hS hL hn T hT Xs
  rcases hr H locs ls F hM hS hL hn T hT Xs with ⟨v, st₀, t, T', L, h0, X', hL', e1, e2, ⟨⟨r, ad', M', hv, hp, hw⟩, hF⟩, st⟩ | ⟨q, st₀, t, T', L, E, ce, h0, X', hL', e1, e2, ⟨⟨ad', M', hp, hw⟩, hF⟩, hce, hcv, hcl, st⟩
  · cases hv
    obtain ⟨k1, k2, k3⟩ := vx_keep h0 e1 hS (fun q _ h => h) (fun q h => h) hL' hF
    obtain ⟨t2, a1, b1⟩ := kk v ad' M' hp F T'.heap (locs ++ L) ls (by rw [e1]; exact hw) k3 hL hn T' rfl X'
    exact ⟨t2, st t2 a1, b1⟩
  · obtain ⟨k1, k2, k3⟩ := vx_keep h0 e1 hS (fun q _ h => h) (fun q h => h) hL' hF
    obtain ⟨t2, a1, b1⟩ := kx E ad' M' hp F T'.heap (locs ++ L) ls q ce (by rw [e1]; exact hw) k3 hL hn (by rw [e1]; exact hce) hcv hcl T' rfl X'
    exact ⟨t2, st.trans a1, b1⟩
theorem sW.recv {kd ix ci : Nat} {q : vw_C} {fs : List Value} {H : Heap} (F : sF X G Y) (hM : sWd G ad M H) (he : M kd ix = some (.inr (ci, fs))) (hc : vwCl[ci]? = some q) : ∃ cell : Cell, H[ad kd ix]? = some cell ∧ cell.vm.isStatics = false ∧ (mS X).vm.findClass q.1 = some cell.cls := by
  have hP : va_P (gD G) vwCl [(ad kd ix, .inr (ci, fs))] H := fun j q hq => by
    match j, hq with
    | 0, hq => cases hq; exact (hM.1 kd ix _ he).2
    | j + 1, hq => simp at hq
  exact va_recv F.2.2.2.2.2.2.1.1.1 hP hc (q0 := 0) rfl
theorem sF.fix (F : sF X G Y) : CallFix (mP X) (mM X) (mC X) (yC Y) (yN Y) (mS X) (mG X) (yT Y) (yO Y) := ⟨F.1, F.2.1, F.2.2.1, F.2.2.2.1, F.2.2.2.2.1⟩
variable {y : MethodName} {Y9 : sMeth} {As : List Value} {ws' : List Cond} {index n : Nat}
abbrev sRm (Y Y9 : sMeth) : Prop := (yR Y9).frames + 1 ≤ (yR Y).frames ∧ 8 + (yN Y9 + 11) + (yR Y9).locals ≤ (yR Y).locals
abbrev sFt (Y Y9 : sMeth) (kc ks : Nat) : Prop := kc + (yR Y9).cells ≤ (yR Y).cells ∧ ks + (yR Y9).slots ≤ (yR Y).slots
/-- invokevirtual of a method of the own class -/
theorem s_callV {C : String} {T : u_T} {N ci kd ix : Nat} {fs : List Value} (hM : ∀ l : Launch, l.stackTraces = false → sMet G l y Y9 (.ref (ad kd ix) :: As) ad M Post (fun _ _ _ => False)) (hT : GoodIn (yT Y) (wsV (yO Y) index C y (yT Y9))) (hw : yT Y9 = Cond.code y (yC Y9) (yN Y9) (yV Y9) :: ws')
    (hd9 : y.cls = C ∧ y.cls ≠ "java/lang/invoke/MethodHandle" ∧ y.cls ≠ "java/lang/invoke/VarHandle" ∧ (parseMethodDescriptor y.desc).map (fun d => d.parameters.length) = some n) (he : M kd ix = some (.inr (ci, fs))) (hc : vwCl[ci]? = some (C, T, N)) (hn9 : As.length = n) (hR : sRm Y Y9) (hf : sFt Y Y9 kc ks) (hcat : (rest.map fun v => v.category).sum ≤ 8)
    (hd : decode (yC Y) pc = .ok (.invokevirtual index, 3)) (hst : st0 = As.reverse ++ .ref (ad kd ix) :: rest)
    (kk : ∀ (r : Option Value) (ad' : sAd) (M' : sM), Post r ad' M' → sW X G Y Q ad' M' (kc + (yR Y9).cells) (ks + (yR Y9).slots) lv (pc + 3) (r.toList ++ rest)) : sW X G Y Q ad M kc ks lv pc st0 :=
  sW.callP (fun H locs ls F hW hS hL hn => va_runV (b := ad kd ix) (As := As) (rest := rest) F.fix (hM _ F.2.2.2.2.2.2.2.2.1).met (cwV n F.2.2.2.2.1 hT hw rfl rfl hd9 hR) ⟨sPc.blind, sW.recv F hW he hc, sPc.go F hW hS⟩ rfl hn9 (hL.1.trans hn) hst (lv_room hcat) hd hf) kk
/-- invokestatic -/
theorem s_callS (hM : ∀ l : Launch, l.stackTraces = false → sMet G l y Y9 As ad M Post (fun _ _ _ => False)) (hT : GoodIn (yT Y) (va_wsS (yO Y) index y (yT Y9))) (hw : yT Y9 = Cond.code y (yC Y9) (yN Y9) (yV Y9) :: ws')
    (hd9 : y.cls ≠ "java/lang/invoke/MethodHandle" ∧ y.cls ≠ "java/lang/invoke/VarHandle" ∧ (parseMethodDescriptor y.desc).map (fun d => d.parameters.length) = some n) (hn9 : As.length = n) (hR : sRm Y Y9) (hf : sFt Y Y9 kc ks) (hcat : (rest.map fun v => v.category).sum ≤ 8)
    (hd : decode (yC Y) pc = .ok (.invokestatic index, 3)) (hst : st0 = As.reverse ++ rest)
    (kk : ∀ (r : Option Value) (ad' : sAd) (M' : sM), Post r ad' M' → sW X G Y Q ad' M' (kc + (yR Y9).cells) (ks + (yR Y9).slots) lv (pc + 3) (r.toList ++ rest)) : sW X G Y Q ad M kc ks lv pc st0 :=
  sW.callP (fun H locs ls F hW hS hL hn => va_runS (As := As) (rest := rest) F.fix (hM _ F.2.2.2.2.2.2.2.2.1).met (va_cwS n F.2.2.2.2.1 hT hw rfl rfl hd9 hR) ⟨sPc.blind, sPc.go F hW hS⟩ rfl hn9 (hL.1.trans hn) hst (lv_room hcat) hd hf) kk
/-- invokestatic of a method with handlers -/
theorem s_callSW (hM : ∀ l : Launch, l.stackTraces = false → sMet G l y Y9 As ad M Post (fun _ _ _ => False)) (hT : GoodIn (yT Y) (va_wsS (yO Y) index y (yT Y9))) (hw : yT Y9 = Cond.codeWith y (yC Y9) (yN Y9) (yV Y9) (yH Y9) :: ws')
    (hd9 : y.cls ≠ "java/lang/invoke/MethodHandle" ∧ y.cls ≠ "java/lang/invoke/VarHandle" ∧ (parseMethodDescriptor y.desc).map (fun d => d.parameters.length) = some n) (hn9 : As.length = n) (hR : sRm Y Y9) (hf : sFt Y Y9 kc ks) (hcat : (rest.map fun v => v.category).sum ≤ 8)
    (hd : decode (yC Y) pc = .ok (.invokestatic index, 3)) (hst : st0 = As.reverse ++ rest)
    (kk : ∀ (r : Option Value) (ad' : sAd) (M' : sM), Post r ad' M' → sW X G Y Q ad' M' (kc + (yR Y9).cells) (ks + (yR Y9).slots) lv (pc + 3) (r.toList ++ rest)) : sW X G Y Q ad M kc ks lv pc st0 :=
  sW.callP (fun H locs ls F hW hS hL hn => vx_runSW (As := As) (rest := rest) F.fix (hM _ F.2.2.2.2.2.2.2.2.1).met (vx_cwSW n F.2.2.2.2.1 hT hw rfl rfl hd9 hR) ⟨sPc.blind, sPc.go F hW hS⟩ rfl hn9 (hL.1.trans hn) hst (lv_room hcat) hd hf) kk
/-- a constructor of a class of ours -/
theorem s_callI {kd ix : Nat} (hM : ∀ l : Launch, l.stackTraces = false → sMet G l y Y9 (.ref (ad kd ix) :: As) ad M Post (fun _ _ _ => False)) (hT : GoodIn (yT Y) (yT Y9)) (hw : yT Y9 = Cond.code y (yC Y9) (yN Y9) none :: ws') (hi1 : Cond.initialized y.cls ∈ yT Y) (hi2 : Cond.methodLink (yO Y) index y ∈ yT Y) (hi3 : Cond.instanceMethod y ∈ yT Y) (hy1 : y.name = "<init>")
    (hd9 : y.cls ≠ "java/lang/invoke/MethodHandle" ∧ y.cls ≠ "java/lang/invoke/VarHandle" ∧ (parseMethodDescriptor y.desc).map (fun d => d.parameters.length) = some n) (hn9 : As.length = n) (hR : sRm Y Y9) (hf : sFt Y Y9 kc ks) (hcat : (rest.map fun v => v.category).sum ≤ 8)
    (hd : decode (yC Y) pc = .ok (.invokespecial index, 3)) (hst : st0 = As.reverse ++ .ref (ad kd ix) :: rest)
    (kk : ∀ (r : Option Value) (ad' : sAd) (M' : sM), Post r ad' M' → sW X G Y Q ad' M' (kc + (yR Y9).cells) (ks + (yR Y9).slots) lv (pc + 3) (r.toList ++ rest)) : sW X G Y Q ad M kc ks lv pc st0 :=
  sW.callP (fun H locs ls F hW hS hL hn => va_runI (b := ad kd ix) (As := As) (rest := rest) F.fix (hM _ F.2.2.2.2.2.2.2.2.1).met ⟨callB_of n F.2.2.2.2.1 hT hw rfl rfl (F.2.2.2.2.1 _ hi1) (F.2.2.2.2.1 _ hi2) hd9 hR, hy1, F.2.2.2.2.1 _ hi3⟩ ⟨sPc.blind, sPc.go F hW hS⟩ rfl hn9 (hL.1.trans hn) hst (lv_room hcat) hd hf) kk
/-- across the nest: virtual, static, constructor -/
theorem s_callVN {C host : String} {T : u_T} {N ci kd ix : Nat} {fs : List Value} (hM : ∀ l : Launch, l.stackTraces = false → sMet G l y Y9 (.ref (ad kd ix) :: As) ad M Post (fun _ _ _ => False)) (hT : GoodIn (yT Y) (yT Y9)) (hw : yT Y9 = Cond.code y (yC Y9) (yN Y9) (yV Y9) :: ws') (hi1 : Cond.initialized y.cls ∈ yT Y) (hi2 : (yO Y, index, y, host) ∈ sNM) (hi3 : Cond.instanceMethod y ∈ yT Y) (hi4 : Cond.selects C y y ∈ yT Y)
    (hd9 : y.cls ≠ "java/lang/invoke/MethodHandle" ∧ y.cls ≠ "java/lang/invoke/VarHandle" ∧ (parseMethodDescriptor y.desc).map (fun d => d.parameters.length) = some n) (he : M kd ix = some (.inr (ci, fs))) (hc : vwCl[ci]? = some (C, T, N)) (hn9 : As.length = n) (hR : sRm Y Y9) (hf : sFt Y Y9 kc ks) (hcat : (rest.map fun v => v.category).sum ≤ 8)
    (hd : decode (yC Y) pc = .ok (.invokevirtual index, 3)) (hst : st0 = As.reverse ++ .ref (ad kd ix) :: rest)
    (kk : ∀ (r : Option Value) (ad' : sAd) (M' : sM), Post r ad' M' → sW X G Y Q ad' M' (kc + (yR Y9).cells) (ks + (yR Y9).slots) lv (pc + 3) (r.toList ++ rest)) : sW X G Y Q ad M kc ks lv pc st0 :=
  sW.callP (fun H locs ls F hW hS hL hn => va_runVN (b := ad kd ix) (As := As) (rest := rest) F.fix (hM _ F.2.2.2.2.2.2.2.2.1).met ⟨va_cnB n F.2.2.2.2.1 hT hw rfl rfl (F.2.2.2.2.2.2.1.1.2.2.1 _ hi2) (F.2.2.2.2.1 _ hi1) hd9 hR, F.2.2.2.2.1 _ hi3, F.2.2.2.2.1 _ hi4⟩ ⟨sPc.blind, sW.recv F hW he hc, sPc.go F hW hS⟩ rfl hn9 (hL.1.trans hn) hst (lv_room hcat) hd hf) kk
theorem s_callSN {host : String} (hM : ∀ l : Launch, l.stackTraces = false → sMet G l y Y9 As ad M Post (fun _ _ _ => False)) (hT : GoodIn (yT Y) (yT Y9)) (hw : yT Y9 = Cond.code y (yC Y9) (yN Y9) (yV Y9) :: ws') (hi1 : Cond.initialized y.cls ∈ yT Y) (hi2 : (yO Y, index, y, host) ∈ sNM) (hi3 : Cond.static y ∈ yT Y)
    (hd9 : y.cls ≠ "java/lang/invoke/MethodHandle" ∧ y.cls ≠ "java/lang/invoke/VarHandle" ∧ (parseMethodDescriptor y.desc).map (fun d => d.parameters.length) = some n) (hn9 : As.length = n) (hR : sRm Y Y9) (hf : sFt Y Y9 kc ks) (hcat : (rest.map fun v => v.category).sum ≤ 8)
    (hd : decode (yC Y) pc = .ok (.invokestatic index, 3)) (hst : st0 = As.reverse ++ rest)
    (kk : ∀ (r : Option Value) (ad' : sAd) (M' : sM), Post r ad' M' → sW X G Y Q ad' M' (kc + (yR Y9).cells) (ks + (yR Y9).slots) lv (pc + 3) (r.toList ++ rest)) : sW X G Y Q ad M kc ks lv pc st0 :=
  sW.callP (fun H locs ls F hW hS hL hn => va_runSN (As := As) (rest := rest) F.fix (hM _ F.2.2.2.2.2.2.2.2.1).met ⟨va_cnB n F.2.2.2.2.1 hT hw rfl rfl (F.2.2.2.2.2.2.1.1.2.2.1 _ hi2) (F.2.2.2.2.1 _ hi1) hd9 hR, F.2.2.2.2.1 _ hi3, trivial⟩ ⟨sPc.blind, sPc.go F hW hS⟩ rfl hn9 (hL.1.trans hn) hst (lv_room hcat) hd hf) kk
theorem s_callIN {host : String} {kd ix : Nat} (hM : ∀ l : Launch, l.stackTraces = false → sMet G l y Y9 (.ref (ad kd ix) :: As) ad M Post (fun _ _ _ => False)) (hT : GoodIn (yT Y) (yT Y9)) (hw : yT Y9 = Cond.code y (yC Y9) (yN Y9) none :: ws') (hi1 : Cond.initialized y.cls ∈ yT Y) (hi2 : (yO Y, index, y, host) ∈ sNM) (hi3 : Cond.instanceMethod y ∈ yT Y) (hy1 : y.name = "<init>")
    (hd9 : y.cls ≠ "java/lang/invoke/MethodHandle" ∧ y.cls ≠ "java/lang/invoke/VarHandle" ∧ (parseMethodDescriptor y.desc).map (fun d => d.parameters.length) = some n) (hn9 : As.length = n) (hR : sRm Y Y9) (hf : sFt Y Y9 kc ks) (hcat : (rest.map fun v => v.category).sum ≤ 8)
    (hd : decode (yC Y) pc = .ok (.invokespecial index, 3)) (hst : st0 = As.reverse ++ .ref (ad kd ix) :: rest)
    (kk : ∀ (r : Option Value) (ad' : sAd) (M' : sM), Post r ad' M' → sW X G Y Q ad' M' (kc + (yR Y9).cells) (ks + (yR Y9).slots) lv (pc + 3) (r.toList ++ rest)) : sW X G Y Q ad M kc ks lv pc st0 :=
  sW.callP (fun H locs ls F hW hS hL hn => va_runIN (b := ad kd ix) (As := As) (rest := rest) F.fix (hM _ F.2.2.2.2.2.2.2.2.1).met ⟨va_cnB n F.2.2.2.2.1 hT hw rfl rfl (F.2.2.2.2.2.2.1.1.2.2.1 _ hi2) (F.2.2.2.2.1 _ hi1) hd9 hR, hy1, F.2.2.2.2.1 _ hi3⟩ ⟨sPc.blind, sPc.go F hW hS⟩ rfl hn9 (hL.1.trans hn) hst (lv_room hcat) hd hf) kk
/-- invokevirtual of a method that may throw -/
theorem s_xcallV {C : String} {T : u_T} {N ci kd ix : Nat} {fs : List Value} (hM : ∀ l : Launch, l.stackTraces = false → sMet G l y Y9 (.ref (ad kd ix) :: As) ad M Post PX) (hT : GoodIn (yT Y) (wsV (yO Y) index C y (yT Y9))) (hw : yT Y9 = Cond.code y (yC Y9) (yN Y9) (yV Y9) :: ws')
    (hd9 : y.cls = C ∧ y.cls ≠ "java/lang/invoke/MethodHandle" ∧ y.cls ≠ "java/lang/invoke/VarHandle" ∧ (parseMethodDescriptor y.desc).map (fun d => d.parameters.length) = some n) (he : M kd ix = some (.inr (ci, fs))) (hc : vwCl[ci]? = some (C, T, N)) (hn9 : As.length = n) (hR : sRm Y Y9) (hf : sFt Y Y9 kc ks) (hcat : (rest.map fun v => v.category).sum ≤ 8)
    (hd : decode (yC Y) pc = .ok (.invokevirtual index, 3)) (hst : st0 = As.reverse ++ .ref (ad kd ix) :: rest)
    (kx : ∀ (E : String) (ad' : sAd) (M' : sM), PX E ad' M' → sXW X G Y Q E ad' M' (kc + (yR Y9).cells) (ks + (yR Y9).slots) lv pc rest)
    (kk : ∀ (r : Option Value) (ad' : sAd) (M' : sM), Post r ad' M' → sW X G Y Q ad' M' (kc + (yR Y9).cells) (ks + (yR Y9).slots) lv (pc + 3) (r.toList ++ rest)) : sW X G Y Q ad M kc ks lv pc st0 :=
  sW.callX (fun H locs ls F hW hS hL hn => vx_runV (b := ad kd ix) (As := As) (rest := rest) F.fix (hM _ F.2.2.2.2.2.2.2.2.1) (cwV n F.2.2.2.2.1 hT hw rfl rfl hd9 hR) ⟨sPc.blind, sW.recv F hW he hc, sPc.go F hW hS⟩ rfl hn9 (hL.1.trans hn) hst (lv_room hcat) hd hf) kx kk
/-- Math.max -/
theorem s_mmax {x z : Int32} (hi1 : Cond.methodLink (yO Y) index Lib.Math.max.name ∈ yT Y) (hi2 : Cond.static Lib.Math.max.name ∈ yT Y) (hi3 : Cond.initialized "java/lang/Math" ∈ yT Y) (hi4 : Cond.code Lib.Math.max.name Lib.Math.max.code 2 (some .int) ∈ yT Y) (h1 : 1 ≤ (yR Y).frames) (h2 : (rest.map fun v => v.category).sum + 13 ≤ (yR Y).locals) (h3 : kc ≤ (yR Y).cells) (h4 : ks ≤ (yR Y).slots)
    (hd : decode (yC Y) pc = .ok (.invokestatic index, 3)) (k : sW X G Y Q ad M kc ks lv (pc + 3) (.int (if x < z then z else x) :: rest)) : sW X G Y Q ad M kc ks lv pc (.int z :: .int x :: rest) := fun F H locs ls a b c d =>
  va_mmax F.1 F.2.1 (by rw [c.1, d]; exact F.2.2.1) F.2.2.2.1 (F.2.2.2.2.1 _ hi1) (F.2.2.2.2.1 _ hi2) (F.2.2.2.2.1 _ hi3) (F.2.2.2.2.1 _ hi4) h1 h2 h3 h4 hd (k F H locs ls a b c d)
/-! ends -/
theorem s_iret {v : Int32} {ty : FieldType} (hr : yV Y = some ty) (hn9 : narrow ty (.int v) = .int v) (hd : decode (yC Y) pc = .ok (.ireturn, 1)) (h1 : kc ≤ (yR Y).cells) (h2 : ks ≤ (yR Y).slots) (hq : Post (some (.int v)) ad M) : sW X G Y (sQ X G Y Post PX) ad M kc ks lv pc [.int v] := fun F H locs ls hM hS hL hn =>
  W.widen h1 h2 (vx_ret (W.zret F.1 F.2.1 (F.2.2.2.2.2.2.2.2.2.1.trans hr) hn9 (fun t ht hW => ⟨⟨_, ad, M, rfl, hq, by rw [ht]; exact hM⟩, hS.F ht⟩) hS.2.2 hd F.2.2.2.2.2.2.2.1))
theorem s_lret {v : Int64} (hr : yV Y = some .long) (hd : decode (yC Y) pc = .ok (.lreturn, 1)) (h1 : kc ≤ (yR Y).cells) (h2 : ks ≤ (yR Y).slots) (hq : Post (some (.long v)) ad M) : sW X G Y (sQ X G Y Post PX) ad M kc ks lv pc [.long v] := fun F H locs ls hM hS hL hn =>
  W.widen h1 h2 (vx_ret (W.lret F.1 F.2.1 (F.2.2.2.2.2.2.2.2.2.1.trans hr) (fun t ht hW => ⟨⟨_, ad, M, rfl, hq, by rw [ht]; exact hM⟩, hS.F ht⟩) hS.2.2 hd F.2.2.2.2.2.2.2.1))
theorem s_vret (hr : yV Y = none) (hd : decode (yC Y) pc = .ok (.return_, 1)) (h1 : kc ≤ (yR Y).cells) (h2 : ks ≤ (yR Y).slots) (hq : Post none ad M) : sW X G Y (sQ X G Y Post PX) ad M kc ks lv pc [] := fun F H locs ls hM hS hL hn =>
  W.widen h1 h2 (vx_ret (W.vret F.1 F.2.1 (F.2.2.2.2.2.2.2.2.2.1.trans hr) (fun t ht hW => ⟨⟨_, ad, M, rfl, hq, by rw [ht]; exact hM⟩, hS.F ht⟩) hS.2.2 hd F.2.2.2.2.2.2.2.1))
theorem s_aret {v : Value} {n9 : String} (hr : yV Y = some (.object n9)) (hv : v = .null ∨ ∃ a, v = .ref a) (hd : decode (yC Y) pc = .ok (.areturn, 1)) (h1 : kc ≤ (yR Y).cells) (h2 : ks ≤ (yR Y).slots) (hq : Post (some v) ad M) : sW X G Y (sQ X G Y Post PX) ad M kc ks lv pc [v] := fun F H locs ls hM hS hL hn =>
  W.widen h1 h2 (vx_ret (W.aret F.1 F.2.1 (F.2.2.2.2.2.2.2.2.2.1.trans hr) (Or.inl ⟨_, rfl⟩) hv (fun t ht hW => ⟨⟨_, ad, M, rfl, hq, by rw [ht]; exact hM⟩, hS.F ht⟩) hS.2.2 hd F.2.2.2.2.2.2.2.1))
/-- an exception goes through a method without handlers -/
theorem s_out {E : String} {st : List Value} (hh : yH Y = []) (h1 : kc ≤ (yR Y).cells) (h2 : ks ≤ (yR Y).slots) (hq : PX E ad M) : sXW X G Y (sQ X G Y Post PX) E ad M kc ks lv pc st := fun F H locs ls q ce hM hS hL hn hce hcv hcl =>
  vx_out (fun x hx => by rw [F.2.2.2.2.2.2.2.2.2.2.2, hh] at hx; cases hx) F.2.2.2.2.2.2.2.1 hce hcv hcl (fun t ht ha => ⟨⟨ad, M, hq, by rw [ht]; exact hM⟩, hS.F ht⟩) hS.2.2 h1 h2
theorem sBad_ok (F : sF X G Y) : ∀ w ∈ sBad, w.before (mG X) (mS X) = true := fun w hw => by
  rcases List.mem_append.mp hw with h | h
  · obtain ⟨c, hc, rfl⟩ := List.mem_map.mp h
    exact va_Nw.use rfl (F.2.2.2.2.2.2.1.1.2.2.2.2.2.2.1 c hc)
  · obtain ⟨d, hd, rfl⟩ := List.mem_map.mp h
    exact va_Nw.use rfl (F.2.2.2.2.2.2.1.1.2.2.2.2.2.2.2.1 d hd)
/-- throw new E("text") -/
theorem s_throw {cls text : String} {names : List String} {ik is ic : Nat} (hh : yH Y = []) (hO : yO Y = RX3) (hcls : Bundle.fit cls = true) (hnames : ∀ n ∈ names, Bundle.fit n = true) (hw1 : Cond.classLink (yO Y) ik cls ∈ yT Y) (hw2 : Cond.initialized cls ∈ yT Y) (hx : (is, text) ∈ sTx) (hat : ∀ w ∈ (vx_atS (yO Y) ic cls names).filter goodWord, w ∈ yT Y) (hbad : ∀ w ∈ (vx_atS (yO Y) ic cls names).filter (fun w => !goodWord w), w ∈ sBad)
    (hgood : ∀ w ∈ Cond.classLink (yO Y) ik cls :: Cond.initialized cls :: vx_atS (yO Y) ic cls names, vx_ot w = true)
    (d0 : decode (yC Y) pc = .ok (.new ik, 3)) (d3 : decode (yC Y) (pc + 3) = .ok (.dup, 1)) (d4 : decode (yC Y) (pc + 4) = .ok (.ldc is, 2)) (d6 : decode (yC Y) (pc + 6) = .ok (.invokespecial ic, 3)) (d9 : decode (yC Y) (pc + 9) = .ok (.athrow, 1))
    (h1 : names.length + 3 < (yR Y).frames) (h2 : (rest.map fun v => v.category).sum + (13 * (names.length + 1) + 43) ≤ (yR Y).locals) (h3 : kc + 1 ≤ (yR Y).cells) (h4 : ks + 6 ≤ (yR Y).slots) (hq : PX cls ad M) : sW X G Y (sQ X G Y Post PX) ad M kc ks lv pc rest := fun F H locs ls hM hS hL hn =>
  vx_throwS F.1 F.2.1 F.2.2.2.2.2.2.2.2.1 F.2.2.2.1 hcls hnames (F.2.2.2.2.1 _ hw1) (F.2.2.2.2.1 _ hw2) (by rw [hO]; exact F.2.2.2.2.2.2.1.1.2.2.2.1 _ hx) (vx_hat (fun w hw => F.2.2.2.2.1 w (hat w hw)) hbad (sBad_ok F)) hgood F.2.2.2.2.2.2.1.2.2.2.1 F.2.2.2.2.2.2.1.2.2.2.2 hS (by rw [hL.1, hn]; exact F.2.2.1.symm) d0 d3 d4 d6 d9
    (fun x hx => by rw [F.2.2.2.2.2.2.2.2.2.2.2, hh] at hx; cases hx) h1 h2 h3 h4 F.2.2.2.2.2.2.2.1
    (fun t ha hz hk => ⟨⟨ad, M, hq, hM.kept (fun q hq _ => hk q hq)⟩, ⟨Nat.le_trans hS.1 hz, fun q h1 h2 => (hk q (Nat.lt_of_lt_of_le h1 hS.1)).trans (hS.2.1 q h1 h2)⟩⟩) hS.2.2 h3 h4
/-- the static table -/
theorem s_getTF (hw : Cond.fieldLink (yO Y) index RX3 "TREE_FIELDS" "[I" ∈ yT Y) (hd : decode (yC Y) pc = .ok (.getstatic index, 3)) (k : sW X G Y Q ad M kc ks lv (pc + 3) (.ref (gF G) :: rest)) : sW X G Y Q ad M kc ks lv pc rest := fun F H locs ls a b c d =>
  va_gets F.1 F.2.1 F.2.2.2.2.2.2.1.2.1 b F.2.2.2.1 (F.2.2.2.2.1 _ hw) (fun _ h => h) hd (k F H locs ls a b c d)
/-- new of a class of ours: the cell gets a name that isn't used yet -/
theorem s_new {C : String} {T : u_T} {N ci : Nat} (kd ix : Nat) (ty : Nat → FieldType) (hty : ∀ k, k < N → parseFieldDescriptor (T k).2.2.1 = some (ty k)) (he : M kd ix = none) (hc : vwCl[ci]? = some (C, T, N)) (hin : ∀ w ∈ u_ws C T N, w ∈ yT Y) (hw1 : Cond.classLink (yO Y) index C ∈ yT Y) (hw2 : Cond.instantiable C N ∈ yT Y) (hw3 : Cond.initialized C ∈ yT Y) {fs : List Value} (hfs : ∀ j, j < N → defaultValue (ty j) = vp_V fs j) (h1 : kc + 1 ≤ (yR Y).cells) (h2 : ks + N ≤ (yR Y).slots) (hd : decode (yC Y) pc = .ok (.new index, 3))
    (k : ∀ q : Nat, sW X G Y Q (aset ad kd ix q) (sset M kd ix (.inr (ci, fs))) (kc + 1) (ks + N) lv (pc + 3) (.ref q :: rest)) : sW X G Y Q ad M kc ks lv pc rest := by
  intro F H locs ls hM hS hL hn
  have hKn := F.2.2.2.2.2.2.1.1.1.1 ci _ hc
  refine W.newcK F.1 F.2.1 F.2.2.2.1 (F.2.2.2.2.1 _ hw1) (F.2.2.2.2.1 _ hw2) (F.2.2.2.2.1 _ hw3) rfl hd h1 h2 hKn.2.1 rfl fun H1 kC hkC e1 z1 o1 => ?_
  have hN : gN G ≤ H.size := Nat.le_trans F.2.2.2.2.2.1 hS.1
  exact k H.size F H1 locs ls (hM.new he hN ⟨_, hc, (u_born ty F.2.2.2.2.1 hin hKn hkC e1 hty).to hfs⟩ o1) ⟨Nat.le_trans hS.1 (by omega), fun x h1 h2 => (o1 x (Nat.lt_of_lt_of_le h1 hS.1)).trans (hS.2.1 x h1 h2), hS.2.2⟩ hL hn
/-- a new array of a primitive type -/
theorem s_newa {atype : ArrayType} {ty : FieldType} {cA : ClassId} (kd ix t0 : Nat) (hty : newarray.typeOf atype = ty) (he : M kd ix = none) (ht : (gTys G)[t0]? = some (cA, ty)) (hob : ∀ C, ty ≠ .object C) (hw : Cond.arrayClass ty ∈ yT Y) {n9 : Int32} {N' : Nat} {a0 : vp_A} (ha : ∀ cA : ClassId, vp_cell cA a0 = arrV cA N' (fun _ => defaultValue ty)) (hn9 : ¬ n9 < 0) (hN : n9.toNatClampNeg = N') (hb : N' * componentBytes ty ≤ 536870912) (h1 : kc + 1 ≤ (yR Y).cells) (h2 : ks + N' ≤ (yR Y).slots) (hd : decode (yC Y) pc = .ok (.newarray atype, 2))
    (k : ∀ q : Nat, sW X G Y Q (aset ad kd ix q) (sset M kd ix (.inl (cA, a0))) (kc + 1) (ks + N') lv (pc + 2) (.ref q :: rest)) : sW X G Y Q ad M kc ks lv pc (.int n9 :: rest) := by
  subst hty
  intro F H locs ls hM hS hL hn
  refine va_newaK F.1 F.2.1 (F.2.2.2.2.1 _ hw) rfl hd rfl hn9 hN hb h1 h2 rfl fun H1 cB e1 z1 o1 hAr hNm => ?_
  have hN0 : gN G ≤ H.size := Nat.le_trans F.2.2.2.2.2.1 hS.1
  have hcA : cB = cA := by
    have h3 := (F.2.2.2.2.2.2.1.1.1.2 t0 _ ht).2
    have h4 : (mS X).vm.findClass ("[" ++ (newarray.typeOf atype).toString) = some cA := by
      revert h3 hob
      cases newarray.typeOf atype <;> intro hob h3 <;> first | exact h3 | exact absurd rfl (hob _)
    exact Option.some.inj (hNm.symm.trans h4)
  subst hcA
  refine k H.size F H1 locs ls (hM.new he hN0 ?_ o1) ⟨Nat.le_trans hS.1 (by omega), fun x h1 h2 => (o1 x (Nat.lt_of_lt_of_le h1 hS.1)).trans (hS.2.1 x h1 h2), hS.2.2⟩ hL hn
  show H1[H.size]? = some (vp_cell _ _)
  rw [ha]
  exact e1
end SFD
