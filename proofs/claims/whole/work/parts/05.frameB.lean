/-! THE FRAME, part two: what is fixed (sCx), the judgement, contracts. -/
section SFB
/-- the texts of the exceptions, by their places in the class's pool -/
def sTx : List (Nat × String) := [(47, "no such letter"), (169, "120 trees are there"), (76, "no such number"), (84, "no such tree"), (87, "no such node"), (98, "too deep"), (114, "no such row"), (118, "60 rows are there"), (128, "no such row or tree"), (130, "a row of this kind has no cofactor"), (132, "no such row or letter"), (137, "no such number in a sample"), (139, "no such rows"), (145, "nothing such in a row"), (161, "the tree is too great")]
/-- the links across the nest -/
def sNF : List (String × Nat × String × String × String × String) := [("SmallChecker", 56, "SmallChecker$Tree", "polynomial", "LSmallChecker$Polynomial;", "SmallChecker"), ("SmallChecker", 89, "SmallChecker$Tree", "depth", "I", "SmallChecker"), ("SmallChecker", 104, "SmallChecker$Tree", "model", "I", "SmallChecker"), ("SmallChecker", 155, "SmallChecker$Polynomial", "size", "I", "SmallChecker"), ("SmallChecker", 172, "SmallChecker$Tree", "head", "I", "SmallChecker"), ("SmallChecker", 175, "SmallChecker$Tree", "first", "I", "SmallChecker"), ("SmallChecker", 178, "SmallChecker$Tree", "second", "I", "SmallChecker"), ("SmallChecker", 240, "SmallChecker$Polynomial", "numbers", "[I", "SmallChecker"), ("SmallChecker", 243, "SmallChecker$Polynomial", "keys", "[I", "SmallChecker"), ("SmallChecker$Sheet", 30, "SmallChecker$Polynomial", "size", "I", "SmallChecker"), ("SmallChecker$Sheet", 35, "SmallChecker$Polynomial", "keys", "[I", "SmallChecker"), ("SmallChecker$Sheet", 36, "SmallChecker$Polynomial", "numbers", "[I", "SmallChecker"), ("SmallChecker$Sheet", 42, "SmallChecker$Polynomial", "degree", "I", "SmallChecker")]
def sNM : List (String × Nat × MethodName × String) := [("SmallChecker", 22, ⟨"SmallChecker$Sheet", "<init>", "()V"⟩, "SmallChecker"), ("SmallChecker", 29, ⟨"SmallChecker$Polynomial", "<init>", "()V"⟩, "SmallChecker"), ("SmallChecker", 59, ⟨"SmallChecker$Polynomial", "becomeZero", "()V"⟩, "SmallChecker"), ("SmallChecker", 66, ⟨"SmallChecker$Polynomial", "append", "(IJ)V"⟩, "SmallChecker"), ("SmallChecker", 151, ⟨"SmallChecker$Polynomial", "isTooGreat", "()Z"⟩, "SmallChecker"), ("SmallChecker", 166, ⟨"SmallChecker$Polynomial", "numberAt", "(I)I"⟩, "SmallChecker"), ("SmallChecker", 171, ⟨"SmallChecker$Tree", "<init>", "()V"⟩, "SmallChecker"), ("SmallChecker", 185, ⟨"SmallChecker$Polynomial", "becomeTooGreat", "()V"⟩, "SmallChecker"), ("SmallChecker", 188, ⟨"SmallChecker$Sheet", "wipe", "()V"⟩, "SmallChecker"), ("SmallChecker", 191, ⟨"SmallChecker$Sheet", "addMultiple", "(LSmallChecker$Polynomial;I)V"⟩, "SmallChecker"), ("SmallChecker", 195, ⟨"SmallChecker$Sheet", "addProduct", "(LSmallChecker$Polynomial;LSmallChecker$Polynomial;)V"⟩, "SmallChecker"), ("SmallChecker", 199, ⟨"SmallChecker$Sheet", "copyTo", "(LSmallChecker$Polynomial;)V"⟩, "SmallChecker"), ("SmallChecker", 230, ⟨"SmallChecker$Sheet", "isZero", "()Z"⟩, "SmallChecker"), ("SmallChecker", 233, ⟨"SmallChecker$Sheet", "addDerivation", "(LSmallChecker$Polynomial;I)V"⟩, "SmallChecker"), ("SmallChecker", 236, ⟨"SmallChecker$Sheet", "addWithNumber", "(LSmallChecker$Polynomial;II)V"⟩, "SmallChecker"), ("SmallChecker$Polynomial", 36, ⟨"SmallChecker", "degreeOf", "(I)I"⟩, "SmallChecker"), ("SmallChecker$Sheet", 45, ⟨"SmallChecker", "powerIn", "(II)I"⟩, "SmallChecker"), ("SmallChecker$Sheet", 49, ⟨"SmallChecker", "keyOfLetter", "(I)I"⟩, "SmallChecker"), ("SmallChecker$Sheet", 53, ⟨"SmallChecker", "power", "(II)J"⟩, "SmallChecker"), ("SmallChecker$Sheet", 57, ⟨"SmallChecker$Polynomial", "becomeZero", "()V"⟩, "SmallChecker"), ("SmallChecker$Sheet", 60, ⟨"SmallChecker$Polynomial", "append", "(IJ)V"⟩, "SmallChecker"), ("SmallChecker$Sheet", 63, ⟨"SmallChecker$Polynomial", "becomeTooGreat", "()V"⟩, "SmallChecker"), ("SmallChecker$Tree", 9, ⟨"SmallChecker$Polynomial", "<init>", "()V"⟩, "SmallChecker")]
/-- the static table -/
def sTF : Nat → Value := fun j => .int (match j with
  | 0 => 2
  | 1 => 2
  | 2 => 3
  | 3 => 1
  | 4 => 2
  | 5 => 1
  | _ => 2)
def va_AOA (t : FieldType) (U : State) : Prop := (Cond.arrayOver (.array t)).before #[] U = true
theorem va_AOA.use {t : FieldType} {A : Array Value} {U : State} (h : va_AOA t U) : (Cond.arrayOver (.array t)).before A U = true := h
theorem va_AOA.moved {t : FieldType} {u U : State} (hvm : u.vm.Alike U.vm) (h : va_AOA t u) : va_AOA t U := by
  obtain ⟨comp, c, k, h1, h2, h3, h4, h5⟩ := arrayOverA_spec h
  obtain ⟨k', hk', he⟩ := hvm.2.2 _ _ h3
  have e9 : U.vm.bare = u.vm.bare := by first | exact hvm.bare_eq | exact hvm.bare_eq.symm
  have h6 := va_idx_bare u.vm comp
  have h7 := va_idx_bare U.vm comp
  rw [e9] at h7
  have hi : (U.vm.classes.findIdx? fun (x : Class) => match x.kind with | .array component _ => component == comp | _ => false) = some c := (h7.symm.trans h6).trans h2
  have hkind : k'.kind = .array comp (.array t) := by rw [he]; exact h4
  have f1 : U.vm.findClass (FieldType.array t).toString = some comp := by rw [hvm.findClass]; exact h1
  have f2 : U.vm.findClass ("[" ++ (FieldType.array t).toString) = some c := by rw [hvm.findClass]; exact h5
  unfold va_AOA Cond.before Cond.holds
  simp only [Cond.value]
  rw [f1, Option.bind_some]
  refine (congrArg (fun o : Option Nat => (o.bind (fun c => (U.vm.classes[c]?).map fun (k : Class) => match k.kind with | .array _ ty => decide (ty = FieldType.array t) && decide (U.vm.findClass ("[" ++ (FieldType.array t).toString) = some c) | _ => false) == some true)) hi).trans ?_
  simp [hk', hkind, f2]
/-- the exceptions of the class, what they are made of, which is no other -/
def sCs : List String := ["java/lang/ArrayIndexOutOfBoundsException", "java/lang/IllegalArgumentException", "java/lang/IllegalStateException"]
def sDc : List MethodName := [⟨"java/lang/IndexOutOfBoundsException", "<init>", "(Ljava/lang/String;)V"⟩, ⟨"java/lang/RuntimeException", "<init>", "(Ljava/lang/String;)V"⟩, ⟨"java/lang/Exception", "<init>", "(Ljava/lang/String;)V"⟩, ⟨"java/lang/Throwable", "<init>", "(Ljava/lang/String;)V"⟩]
def sNc : List (String × String) := [("java/lang/IllegalArgumentException", "java/lang/ArrayIndexOutOfBoundsException"), ("java/lang/IllegalStateException", "java/lang/ArrayIndexOutOfBoundsException"), ("java/lang/IllegalStateException", "java/lang/IllegalArgumentException")]
def sBad : List Cond := (sCs.map fun c => Cond.castable c c) ++ sDc.map fun d => Cond.declares d
/-- what of the tables is no good word -/
def sCt (G : sG) (U : State) : Prop := va_K (gD G) vwCl (gTys G) U ∧ (∀ w ∈ sNF, va_Nw (.fieldLinkNest w.1 w.2.1 w.2.2.1 w.2.2.2.1 w.2.2.2.2.1 w.2.2.2.2.2) U) ∧ (∀ w ∈ sNM, va_Nw (.methodLinkNest w.1 w.2.1 w.2.2.1 w.2.2.2) U) ∧ (∀ w ∈ sTx, vk_R RX3 w.1 w.2 (gS G w.1) U) ∧ va_AO RX2 U ∧ va_AOA .int U ∧ (∀ w ∈ sCs, va_Nw (.castable w w) U) ∧ (∀ w ∈ sDc, va_Nw (.declares w) U) ∧ ∀ w ∈ sNc, va_Nc w.1 w.2 U
/-- what of the heap is from before: the statics -/
def sCh (G : sG) (U : State) : Prop := va_Z RX3 "TREE_FIELDS" "[I" (.ref (gF G)) (gA G) U U.heap ∧ va_T .int (gF G) 7 sTF (gA G) U U.heap ∧ vx_Zq Bundle.tN "UNASSIGNED_STACK" Bundle.steD (gA G) U U.heap ∧ vx_Zq Bundle.tN "SUPPRESSED_SENTINEL" Bundle.listD (gA G) U U.heap
def sCx (G : sG) (U : State) : Prop := sCt G U ∧ sCh G U
theorem sCt.warm {G : sG} {s U : State} (hW : s.WarmedH U.vm) (h : sCt G s) : sCt G U :=
  ⟨va_K.moved hW.alike h.1, fun w hw => va_Nw.warmF hW (h.2.1 w hw), fun w hw => va_Nw.warmM hW (h.2.2.1 w hw), fun w hw => vk_R.warm hW (h.2.2.2.1 w hw), va_AO.moved hW.alike h.2.2.2.2.1, va_AOA.moved hW.alike h.2.2.2.2.2.1, fun w hw => va_Nw.warmC hW (h.2.2.2.2.2.2.1 w hw), fun w hw => va_Nw.warmD hW (h.2.2.2.2.2.2.2.1 w hw), fun w hw => va_Nc.moved hW.alike (h.2.2.2.2.2.2.2.2 w hw)⟩
theorem sCt.same {G : sG} {s U : State} (hv : s.vm = U.vm) (h : sCt G s) : sCt G U :=
  ⟨va_K.moved (by rw [hv]; exact Vm.Alike.refl _) h.1, fun w hw => va_Nw.same rfl hv (h.2.1 w hw), fun w hw => va_Nw.same rfl hv (h.2.2.1 w hw), fun w hw => vk_R.same hv.symm (h.2.2.2.1 w hw), va_AO.moved (by rw [hv]; exact Vm.Alike.refl _) h.2.2.2.2.1, va_AOA.moved (by rw [hv]; exact Vm.Alike.refl _) h.2.2.2.2.2.1, fun w hw => va_Nw.same rfl hv (h.2.2.2.2.2.2.1 w hw), fun w hw => va_Nw.same rfl hv (h.2.2.2.2.2.2.2.1 w hw), fun w hw => va_Nc.moved (by rw [hv]; exact Vm.Alike.refl _) (h.2.2.2.2.2.2.2.2 w hw)⟩
theorem sCh.go {G : sG} {s U : State} (hvm : s.vm.Alike U.vm) (hq : ∀ a : Nat, a < s.heap.size → ¬ gA G a → U.heap[a]? = s.heap[a]?) (h : sCh G s) : sCh G U :=
  ⟨(h.1.moved hvm).kept hq, (h.2.1.moved hvm).kept hq, (h.2.2.1.moved hvm).kept hq, (h.2.2.2.moved hvm).kept hq⟩
/-- the machine at a point of an invocation, but for the heap -/
abbrev sMach : Type := Program × Launch × Env × State × MethodId × Array Value × List Frame × Method × Code
abbrev mP (X : sMach) : Program := X.1
abbrev mL (X : sMach) : Launch := X.2.1
abbrev mE (X : sMach) : Env := X.2.2.1
abbrev mS (X : sMach) : State := X.2.2.2.1
abbrev mM (X : sMach) : MethodId := X.2.2.2.2.1
abbrev mG (X : sMach) : Array Value := X.2.2.2.2.2.1
abbrev mB (X : sMach) : List Frame := X.2.2.2.2.2.2.1
abbrev mT (X : sMach) : Method := X.2.2.2.2.2.2.2.1
abbrev mC (X : sMach) : Code := X.2.2.2.2.2.2.2.2
/-- a method: its bytes, how many locals, its class, its words, its room, what it returns, its name, its handlers -/
abbrev sMeth : Type := ByteArray × Nat × String × List Cond × Room × Option FieldType × String × List (Nat × Nat × Nat × Nat)
abbrev yC (Y : sMeth) : ByteArray := Y.1
abbrev yN (Y : sMeth) : Nat := Y.2.1
abbrev yO (Y : sMeth) : String := Y.2.2.1
abbrev yT (Y : sMeth) : List Cond := Y.2.2.2.1
abbrev yR (Y : sMeth) : Room := Y.2.2.2.2.1
abbrev yV (Y : sMeth) : Option FieldType := Y.2.2.2.2.2.1
abbrev yM (Y : sMeth) : String := Y.2.2.2.2.2.2.1
abbrev yH (Y : sMeth) : List (Nat × Nat × Nat × Nat) := Y.2.2.2.2.2.2.2
def sF (X : sMach) (G : sG) (Y : sMeth) : Prop :=
  (mP X).tables.exec = Jvm.exec ∧ (mC X).code = yC Y ∧ (mC X).maxLocals = yN Y ∧ (mS X).vm.findClass (yO Y) = some (mM X).cls ∧ (∀ w ∈ yT Y, w.before (mG X) (mS X) = true) ∧ gN G ≤ (mS X).heap.size ∧ sCx G (mS X) ∧ (mT X).locks = false ∧ (mL X).stackTraces = false ∧ (mT X).sig.returnType = yV Y ∧ (mT X).name = yM Y ∧ (mC X).exceptionTable.toList = tableOf (yH Y)
abbrev sWm (X : sMach) (R : Room) (H : Heap) (locs : List Loc) (kc ks : Nat) (Q : State → Prop) (g : JFrame) : Prop := W (mP X) (mL X) (mE X) R (mS X) (mM X) (mG X) (mB X) (mT X) (mC X) H locs kc ks Q g
/-- THE JUDGEMENT: at pc with the locals lv and the stack st, in any heap that holds the world M: Q is reached -/
def sW (X : sMach) (G : sG) (Y : sMeth) (Q : State → Prop) (ad : sAd) (M : sM) (kc ks : Nat) (lv : List (Option Value)) (pc : Nat) (st : List Value) : Prop :=
  sF X G Y → ∀ (H : Heap) (locs : List Loc) (ls : Array Slot), sWd G ad M H → va_S (gA G) (mS X).heap H locs → sL ls lv → lv.length = yN Y → sWm X (yR Y) H locs kc ks Q (F0 (mM X) pc ls st)
/-- the same where an exception of the class E is on its way -/
def sXW (X : sMach) (G : sG) (Y : sMeth) (Q : State → Prop) (E : String) (ad : sAd) (M : sM) (kc ks : Nat) (lv : List (Option Value)) (pc : Nat) (st : List Value) : Prop :=
  sF X G Y → ∀ (H : Heap) (locs : List Loc) (ls : Array Slot) (q : Addr) (ce : Cell), sWd G ad M H → va_S (gA G) (mS X).heap H locs → sL ls lv → lv.length = yN Y → H[q]? = some ce → ce.vm = .none → (mS X).vm.findClass E = some ce.cls → vx_W (mP X) (mL X) (mE X) (yR Y) (mS X) (mM X) (mG X) (mB X) (mT X) (mC X) H locs kc ks Q (F0 (mM X) pc ls st) q
def sQc (G : sG) (Post : Option Value → sAd → sM → Prop) : Array Value → State → Outcome → State → Prop := fun _ st o t => (∃ (r : Option Value) (ad : sAd) (M : sM), o = .returned r ∧ Post r ad M ∧ sWd G ad M t.heap) ∧ va_F (gA G) st t
def sXC (G : sG) (PX : String → sAd → sM → Prop) : String → State → State → Prop := fun E st t => (∃ (ad : sAd) (M : sM), PX E ad M ∧ sWd G ad M t.heap) ∧ va_F (gA G) st t
def sQ (X : sMach) (G : sG) (Y : sMeth) (Post : Option Value → sAd → sM → Prop) (PX : String → sAd → sM → Prop) : State → Prop := vx_MQ (mB X) (sQc G Post) (sXC G PX) (mG X) (mS X) (yR Y).cells (yR Y).slots (gA G)
def sPc (G : sG) (As : List Value) (ad : sAd) (M : sM) : Array Value → State → Prop := va_Pc As (fun U => gN G ≤ U.heap.size ∧ sCx G U ∧ sWd G ad M U.heap)
/-- A CONTRACT: called with As in the world M the method y returns with Post, or throws with PX -/
def sMet (G : sG) (l : Launch) (y : MethodName) (Y : sMeth) (As : List Value) (ad : sAd) (M : sM) (Post : Option Value → sAd → sM → Prop) (PX : String → sAd → sM → Prop) : Prop :=
  vx_Met l y (yT Y) (yR Y) (sPc G As ad M) (sQc G Post) (sXC G PX) (yR Y).cells (yR Y).slots (gA G)
theorem sPc.blind {G : sG} {As : List Value} {ad : sAd} {M : sM} : FrameBlind (sPc G As ad M) := fun a U g mk h => by
  obtain ⟨h1, h2, h3, h4⟩ := h
  exact ⟨h1, h2, ⟨h3.1.same rfl, h3.2.go (Vm.Alike.refl _) (fun _ _ _ => rfl)⟩, h4⟩
theorem sPc.go {X : sMach} {G : sG} {Y : sMeth} {ad : sAd} {M : sM} {H : Heap} {locs : List Loc} (F : sF X G Y) (hM : sWd G ad M H) (hS : va_S (gA G) (mS X).heap H locs) {As : List Value} : ∀ U : State, U.heap = H → (mS X).WarmedH U.vm → sPc G As ad M As.toArray U := by
  intro U hU hW
  obtain ⟨-, -, -, -, -, hN, hC, -⟩ := F
  refine ⟨rfl, ?_, ⟨hC.1.warm hW, hC.2.go hW.alike ?_⟩, ?_⟩
  · rw [hU]; exact Nat.le_trans hN hS.1
  · intro a h1 h2; rw [hU]; exact hS.2.1 a h1 h2
  · rw [hU]; exact hM
/-- entry: a contract out of a walk -/
theorem sMet.of {G : sG} {l : Launch} {y : MethodName} {Y : sMeth} {ws' : List Cond} {As : List Value} {ad : sAd} {M : sM} {Post : Option Value → sAd → sM → Prop} {PX : String → sAd → sM → Prop} (hl : l.stackTraces = false)
    (hy : plainName y.cls = true) (hw : yT Y = Cond.code y (yC Y) (yN Y) (yV Y) :: ws') (ho : yO Y = y.cls) (hm : yM Y = y.name) (hh : yH Y = []) (hn : (lg_sl As).length ≤ yN Y)
    (body : ∀ X : sMach, sW X G Y (sQ X G Y Post PX) ad M 0 0 (sargs As ++ List.replicate (yN Y - (lg_sl As).length) none) 0 []) : sMet G l y Y As ad M Post PX := by
  refine vx_ofW (cc := yC Y) (maxL := yN Y) (ret := yV Y) hy hw ?_
  intro p e s m args below meth c s₁ B hml htab hv
  obtain ⟨rfl, hN, hC, hM⟩ := hv
  have hF : sF (p, l, e, s, m, As.toArray, below, meth, c) G Y := by
    refine ⟨B.exec, B.bytes, hml, ?_, atoms_spec (ws := yT Y) B.pre, hN, hC, B.notSynchronized, hl, B.returns, ?_, ?_⟩
    · rw [ho]; exact findClass_of_methodNamed B.named
    · rw [hm]; exact (name_of_methodNamed B.named B.method).1
    · rw [hh]
      cases hx : c.exceptionTable.toList with
      | nil => rfl
      | cons a r => exact absurd (htab a (by rw [hx]; exact List.mem_cons_self)) id
  rw [lg_entry_eq]
  exact body (p, l, e, s, m, As.toArray, below, meth, c) hF s.heap [] _ hM va_S.rf (sL.entry As hn) (by rw [List.length_append, List.length_replicate, sargs_len]; omega)
/-- the same for a method with handlers -/
theorem sMet.ofH {G : sG} {l : Launch} {y : MethodName} {Y : sMeth} {ws' : List Cond} {As : List Value} {ad : sAd} {M : sM} {Post : Option Value → sAd → sM → Prop} {PX : String → sAd → sM → Prop} (hl : l.stackTraces = false)
    (hy : plainName y.cls = true) (hw : yT Y = Cond.codeWith y (yC Y) (yN Y) (yV Y) (yH Y) :: ws') (ho : yO Y = y.cls) (hm : yM Y = y.name) (hn : (lg_sl As).length ≤ yN Y)
    (body : ∀ X : sMach, sW X G Y (sQ X G Y Post PX) ad M 0 0 (sargs As ++ List.replicate (yN Y - (lg_sl As).length) none) 0 []) : sMet G l y Y As ad M Post PX := by
  refine vx_ofWH (cc := yC Y) (maxL := yN Y) (ret := yV Y) hy hw ?_
  intro p e s m args below meth c s₁ B hml hv
  obtain ⟨rfl, hN, hC, hM⟩ := hv
  have hts := atoms_spec (ws := yT Y) B.pre
  have hF : sF (p, l, e, s, m, As.toArray, below, meth, c) G Y := by
    refine ⟨B.exec, B.bytes, hml, ?_, hts, hN, hC, B.notSynchronized, hl, B.returns, ?_, ?_⟩
    · rw [ho]; exact findClass_of_methodNamed B.named
    · rw [hm]; exact (name_of_methodNamed B.named B.method).1
    · exact vx_table (x := y) B (hts _ (by rw [hw]; exact List.mem_cons_self))
  rw [lg_entry_eq]
  exact body (p, l, e, s, m, As.toArray, below, meth, c) hF s.heap [] _ hM va_S.rf (sL.entry As hn) (by rw [List.length_append, List.length_replicate, sargs_len]; omega)
end SFB
