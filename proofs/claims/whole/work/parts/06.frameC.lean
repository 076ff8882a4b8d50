/-! THE FRAME, part three: a row an instruction. -/
section SFC
variable {X : sMach} {G : sG} {Y : sMeth} {Q : State → Prop} {ad : sAd} {M : sM} {kc ks : Nat} {lv : List (Option Value)} {pc : Nat} {rest : List Value}
theorem sW.lift {pc' : Nat} {st st' : List Value} (h : ∀ (H : Heap) (locs : List Loc) (ls : Array Slot), sF X G Y → sL ls lv → sWm X (yR Y) H locs kc ks Q (F0 (mM X) pc' ls st') → sWm X (yR Y) H locs kc ks Q (F0 (mM X) pc ls st)) (k : sW X G Y Q ad M kc ks lv pc' st') : sW X G Y Q ad M kc ks lv pc st := fun F H locs ls a b c d => h H locs ls F c (k F H locs ls a b c d)
theorem s_iconst {n : Int} {v : Int32} (hd : decode (yC Y) pc = .ok (.iconst n, 1)) (hv : Int32.ofInt n = v) (k : sW X G Y Q ad M kc ks lv (pc + 1) (.int v :: rest)) : sW X G Y Q ad M kc ks lv pc rest := sW.lift (fun _ _ _ F _ k => lv_iconst F.1 F.2.1 hd hv k) k
theorem s_bipush {n : Int} {v : Int32} (hd : decode (yC Y) pc = .ok (.bipush n, 2)) (hv : (Int8.ofInt n).toInt32 = v) (k : sW X G Y Q ad M kc ks lv (pc + 2) (.int v :: rest)) : sW X G Y Q ad M kc ks lv pc rest := sW.lift (fun _ _ _ F _ k => lv_bipush F.1 F.2.1 hd hv k) k
theorem s_sipush {n : Int} {v : Int32} (hd : decode (yC Y) pc = .ok (.sipush n, 3)) (hv : (Int16.ofInt n).toInt32 = v) (k : sW X G Y Q ad M kc ks lv (pc + 3) (.int v :: rest)) : sW X G Y Q ad M kc ks lv pc rest := sW.lift (fun _ _ _ F _ k => lv_sipush F.1 F.2.1 hd hv k) k
theorem s_lconst {n : Fin 2} {v : Int64} (hd : decode (yC Y) pc = .ok (.lconst n, 1)) (hv : Int64.ofNat (n : Nat) = v) (k : sW X G Y Q ad M kc ks lv (pc + 1) (.long v :: rest)) : sW X G Y Q ad M kc ks lv pc rest := sW.lift (fun _ _ _ F _ k => lv_lconst F.1 F.2.1 hd hv k) k
theorem s_iload_n {k : Fin 4} {x : Int32} (hd : decode (yC Y) pc = .ok (.iload_n k, 1)) (hl : lv[(k : Nat)]? = some (some (.int x))) (k : sW X G Y Q ad M kc ks lv (pc + 1) (.int x :: rest)) : sW X G Y Q ad M kc ks lv pc rest := sW.lift (fun _ _ _ F hL k => lv_iload_n F.1 F.2.1 hd rfl (hL.2.2 _ _ hl) k) k
theorem s_iload {i : Nat} {x : Int32} (hd : decode (yC Y) pc = .ok (.iload i, 2)) (hl : lv[i]? = some (some (.int x))) (k : sW X G Y Q ad M kc ks lv (pc + 2) (.int x :: rest)) : sW X G Y Q ad M kc ks lv pc rest := sW.lift (fun _ _ _ F hL k => lv_iload F.1 F.2.1 hd (hL.2.2 _ _ hl) k) k
theorem s_lload_n {k : Fin 4} {x : Int64} (hd : decode (yC Y) pc = .ok (.lload_n k, 1)) (hl : lv[(k : Nat)]? = some (some (.long x))) (k : sW X G Y Q ad M kc ks lv (pc + 1) (.long x :: rest)) : sW X G Y Q ad M kc ks lv pc rest := sW.lift (fun _ _ _ F hL k => lv_lload_n F.1 F.2.1 hd rfl (hL.2.2 _ _ hl) k) k
theorem s_lload {i : Nat} {x : Int64} (hd : decode (yC Y) pc = .ok (.lload i, 2)) (hl : lv[i]? = some (some (.long x))) (k : sW X G Y Q ad M kc ks lv (pc + 2) (.long x :: rest)) : sW X G Y Q ad M kc ks lv pc rest := sW.lift (fun _ _ _ F hL k => lv_lload F.1 F.2.1 hd (hL.2.2 _ _ hl) k) k
theorem s_aload_n {k : Fin 4} {x : Nat} (hd : decode (yC Y) pc = .ok (.aload_n k, 1)) (hl : lv[(k : Nat)]? = some (some (.ref x))) (k : sW X G Y Q ad M kc ks lv (pc + 1) (.ref x :: rest)) : sW X G Y Q ad M kc ks lv pc rest := sW.lift (fun _ _ _ F hL k => lv_aload_n F.1 F.2.1 hd rfl (hL.2.2 _ _ hl) k) k
theorem s_aload {i : Nat} {x : Nat} (hd : decode (yC Y) pc = .ok (.aload i, 2)) (hl : lv[i]? = some (some (.ref x))) (k : sW X G Y Q ad M kc ks lv (pc + 2) (.ref x :: rest)) : sW X G Y Q ad M kc ks lv pc rest := sW.lift (fun _ _ _ F hL k => lv_aload F.1 F.2.1 hd (hL.2.2 _ _ hl) k) k
theorem s_aload_nN {k : Fin 4} (hd : decode (yC Y) pc = .ok (.aload_n k, 1)) (hl : lv[(k : Nat)]? = some (some .null)) (k : sW X G Y Q ad M kc ks lv (pc + 1) (.null :: rest)) : sW X G Y Q ad M kc ks lv pc rest := sW.lift (fun _ _ _ F hL k => lv_aload_nN F.1 F.2.1 hd rfl (hL.2.2 _ _ hl) k) k
theorem s_aloadN {i : Nat} (hd : decode (yC Y) pc = .ok (.aload i, 2)) (hl : lv[i]? = some (some .null)) (k : sW X G Y Q ad M kc ks lv (pc + 2) (.null :: rest)) : sW X G Y Q ad M kc ks lv pc rest := sW.lift (fun _ _ _ F hL k => lv_aloadN F.1 F.2.1 hd (hL.2.2 _ _ hl) k) k
theorem s_istore_n {k : Fin 4} {x : Int32} (hd : decode (yC Y) pc = .ok (.istore_n k, 1)) (hi : decide ((k : Nat) < lv.length) = true) (ho : okst lv (k : Nat) = true) (k9 : sW X G Y Q ad M kc ks (lv.set (k : Nat) (some (.int x))) (pc + 1) rest) : sW X G Y Q ad M kc ks lv pc (.int x :: rest) := by
  intro F H locs ls hM hS hL hn
  refine lv_istore_n F.1 F.2.1 hd rfl hL.has (of_decide_eq_true hi) rfl (fun ls' h' => ?_)
  exact k9 F H locs ls' hM hS (sL.st1 (of_decide_eq_true hi) ho h') (by rw [List.length_set]; exact hn)
theorem s_istore {i : Nat} {x : Int32} (hd : decode (yC Y) pc = .ok (.istore i, 2)) (hi : decide (i < lv.length) = true) (ho : okst lv i = true) (k9 : sW X G Y Q ad M kc ks (lv.set i (some (.int x))) (pc + 2) rest) : sW X G Y Q ad M kc ks lv pc (.int x :: rest) := by
  intro F H locs ls hM hS hL hn
  refine lv_istore F.1 F.2.1 hd hL.has (of_decide_eq_true hi) rfl (fun ls' h' => ?_)
  exact k9 F H locs ls' hM hS (sL.st1 (of_decide_eq_true hi) ho h') (by rw [List.length_set]; exact hn)
theorem s_astore_n {k : Fin 4} {x : Nat} (hd : decode (yC Y) pc = .ok (.astore_n k, 1)) (hi : decide ((k : Nat) < lv.length) = true) (ho : okst lv (k : Nat) = true) (k9 : sW X G Y Q ad M kc ks (lv.set (k : Nat) (some (.ref x))) (pc + 1) rest) : sW X G Y Q ad M kc ks lv pc (.ref x :: rest) := by
  intro F H locs ls hM hS hL hn
  refine lv_astore_n F.1 F.2.1 hd rfl hL.has (of_decide_eq_true hi) rfl (fun ls' h' => ?_)
  exact k9 F H locs ls' hM hS (sL.st1 (of_decide_eq_true hi) ho h') (by rw [List.length_set]; exact hn)
theorem s_astore {i : Nat} {x : Nat} (hd : decode (yC Y) pc = .ok (.astore i, 2)) (hi : decide (i < lv.length) = true) (ho : okst lv i = true) (k9 : sW X G Y Q ad M kc ks (lv.set i (some (.ref x))) (pc + 2) rest) : sW X G Y Q ad M kc ks lv pc (.ref x :: rest) := by
  intro F H locs ls hM hS hL hn
  refine lv_astore F.1 F.2.1 hd hL.has (of_decide_eq_true hi) rfl (fun ls' h' => ?_)
  exact k9 F H locs ls' hM hS (sL.st1 (of_decide_eq_true hi) ho h') (by rw [List.length_set]; exact hn)
theorem s_astore_nN {k : Fin 4} (hd : decode (yC Y) pc = .ok (.astore_n k, 1)) (hi : decide ((k : Nat) < lv.length) = true) (ho : okst lv (k : Nat) = true) (k9 : sW X G Y Q ad M kc ks (lv.set (k : Nat) (some (.null))) (pc + 1) rest) : sW X G Y Q ad M kc ks lv pc (.null :: rest) := by
  intro F H locs ls hM hS hL hn
  refine lv_astore_nN F.1 F.2.1 hd rfl hL.has (of_decide_eq_true hi) rfl (fun ls' h' => ?_)
  exact k9 F H locs ls' hM hS (sL.st1 (of_decide_eq_true hi) ho h') (by rw [List.length_set]; exact hn)
theorem s_astoreN {i : Nat} (hd : decode (yC Y) pc = .ok (.astore i, 2)) (hi : decide (i < lv.length) = true) (ho : okst lv i = true) (k9 : sW X G Y Q ad M kc ks (lv.set i (some (.null))) (pc + 2) rest) : sW X G Y Q ad M kc ks lv pc (.null :: rest) := by
  intro F H locs ls hM hS hL hn
  refine lv_astoreN F.1 F.2.1 hd hL.has (of_decide_eq_true hi) rfl (fun ls' h' => ?_)
  exact k9 F H locs ls' hM hS (sL.st1 (of_decide_eq_true hi) ho h') (by rw [List.length_set]; exact hn)
theorem s_lstore_n {k : Fin 4} {x : Int64} (hd : decode (yC Y) pc = .ok (.lstore_n k, 1)) (hi : decide ((k : Nat) + 1 < lv.length) = true) (ho : okst lv (k : Nat) = true) (k9 : sW X G Y Q ad M kc ks ((lv.set (k : Nat) (some (.long x))).set ((k : Nat) + 1) none) (pc + 1) rest) : sW X G Y Q ad M kc ks lv pc (.long x :: rest) := by
  intro F H locs ls hM hS hL hn
  refine lv_lstore_n F.1 F.2.1 hd rfl hL.has (of_decide_eq_true hi) rfl (fun ls' h' => ?_)
  exact k9 F H locs ls' hM hS (sL.st2 (of_decide_eq_true hi) ho h') (by rw [List.length_set, List.length_set]; exact hn)
theorem s_lstore {i : Nat} {x : Int64} (hd : decode (yC Y) pc = .ok (.lstore i, 2)) (hi : decide (i + 1 < lv.length) = true) (ho : okst lv i = true) (k9 : sW X G Y Q ad M kc ks ((lv.set i (some (.long x))).set (i + 1) none) (pc + 2) rest) : sW X G Y Q ad M kc ks lv pc (.long x :: rest) := by
  intro F H locs ls hM hS hL hn
  refine lv_lstore F.1 F.2.1 hd hL.has (of_decide_eq_true hi) rfl (fun ls' h' => ?_)
  exact k9 F H locs ls' hM hS (sL.st2 (of_decide_eq_true hi) ho h') (by rw [List.length_set, List.length_set]; exact hn)
theorem s_iinc {i : Nat} {n : Int} {x v : Int32} (hd : decode (yC Y) pc = .ok (.iinc i n, 3)) (hl : lv[i]? = some (some (.int x))) (hv : x + Int32.ofInt n = v) (ho : okst lv i = true) (k9 : sW X G Y Q ad M kc ks (lv.set i (some (.int v))) (pc + 3) rest) : sW X G Y Q ad M kc ks lv pc rest := by
  intro F H locs ls hM hS hL hn
  have hi : i < lv.length := (List.getElem?_eq_some_iff.mp hl).1
  obtain ⟨k, hk⟩ := List.getElem?_of_mem (sdn_mem.mpr hl)
  refine lv_iinc (k := k) F.1 F.2.1 hd hL.has hk hv hi rfl (fun ls' h' => ?_)
  exact k9 F H locs ls' hM hS (sL.st1 hi ho h') (by rw [List.length_set]; exact hn)
theorem s_iadd {x y : Int32} (hd : decode (yC Y) pc = .ok (.iadd, 1)) (k : sW X G Y Q ad M kc ks lv (pc + 1) (.int (x + y) :: rest)) : sW X G Y Q ad M kc ks lv pc (.int y :: .int x :: rest) := sW.lift (fun _ _ _ F _ k => lv_iadd F.1 F.2.1 hd k) k
theorem s_isub {x y : Int32} (hd : decode (yC Y) pc = .ok (.isub, 1)) (k : sW X G Y Q ad M kc ks lv (pc + 1) (.int (x - y) :: rest)) : sW X G Y Q ad M kc ks lv pc (.int y :: .int x :: rest) := sW.lift (fun _ _ _ F _ k => lv_isub F.1 F.2.1 hd k) k
theorem s_imul {x y : Int32} (hd : decode (yC Y) pc = .ok (.imul, 1)) (k : sW X G Y Q ad M kc ks lv (pc + 1) (.int (x * y) :: rest)) : sW X G Y Q ad M kc ks lv pc (.int y :: .int x :: rest) := sW.lift (fun _ _ _ F _ k => lv_imul F.1 F.2.1 hd k) k
theorem s_iand {x y : Int32} (hd : decode (yC Y) pc = .ok (.iand, 1)) (k : sW X G Y Q ad M kc ks lv (pc + 1) (.int (x &&& y) :: rest)) : sW X G Y Q ad M kc ks lv pc (.int y :: .int x :: rest) := sW.lift (fun _ _ _ F _ k => lv_iand F.1 F.2.1 hd k) k
theorem s_idiv {x y : Int32} (hd : decode (yC Y) pc = .ok (.idiv, 1)) (hne : ¬ y = 0) (k : sW X G Y Q ad M kc ks lv (pc + 1) (.int (x / y) :: rest)) : sW X G Y Q ad M kc ks lv pc (.int y :: .int x :: rest) := sW.lift (fun _ _ _ F _ k => lv_idiv F.1 F.2.1 hd hne k) k
theorem s_irem {x y : Int32} (hd : decode (yC Y) pc = .ok (.irem, 1)) (hne : ¬ y = 0) (k : sW X G Y Q ad M kc ks lv (pc + 1) (.int (x - x / y * y) :: rest)) : sW X G Y Q ad M kc ks lv pc (.int y :: .int x :: rest) := sW.lift (fun _ _ _ F _ k => lv_irem F.1 F.2.1 hd hne k) k
theorem s_ineg {x : Int32} (hd : decode (yC Y) pc = .ok (.ineg, 1)) (k : sW X G Y Q ad M kc ks lv (pc + 1) (.int (-x) :: rest)) : sW X G Y Q ad M kc ks lv pc (.int x :: rest) := sW.lift (fun _ _ _ F _ k => lv_ineg F.1 F.2.1 hd k) k
theorem s_ladd {x y : Int64} (hd : decode (yC Y) pc = .ok (.ladd, 1)) (k : sW X G Y Q ad M kc ks lv (pc + 1) (.long (x + y) :: rest)) : sW X G Y Q ad M kc ks lv pc (.long y :: .long x :: rest) := sW.lift (fun _ _ _ F _ k => lv_ladd F.1 F.2.1 hd k) k
theorem s_lsub {x y : Int64} (hd : decode (yC Y) pc = .ok (.lsub, 1)) (k : sW X G Y Q ad M kc ks lv (pc + 1) (.long (x - y) :: rest)) : sW X G Y Q ad M kc ks lv pc (.long y :: .long x :: rest) := sW.lift (fun _ _ _ F _ k => lv_lsub F.1 F.2.1 hd k) k
theorem s_lmul {x y : Int64} (hd : decode (yC Y) pc = .ok (.lmul, 1)) (k : sW X G Y Q ad M kc ks lv (pc + 1) (.long (x * y) :: rest)) : sW X G Y Q ad M kc ks lv pc (.long y :: .long x :: rest) := sW.lift (fun _ _ _ F _ k => lv_lmul F.1 F.2.1 hd k) k
theorem s_i2l {x : Int32} (hd : decode (yC Y) pc = .ok (.i2l, 1)) (k : sW X G Y Q ad M kc ks lv (pc + 1) (.long x.toInt64 :: rest)) : sW X G Y Q ad M kc ks lv pc (.int x :: rest) := sW.lift (fun _ _ _ F _ k => lv_i2l F.1 F.2.1 hd rfl k) k
theorem s_l2i {x : Int64} (hd : decode (yC Y) pc = .ok (.l2i, 1)) (k : sW X G Y Q ad M kc ks lv (pc + 1) (.int x.toInt32 :: rest)) : sW X G Y Q ad M kc ks lv pc (.long x :: rest) := sW.lift (fun _ _ _ F _ k => lv_l2i F.1 F.2.1 hd rfl k) k
theorem s_dup {va : Value} (hd : decode (yC Y) pc = .ok (.dup, 1)) (h1 : va.category = 1) (k : sW X G Y Q ad M kc ks lv (pc + 1) (va :: va :: rest)) : sW X G Y Q ad M kc ks lv pc (va :: rest) := sW.lift (fun _ _ _ F _ k => lv_dup F.1 F.2.1 hd h1 k) k
theorem s_pop {va : Value} (hd : decode (yC Y) pc = .ok (.pop, 1)) (h1 : va.category = 1) (k : sW X G Y Q ad M kc ks lv (pc + 1) rest) : sW X G Y Q ad M kc ks lv pc (va :: rest) := sW.lift (fun _ _ _ F _ k => lv_pop F.1 F.2.1 hd h1 k) k
theorem s_dup_x1 {va vb : Value} (hd : decode (yC Y) pc = .ok (.dup_x1, 1)) (h1 : va.category = 1) (h2 : vb.category = 1) (k : sW X G Y Q ad M kc ks lv (pc + 1) (va :: vb :: va :: rest)) : sW X G Y Q ad M kc ks lv pc (va :: vb :: rest) := sW.lift (fun _ _ _ F _ k => lv_dup_x1 F.1 F.2.1 hd h1 h2 k) k
theorem s_dup2_11 {va vb : Value} (hd : decode (yC Y) pc = .ok (.dup2, 1)) (h1 : va.category = 1) (h2 : vb.category = 1) (k : sW X G Y Q ad M kc ks lv (pc + 1) (va :: vb :: va :: vb :: rest)) : sW X G Y Q ad M kc ks lv pc (va :: vb :: rest) := sW.lift (fun _ _ _ F _ k => lv_dup2_11 F.1 F.2.1 hd h1 h2 k) k
theorem s_dup2_2 {va : Value} (hd : decode (yC Y) pc = .ok (.dup2, 1)) (h1 : va.category = 2) (k : sW X G Y Q ad M kc ks lv (pc + 1) (va :: va :: rest)) : sW X G Y Q ad M kc ks lv pc (va :: rest) := sW.lift (fun _ _ _ F _ k => lv_dup2_2 F.1 F.2.1 hd h1 k) k
theorem s_lcmp {x y : Int64} (hd : decode (yC Y) pc = .ok (.lcmp, 1)) (k : sW X G Y Q ad M kc ks lv (pc + 1) (.int (lg_cmp x y) :: rest)) : sW X G Y Q ad M kc ks lv pc (.long y :: .long x :: rest) := sW.lift (fun _ _ _ F _ k => W.lcmp F.1 F.2.1 hd k) k
theorem s_aconst_null (hd : decode (yC Y) pc = .ok (.aconst_null, 1)) (k : sW X G Y Q ad M kc ks lv (pc + 1) (.null :: rest)) : sW X G Y Q ad M kc ks lv pc rest := sW.lift (fun _ _ _ F _ k => lv_null F.1 F.2.1 hd k) k
theorem s_if_eq {x : Int32} {off : Int} (tgt : Nat) (hd : decode (yC Y) pc = .ok (.ifCond .eq off, 3)) (ht : (pc : Int) + off = (tgt : Int)) (kt : x = 0 → sW X G Y Q ad M kc ks lv tgt rest) (kf : ¬ x = 0 → sW X G Y Q ad M kc ks lv (pc + 3) rest) : sW X G Y Q ad M kc ks lv pc (.int x :: rest) := fun F H locs ls a b c d => lv_if_eq F.1 F.2.1 hd ht (fun h => kt h F H locs ls a b c d) (fun h => kf h F H locs ls a b c d)
theorem s_if_ne {x : Int32} {off : Int} (tgt : Nat) (hd : decode (yC Y) pc = .ok (.ifCond .ne off, 3)) (ht : (pc : Int) + off = (tgt : Int)) (kt : ¬ x = 0 → sW X G Y Q ad M kc ks lv tgt rest) (kf : x = 0 → sW X G Y Q ad M kc ks lv (pc + 3) rest) : sW X G Y Q ad M kc ks lv pc (.int x :: rest) := fun F H locs ls a b c d => lv_if_ne F.1 F.2.1 hd ht (fun h => kt h F H locs ls a b c d) (fun h => kf h F H locs ls a b c d)
theorem s_if_lt {x : Int32} {off : Int} (tgt : Nat) (hd : decode (yC Y) pc = .ok (.ifCond .lt off, 3)) (ht : (pc : Int) + off = (tgt : Int)) (kt : x < 0 → sW X G Y Q ad M kc ks lv tgt rest) (kf : ¬ x < 0 → sW X G Y Q ad M kc ks lv (pc + 3) rest) : sW X G Y Q ad M kc ks lv pc (.int x :: rest) := fun F H locs ls a b c d => lv_if_lt F.1 F.2.1 hd ht (fun h => kt h F H locs ls a b c d) (fun h => kf h F H locs ls a b c d)
theorem s_if_ge {x : Int32} {off : Int} (tgt : Nat) (hd : decode (yC Y) pc = .ok (.ifCond .ge off, 3)) (ht : (pc : Int) + off = (tgt : Int)) (kt : 0 ≤ x → sW X G Y Q ad M kc ks lv tgt rest) (kf : ¬ 0 ≤ x → sW X G Y Q ad M kc ks lv (pc + 3) rest) : sW X G Y Q ad M kc ks lv pc (.int x :: rest) := fun F H locs ls a b c d => lv_if_ge F.1 F.2.1 hd ht (fun h => kt h F H locs ls a b c d) (fun h => kf h F H locs ls a b c d)
theorem s_if_gt {x : Int32} {off : Int} (tgt : Nat) (hd : decode (yC Y) pc = .ok (.ifCond .gt off, 3)) (ht : (pc : Int) + off = (tgt : Int)) (kt : 0 < x → sW X G Y Q ad M kc ks lv tgt rest) (kf : ¬ 0 < x → sW X G Y Q ad M kc ks lv (pc + 3) rest) : sW X G Y Q ad M kc ks lv pc (.int x :: rest) := fun F H locs ls a b c d => lv_if_gt F.1 F.2.1 hd ht (fun h => kt h F H locs ls a b c d) (fun h => kf h F H locs ls a b c d)
theorem s_if_le {x : Int32} {off : Int} (tgt : Nat) (hd : decode (yC Y) pc = .ok (.ifCond .le off, 3)) (ht : (pc : Int) + off = (tgt : Int)) (kt : x ≤ 0 → sW X G Y Q ad M kc ks lv tgt rest) (kf : ¬ x ≤ 0 → sW X G Y Q ad M kc ks lv (pc + 3) rest) : sW X G Y Q ad M kc ks lv pc (.int x :: rest) := fun F H locs ls a b c d => lv_if_le F.1 F.2.1 hd ht (fun h => kt h F H locs ls a b c d) (fun h => kf h F H locs ls a b c d)
theorem s_icmp_eq {x y : Int32} {off : Int} (tgt : Nat) (hd : decode (yC Y) pc = .ok (.if_icmp .eq off, 3)) (ht : (pc : Int) + off = (tgt : Int)) (kt : x = y → sW X G Y Q ad M kc ks lv tgt rest) (kf : ¬ x = y → sW X G Y Q ad M kc ks lv (pc + 3) rest) : sW X G Y Q ad M kc ks lv pc (.int y :: .int x :: rest) := fun F H locs ls a b c d => lv_icmp_eq F.1 F.2.1 hd ht (fun h => kt h F H locs ls a b c d) (fun h => kf h F H locs ls a b c d)
theorem s_icmp_ne {x y : Int32} {off : Int} (tgt : Nat) (hd : decode (yC Y) pc = .ok (.if_icmp .ne off, 3)) (ht : (pc : Int) + off = (tgt : Int)) (kt : ¬ x = y → sW X G Y Q ad M kc ks lv tgt rest) (kf : x = y → sW X G Y Q ad M kc ks lv (pc + 3) rest) : sW X G Y Q ad M kc ks lv pc (.int y :: .int x :: rest) := fun F H locs ls a b c d => lv_icmp_ne F.1 F.2.1 hd ht (fun h => kt h F H locs ls a b c d) (fun h => kf h F H locs ls a b c d)
theorem s_icmp_lt {x y : Int32} {off : Int} (tgt : Nat) (hd : decode (yC Y) pc = .ok (.if_icmp .lt off, 3)) (ht : (pc : Int) + off = (tgt : Int)) (kt : x < y → sW X G Y Q ad M kc ks lv tgt rest) (kf : ¬ x < y → sW X G Y Q ad M kc ks lv (pc + 3) rest) : sW X G Y Q ad M kc ks lv pc (.int y :: .int x :: rest) := fun F H locs ls a b c d => lv_icmp_lt F.1 F.2.1 hd ht (fun h => kt h F H locs ls a b c d) (fun h => kf h F H locs ls a b c d)
theorem s_icmp_ge {x y : Int32} {off : Int} (tgt : Nat) (hd : decode (yC Y) pc = .ok (.if_icmp .ge off, 3)) (ht : (pc : Int) + off = (tgt : Int)) (kt : y ≤ x → sW X G Y Q ad M kc ks lv tgt rest) (kf : ¬ y ≤ x → sW X G Y Q ad M kc ks lv (pc + 3) rest) : sW X G Y Q ad M kc ks lv pc (.int y :: .int x :: rest) := fun F H locs ls a b c d => lv_icmp_ge F.1 F.2.1 hd ht (fun h => kt h F H locs ls a b c d) (fun h => kf h F H locs ls a b c d)
theorem s_icmp_gt {x y : Int32} {off : Int} (tgt : Nat) (hd : decode (yC Y) pc = .ok (.if_icmp .gt off, 3)) (ht : (pc : Int) + off = (tgt : Int)) (kt : y < x → sW X G Y Q ad M kc ks lv tgt rest) (kf : ¬ y < x → sW X G Y Q ad M kc ks lv (pc + 3) rest) : sW X G Y Q ad M kc ks lv pc (.int y :: .int x :: rest) := fun F H locs ls a b c d => lv_icmp_gt F.1 F.2.1 hd ht (fun h => kt h F H locs ls a b c d) (fun h => kf h F H locs ls a b c d)
theorem s_icmp_le {x y : Int32} {off : Int} (tgt : Nat) (hd : decode (yC Y) pc = .ok (.if_icmp .le off, 3)) (ht : (pc : Int) + off = (tgt : Int)) (kt : x ≤ y → sW X G Y Q ad M kc ks lv tgt rest) (kf : ¬ x ≤ y → sW X G Y Q ad M kc ks lv (pc + 3) rest) : sW X G Y Q ad M kc ks lv pc (.int y :: .int x :: rest) := fun F H locs ls a b c d => lv_icmp_le F.1 F.2.1 hd ht (fun h => kt h F H locs ls a b c d) (fun h => kf h F H locs ls a b c d)
theorem s_goto {off : Int} (tgt : Nat) (hd : decode (yC Y) pc = .ok (.goto off, 3)) (ht : (pc : Int) + off = (tgt : Int)) (k : sW X G Y Q ad M kc ks lv tgt rest) : sW X G Y Q ad M kc ks lv pc rest := sW.lift (fun _ _ _ F _ k => lv_goto F.1 F.2.1 hd ht k) k
theorem s_ifnonnull {x : Nat} {off : Int} (tgt : Nat) (hd : decode (yC Y) pc = .ok (.ifnonnull off, 3)) (ht : (pc : Int) + off = (tgt : Int)) (k : sW X G Y Q ad M kc ks lv tgt rest) : sW X G Y Q ad M kc ks lv pc (.ref x :: rest) := sW.lift (fun _ _ _ F _ k => lv_ifnonnull F.1 F.2.1 hd ht k) k
theorem s_ifnull {x : Nat} {off : Int} (hd : decode (yC Y) pc = .ok (.ifnull off, 3)) (k : sW X G Y Q ad M kc ks lv (pc + 3) rest) : sW X G Y Q ad M kc ks lv pc (.ref x :: rest) := sW.lift (fun _ _ _ F _ k => lv_ifnull F.1 F.2.1 hd k) k
theorem s_ifnullN {off : Int} (tgt : Nat) (hd : decode (yC Y) pc = .ok (.ifnull off, 3)) (ht : (pc : Int) + off = (tgt : Int)) (k : sW X G Y Q ad M kc ks lv tgt rest) : sW X G Y Q ad M kc ks lv pc (.null :: rest) := sW.lift (fun _ _ _ F _ k => lv_ifnullN F.1 F.2.1 hd ht k) k
theorem s_ifnonnullN {off : Int} (hd : decode (yC Y) pc = .ok (.ifnonnull off, 3)) (k : sW X G Y Q ad M kc ks lv (pc + 3) rest) : sW X G Y Q ad M kc ks lv pc (.null :: rest) := sW.lift (fun _ _ _ F _ k => lv_ifnonnullN F.1 F.2.1 hd k) k
theorem s_ldc {index : Nat} {v : Int32} (hd : decode (yC Y) pc = .ok (.ldc index, 2)) (hw : Cond.constant (yO Y) index v ∈ yT Y) (k : sW X G Y Q ad M kc ks lv (pc + 2) (.int v :: rest)) : sW X G Y Q ad M kc ks lv pc rest := sW.lift (fun _ _ _ F _ k => lv_ldc F.1 F.2.1 F.2.2.2.1 (F.2.2.2.2.1 _ hw) hd k) k
theorem s_ldc2 {index : Nat} {v : Int64} (hd : decode (yC Y) pc = .ok (.ldc2_w index, 3)) (hw : Cond.constantLong (yO Y) index v ∈ yT Y) (k : sW X G Y Q ad M kc ks lv (pc + 3) (.long v :: rest)) : sW X G Y Q ad M kc ks lv pc rest := sW.lift (fun _ _ _ F _ k => lv_ldc2 F.1 F.2.1 F.2.2.2.1 (F.2.2.2.2.1 _ hw) hd k) k
theorem s_lv {lv' : List (Option Value)} {st : List Value} (h : lv = lv') (k : sW X G Y Q ad M kc ks lv' pc st) : sW X G Y Q ad M kc ks lv pc st := h ▸ k
theorem s_M {M' : sM} {st : List Value} (h : M = M') (k : sW X G Y Q ad M' kc ks lv pc st) : sW X G Y Q ad M kc ks lv pc st := h ▸ k
theorem s_topi {x : Int32} (k : ∀ y : Int32, y = x → sW X G Y Q ad M kc ks lv pc (.int y :: rest)) : sW X G Y Q ad M kc ks lv pc (.int x :: rest) := k x rfl
theorem s_topl {x : Int64} (k : ∀ y : Int64, y = x → sW X G Y Q ad M kc ks lv pc (.long y :: rest)) : sW X G Y Q ad M kc ks lv pc (.long x :: rest) := k x rfl
theorem s_eqi {x y : Int32} (h : x = y) (k : sW X G Y Q ad M kc ks lv pc (.int y :: rest)) : sW X G Y Q ad M kc ks lv pc (.int x :: rest) := h ▸ k
theorem s_eql {x y : Int64} (h : x = y) (k : sW X G Y Q ad M kc ks lv pc (.long y :: rest)) : sW X G Y Q ad M kc ks lv pc (.long x :: rest) := h ▸ k
theorem s_lookup {dflt : Int} {ps : Array (Int × Int)} {len : Nat} {x : Int32} {off : Int} (tgt : Nat) (hd : decode (yC Y) pc = .ok (.lookupswitch dflt ps, len)) (hp : (ps.toList.zip (ps.toList.drop 1)).all (fun (a, next) => a.1 < next.1) = true) (ho : Op.lookupswitch.offset ps.toList dflt x.toInt = off) (ht : (pc : Int) + off = (tgt : Int)) (k : sW X G Y Q ad M kc ks lv tgt rest) : sW X G Y Q ad M kc ks lv pc (.int x :: rest) := sW.lift (fun _ _ _ F _ k => lv_lookup F.1 F.2.1 hd hp ho ht k) k
theorem s_tableOut {dflt lo hi : Int} {offs : Array Int} {len : Nat} {x : Int32} (tgt : Nat) (hd : decode (yC Y) pc = .ok (.tableswitch dflt lo hi offs, len)) (h : x.toInt < lo ∨ hi < x.toInt) (ht : (pc : Int) + dflt = (tgt : Int)) (k : sW X G Y Q ad M kc ks lv tgt rest) : sW X G Y Q ad M kc ks lv pc (.int x :: rest) := sW.lift (fun _ _ _ F _ k => lv_tableOut F.1 F.2.1 hd h ht k) k
theorem s_tableIn {dflt lo hi : Int} {offs : Array Int} {len : Nat} {x : Int32} {off : Int} (tgt : Nat) (hd : decode (yC Y) pc = .ok (.tableswitch dflt lo hi offs, len)) (h1 : ¬ x.toInt < lo) (h2 : ¬ hi < x.toInt) (ho : offs[(x.toInt - lo).toNat]? = some off) (ht : (pc : Int) + off = (tgt : Int)) (k : sW X G Y Q ad M kc ks lv tgt rest) : sW X G Y Q ad M kc ks lv pc (.int x :: rest) := sW.lift (fun _ _ _ F _ k => lv_tableIn F.1 F.2.1 hd h1 h2 ho ht k) k
theorem s_widen {st : List Value} {kc' ks' : Nat} (h1 : kc ≤ kc') (h2 : ks ≤ ks') (k : sW X G Y Q ad M kc' ks' lv pc st) : sW X G Y Q ad M kc ks lv pc st := fun F H locs ls a b c d => W.widen h1 h2 (k F H locs ls a b c d)
variable {kd ix : Nat}
theorem s_get {C : String} {T : u_T} {N ci index : Nat} {fs : List Value} (he : M kd ix = some (.inr (ci, fs))) (hc : vwCl[ci]? = some (C, T, N)) (hin : ∀ w ∈ u_ws C T N, w ∈ yT Y) (k9 : Nat) (hk : k9 < N) (hw : Cond.fieldLink (yO Y) index C (T k9).2.1 (T k9).2.2.1 ∈ yT Y) (hT : (T k9).1 = C) {v : Value} (hv : fs[k9]? = some v) (hd : decode (yC Y) pc = .ok (.getfield index, 3)) (k : sW X G Y Q ad M kc ks lv (pc + 3) (v :: rest)) : sW X G Y Q ad M kc ks lv pc (.ref (ad kd ix) :: rest) := by
  intro F H locs ls hM hS hL hn
  have hP : va_P (gD G) vwCl [(ad kd ix, .inr (ci, fs))] H := fun j q hq => by
    match j, hq with
    | 0, hq => cases hq; exact (hM.1 kd ix _ he).2
    | j + 1, hq => simp at hq
  exact va_get F.1 F.2.1 F.2.2.2.2.1 hin F.2.2.2.1 F.2.2.2.2.2.2.1.1.1 hP 0 rfl hc k9 hk (F.2.2.2.2.1 _ hw) (fun x h => by rw [hT] at h; exact h) hv hd (k F H locs ls hM hS hL hn)
theorem s_getN {C host : String} {T : u_T} {N ci index : Nat} {fs : List Value} (he : M kd ix = some (.inr (ci, fs))) (hc : vwCl[ci]? = some (C, T, N)) (hin : ∀ w ∈ u_ws C T N, w ∈ yT Y) (k9 : Nat) (hk : k9 < N) (hw : (yO Y, index, C, (T k9).2.1, (T k9).2.2.1, host) ∈ sNF) (hT : (T k9).1 = C) {v : Value} (hv : fs[k9]? = some v) (hd : decode (yC Y) pc = .ok (.getfield index, 3)) (k : sW X G Y Q ad M kc ks lv (pc + 3) (v :: rest)) : sW X G Y Q ad M kc ks lv pc (.ref (ad kd ix) :: rest) := by
  intro F H locs ls hM hS hL hn
  have hP : va_P (gD G) vwCl [(ad kd ix, .inr (ci, fs))] H := fun j q hq => by
    match j, hq with
    | 0, hq => cases hq; exact (hM.1 kd ix _ he).2
    | j + 1, hq => simp at hq
  exact va_getN F.1 F.2.1 F.2.2.2.2.1 hin F.2.2.2.1 F.2.2.2.2.2.2.1.1.1 hP 0 rfl hc k9 hk (va_Nw.use rfl (F.2.2.2.2.2.2.1.1.2.1 _ hw)) (fun x h => by rw [hT] at h; exact h) hv hd (k F H locs ls hM hS hL hn)
theorem s_put {C : String} {T : u_T} {N ci index : Nat} {fs : List Value} (ty0 : Nat → FieldType) (hty : ∀ k, k < N → parseFieldDescriptor (T k).2.2.1 = some (ty0 k)) (hnm : ∀ a, a < N → ∀ b, b < N → a ≠ b → (T a).2.1 ≠ (T b).2.1) (he : M kd ix = some (.inr (ci, fs))) (hc : vwCl[ci]? = some (C, T, N)) (hin : ∀ w ∈ u_ws C T N, w ∈ yT Y) (k9 : Nat) (hk : k9 < N) (hw : Cond.fieldLink (yO Y) index C (T k9).2.1 (T k9).2.2.1 ∈ yT Y) (hT : (T k9).1 = C) (hfin : (T k9).2.2.2 = false) {ty : FieldType} {v : Value} (hdt : parseFieldDescriptor (T k9).2.2.1 = some ty) (hn9 : narrow ty v = v) (hfit : fits ty v = true) (hl9 : k9 < fs.length) (hd : decode (yC Y) pc = .ok (.putfield index, 3)) (k : sW X G Y Q ad (sset M kd ix (.inr (ci, fs.set k9 v))) kc ks lv (pc + 3) rest) : sW X G Y Q ad M kc ks lv pc (v :: .ref (ad kd ix) :: rest) := by
  intro F H locs ls hM hS hL hn
  have hap := va_apart (args := mG X) (own := yO Y) F.2.2.2.2.1 hin ty0 hty hnm F.2.2.2.2.2.2.1.1.1 hc
  obtain ⟨r, h1, cell, q1, q2, q3, q4⟩ := (hM.1 kd ix _ he).2
  have hr : r = (C, T, N) := Option.some.inj (h1.symm.trans hc)
  subst hr
  obtain ⟨hSl, hfc, kC, hkC, hkind⟩ := F.2.2.2.2.2.2.1.1.1.1 ci _ hc
  obtain ⟨cf, kf, fi, f, hi, hsl⟩ := hSl k9 hk
  have hlay := F.2.2.2.2.1 _ (hin _ (u_in_lay hk))
  unfold u_lay at hlay
  rw [if_neg (by rw [hfin]; decide)] at hlay
  have hst := (u_facts hfc hkC (u_lays F.2.2.2.2.1 hin hk) hi).1
  have h6 := u_store hfc hkC hkind hlay hi hdt hn9 hfit
  refine W.putK F.1 F.2.1 (f := f) ⟨F.2.2.2.1, F.2.2.2.2.1 _ hw, ⟨_, _, _, by rw [hT] at hi; exact hi⟩, hst⟩ (by rw [q2]; exact h6) q1 q3 (by rw [hsl]; exact k2_hasslot (q4 k9 hk)) rfl rfl hd fun H' e1 e2 e3 => ?_
  rw [hsl] at e1 ⊢
  exact k F H' _ ls (hM.set he ⟨_, hc, t_OB.to (V := updV (vp_V fs) k9 v) ⟨_, e1, q2, q3, t_set q4 hap hk v⟩ (fun j _ => vp_updV_set hl9 v j)⟩ e3) (hS.put e2 e3 (hM.1 kd ix _ he).1) hL hn
theorem s_putN {C host : String} {T : u_T} {N ci index : Nat} {fs : List Value} (ty0 : Nat → FieldType) (hty : ∀ k, k < N → parseFieldDescriptor (T k).2.2.1 = some (ty0 k)) (hnm : ∀ a, a < N → ∀ b, b < N → a ≠ b → (T a).2.1 ≠ (T b).2.1) (he : M kd ix = some (.inr (ci, fs))) (hc : vwCl[ci]? = some (C, T, N)) (hin : ∀ w ∈ u_ws C T N, w ∈ yT Y) (k9 : Nat) (hk : k9 < N) (hw : (yO Y, index, C, (T k9).2.1, (T k9).2.2.1, host) ∈ sNF) (hT : (T k9).1 = C) (hfin : (T k9).2.2.2 = false) {ty : FieldType} {v : Value} (hdt : parseFieldDescriptor (T k9).2.2.1 = some ty) (hn9 : narrow ty v = v) (hfit : fits ty v = true) (hl9 : k9 < fs.length) (hd : decode (yC Y) pc = .ok (.putfield index, 3)) (k : sW X G Y Q ad (sset M kd ix (.inr (ci, fs.set k9 v))) kc ks lv (pc + 3) rest) : sW X G Y Q ad M kc ks lv pc (v :: .ref (ad kd ix) :: rest) := by
  intro F H locs ls hM hS hL hn
  have hap := va_apart (args := mG X) (own := yO Y) F.2.2.2.2.1 hin ty0 hty hnm F.2.2.2.2.2.2.1.1.1 hc
  obtain ⟨r, h1, cell, q1, q2, q3, q4⟩ := (hM.1 kd ix _ he).2
  have hr : r = (C, T, N) := Option.some.inj (h1.symm.trans hc)
  subst hr
  obtain ⟨hSl, hfc, kC, hkC, hkind⟩ := F.2.2.2.2.2.2.1.1.1.1 ci _ hc
  obtain ⟨cf, kf, fi, f, hi, hsl⟩ := hSl k9 hk
  have hlay := F.2.2.2.2.1 _ (hin _ (u_in_lay hk))
  unfold u_lay at hlay
  rw [if_neg (by rw [hfin]; decide)] at hlay
  have hst := (u_facts hfc hkC (u_lays F.2.2.2.2.1 hin hk) hi).1
  have h6 := u_store hfc hkC hkind hlay hi hdt hn9 hfit
  refine va_WputK F.1 F.2.1 (f := f) F.2.2.2.1 (va_Nw.use rfl (F.2.2.2.2.2.2.1.1.2.1 _ hw)) (by rw [hT] at hi; exact hi) hst (by rw [q2]; exact h6) q1 q3 (by rw [hsl]; exact k2_hasslot (q4 k9 hk)) rfl rfl hd fun H' e1 e2 e3 => ?_
  rw [hsl] at e1 ⊢
  exact k F H' _ ls (hM.set he ⟨_, hc, t_OB.to (V := updV (vp_V fs) k9 v) ⟨_, e1, q2, q3, t_set q4 hap hk v⟩ (fun j _ => vp_updV_set hl9 v j)⟩ e3) (hS.put e2 e3 (hM.1 kd ix _ he).1) hL hn
theorem s_putF {C : String} {T : u_T} {N ci index : Nat} {fs : List Value} (ty0 : Nat → FieldType) (hty : ∀ k, k < N → parseFieldDescriptor (T k).2.2.1 = some (ty0 k)) (hnm : ∀ a, a < N → ∀ b, b < N → a ≠ b → (T a).2.1 ≠ (T b).2.1) (he : M kd ix = some (.inr (ci, fs))) (hc : vwCl[ci]? = some (C, T, N)) (hin : ∀ w ∈ u_ws C T N, w ∈ yT Y) (k9 : Nat) (hk : k9 < N) (hw : Cond.fieldLink (yO Y) index C (T k9).2.1 (T k9).2.2.1 ∈ yT Y) (hT : (T k9).1 = C) (hfin : (T k9).2.2.2 = true) (hini : yM Y = "<init>") (hdecl : C = yO Y) {ty : FieldType} {v : Value} (hdt : parseFieldDescriptor (T k9).2.2.1 = some ty) (hn9 : narrow ty v = v) (hfit : fits ty v = true) (hl9 : k9 < fs.length) (hd : decode (yC Y) pc = .ok (.putfield index, 3)) (k : sW X G Y Q ad (sset M kd ix (.inr (ci, fs.set k9 v))) kc ks lv (pc + 3) rest) : sW X G Y Q ad M kc ks lv pc (v :: .ref (ad kd ix) :: rest) := by
  intro F H locs ls hM hS hL hn
  have hap := va_apart (args := mG X) (own := yO Y) F.2.2.2.2.1 hin ty0 hty hnm F.2.2.2.2.2.2.1.1.1 hc
  obtain ⟨r, h1, cell, q1, q2, q3, q4⟩ := (hM.1 kd ix _ he).2
  have hr : r = (C, T, N) := Option.some.inj (h1.symm.trans hc)
  subst hr
  obtain ⟨hSl, hfc, kC, hkC, hkind⟩ := F.2.2.2.2.2.2.1.1.1.1 ci _ hc
  obtain ⟨cf, kf, fi, f, hi, hsl⟩ := hSl k9 hk
  have hlay := F.2.2.2.2.1 _ (hin _ (u_in_lay hk))
  unfold u_lay at hlay
  rw [if_pos hfin] at hlay
  have hst := (u_facts hfc hkC (u_lays F.2.2.2.2.1 hin hk) hi).1
  have hcf : (mM X).cls = cf := by
    obtain ⟨_, _, c', _, _, _, -, -, hf', -, -, -, hown2, -⟩ := Cond.laysFinal_spec hlay
    have e1 : c' = cf := by have := hi.symm.trans hf'; simp at this; exact this.1.symm
    rw [hT, hdecl] at hown2
    rw [← e1]; exact Option.some.inj (F.2.2.2.1.symm.trans hown2)
  have h6 := u_fits hfc hkC hkind (Or.inr hlay) hi hdt hn9 hfit
  refine W.putFinK F.1 F.2.1 F.2.2.2.1 (F.2.2.2.2.1 _ hw) (by rw [hT] at hi; exact hi) hst hcf (F.2.2.2.2.2.2.2.2.2.2.1.trans hini) (by rw [q2]; exact h6) q1 q3 (by rw [hsl]; exact k2_hasslot (q4 k9 hk)) rfl rfl hd fun H' e1 e2 e3 => ?_
  rw [hsl] at e1 ⊢
  exact k F H' _ ls (hM.set he ⟨_, hc, t_OB.to (V := updV (vp_V fs) k9 v) ⟨_, e1, q2, q3, t_set q4 hap hk v⟩ (fun j _ => vp_updV_set hl9 v j)⟩ e3) (hS.put e2 e3 (hM.1 kd ix _ he).1) hL hn
theorem s_iald {n : Nat} {f : Nat → Int32} {i : Int32} {j : Nat} (he : M kd ix = some (.inl (gI G, n, .inl f))) (hi : i = nI j) (hj : j < n) (hn31 : n < 2 ^ 31) (hd : decode (yC Y) pc = .ok (.iaload, 1)) (k : sW X G Y Q ad M kc ks lv (pc + 1) (.int (f j) :: rest)) : sW X G Y Q ad M kc ks lv pc (.int i :: .ref (ad kd ix) :: rest) := by
  intro F H locs ls hM hS hL hn
  subst hi
  have hP : va_P (gD G) vwCl [(ad kd ix, .inl (gI G, n, .inl f))] H := fun j q hq => by
    match j, hq with
    | 0, hq => cases hq; exact (hM.1 kd ix _ he).2
    | j + 1, hq => simp at hq
  refine va_iald F.1 F.2.1 F.2.2.2.2.2.2.1.1.1 hP 0 0 rfl rfl (vp_in_nI hj hn31) hd ?_
  rw [nI_clamp (Nat.lt_trans hj hn31)]
  exact k F H locs ls hM hS hL hn
theorem s_lald {n : Nat} {f : Nat → Int64} {i : Int32} {j : Nat} (he : M kd ix = some (.inl (gJ G, n, .inr (.inl f)))) (hi : i = nI j) (hj : j < n) (hn31 : n < 2 ^ 31) (hd : decode (yC Y) pc = .ok (.laload, 1)) (k : sW X G Y Q ad M kc ks lv (pc + 1) (.long (f j) :: rest)) : sW X G Y Q ad M kc ks lv pc (.int i :: .ref (ad kd ix) :: rest) := by
  intro F H locs ls hM hS hL hn
  subst hi
  have hP : va_P (gD G) vwCl [(ad kd ix, .inl (gJ G, n, .inr (.inl f)))] H := fun j q hq => by
    match j, hq with
    | 0, hq => cases hq; exact (hM.1 kd ix _ he).2
    | j + 1, hq => simp at hq
  refine va_lald F.1 F.2.1 F.2.2.2.2.2.2.1.1.1 hP 0 1 rfl rfl (vp_in_nI hj hn31) hd ?_
  rw [nI_clamp (Nat.lt_trans hj hn31)]
  exact k F H locs ls hM hS hL hn
theorem s_zald {n : Nat} {f : Nat → Int32} {i : Int32} {j : Nat} (he : M kd ix = some (.inl (gZ G, n, .inl f))) (hi : i = nI j) (hj : j < n) (hn31 : n < 2 ^ 31) (hd : decode (yC Y) pc = .ok (.baload, 1)) (k : sW X G Y Q ad M kc ks lv (pc + 1) (.int (f j) :: rest)) : sW X G Y Q ad M kc ks lv pc (.int i :: .ref (ad kd ix) :: rest) := by
  intro F H locs ls hM hS hL hn
  subst hi
  have hP : va_P (gD G) vwCl [(ad kd ix, .inl (gZ G, n, .inl f))] H := fun j q hq => by
    match j, hq with
    | 0, hq => cases hq; exact (hM.1 kd ix _ he).2
    | j + 1, hq => simp at hq
  refine va_zald F.1 F.2.1 F.2.2.2.2.2.2.1.1.1 hP 0 2 rfl rfl (vp_in_nI hj hn31) hd ?_
  rw [nI_clamp (Nat.lt_trans hj hn31)]
  exact k F H locs ls hM hS hL hn
theorem s_iast {n : Nat} {f : Nat → Int32} {i : Int32} {j : Nat} {x : Int32} (he : M kd ix = some (.inl (gI G, n, .inl f))) (hi : i = nI j) (hj : j < n) (hn31 : n < 2 ^ 31) (hd : decode (yC Y) pc = .ok (.iastore, 1)) (k : sW X G Y Q ad (sset M kd ix (.inl (gI G, n, .inl (upd f j x)))) kc ks lv (pc + 1) rest) : sW X G Y Q ad M kc ks lv pc (.int x :: .int i :: .ref (ad kd ix) :: rest) := by
  intro F H locs ls hM hS hL hn
  subst hi
  refine W.iast F.1 F.2.1 (hM.1 kd ix _ he).2 ((F.2.2.2.2.2.2.1.1.1.2 0 _ rfl).1 n (fun j => .int (f j))) (fun q => by cases q) (by show ¬ (nI j < 0 ∨ (arrV _ _ _).slots.size ≤ _); rw [arrV_size]; exact vp_in_nI hj hn31) rfl rfl hd fun H1 e z oq => ?_
  refine k F H1 _ ls (hM.set he ?_ oq) (hS.put z oq (hM.1 kd ix _ he).1) hL hn
  show H1[ad kd ix]? = some (vp_cell _ _)
  rw [e, nI_clamp (Nat.lt_trans hj hn31)]
  rw [vp_cell_i, vp_cell_i, arrV_store]
  congr 2
  funext q
  by_cases hq : q = j
  · subst hq
    simp [updV, upd, vp_updL, vp_nar]
    try rfl
  · simp [updV, upd, vp_updL, hq]
theorem s_last {n : Nat} {f : Nat → Int64} {i : Int32} {j : Nat} {x : Int64} (he : M kd ix = some (.inl (gJ G, n, .inr (.inl f)))) (hi : i = nI j) (hj : j < n) (hn31 : n < 2 ^ 31) (hd : decode (yC Y) pc = .ok (.lastore, 1)) (k : sW X G Y Q ad (sset M kd ix (.inl (gJ G, n, .inr (.inl (vp_updL f j x))))) kc ks lv (pc + 1) rest) : sW X G Y Q ad M kc ks lv pc (.long x :: .int i :: .ref (ad kd ix) :: rest) := by
  intro F H locs ls hM hS hL hn
  subst hi
  refine W.last F.1 F.2.1 (hM.1 kd ix _ he).2 ((F.2.2.2.2.2.2.1.1.1.2 1 _ rfl).1 n (fun j => .long (f j))) (fun q => by cases q) (by show ¬ (nI j < 0 ∨ (arrV _ _ _).slots.size ≤ _); rw [arrV_size]; exact vp_in_nI hj hn31) rfl rfl hd fun H1 e z oq => ?_
  refine k F H1 _ ls (hM.set he ?_ oq) (hS.put z oq (hM.1 kd ix _ he).1) hL hn
  show H1[ad kd ix]? = some (vp_cell _ _)
  rw [e, nI_clamp (Nat.lt_trans hj hn31)]
  rw [vp_cell_l, vp_cell_l, arrV_store]
  congr 2
  funext q
  by_cases hq : q = j
  · subst hq
    simp [updV, upd, vp_updL, vp_nar]
    try rfl
  · simp [updV, upd, vp_updL, hq]
theorem s_zast {n : Nat} {f : Nat → Int32} {i : Int32} {j : Nat} {x0 x : Int32} (he : M kd ix = some (.inl (gZ G, n, .inl f))) (hz : vp_nar .boolean x0 = x) (hi : i = nI j) (hj : j < n) (hn31 : n < 2 ^ 31) (hd : decode (yC Y) pc = .ok (.bastore, 1)) (k : sW X G Y Q ad (sset M kd ix (.inl (gZ G, n, .inl (upd f j x)))) kc ks lv (pc + 1) rest) : sW X G Y Q ad M kc ks lv pc (.int x0 :: .int i :: .ref (ad kd ix) :: rest) := by
  intro F H locs ls hM hS hL hn
  subst hi
  refine W.zast F.1 F.2.1 (hM.1 kd ix _ he).2 ((F.2.2.2.2.2.2.1.1.1.2 2 _ rfl).1 n (fun j => .int (f j))) (fun q => by cases q) (by show ¬ (nI j < 0 ∨ (arrV _ _ _).slots.size ≤ _); rw [arrV_size]; exact vp_in_nI hj hn31) rfl rfl hd fun H1 e z oq => ?_
  refine k F H1 _ ls (hM.set he ?_ oq) (hS.put z oq (hM.1 kd ix _ he).1) hL hn
  show H1[ad kd ix]? = some (vp_cell _ _)
  rw [e, nI_clamp (Nat.lt_trans hj hn31)]
  rw [vp_cell_i, vp_cell_i, arrV_store]
  congr 2
  funext q
  by_cases hq : q = j
  · subst hq
    rw [← hz]
    simp [updV, upd, vp_updL, vp_nar]
    try rfl
  · simp [updV, upd, vp_updL, hq]
theorem s_alen {cA : ClassId} {x : vp_A} {ty : FieldType} {v : Int32} (t0 : Nat) (ht : (gTys G)[t0]? = some (cA, ty)) (he : M kd ix = some (.inl (cA, x))) (hv : Int32.ofNat x.1 = v) (hd : decode (yC Y) pc = .ok (.arraylength, 1)) (k : sW X G Y Q ad M kc ks lv (pc + 1) (.int v :: rest)) : sW X G Y Q ad M kc ks lv pc (.ref (ad kd ix) :: rest) := by
  intro F H locs ls hM hS hL hn
  have hP : va_P (gD G) vwCl [(ad kd ix, .inl (cA, x))] H := fun j q hq => by
    match j, hq with
    | 0, hq => cases hq; exact (hM.1 kd ix _ he).2
    | j + 1, hq => simp at hq
  exact va_alen F.1 F.2.1 F.2.2.2.2.2.2.1.1.1 hP 0 t0 rfl ht hv hd (k F H locs ls hM hS hL hn)
theorem s_obj {index x : Nat} (hw1 : Cond.methodLink (yO Y) index Lib.objectInit ∈ yT Y) (hw2 : Cond.instanceMethod Lib.objectInit ∈ yT Y) (hw3 : Cond.code Lib.objectInit ⟨#[0xb1]⟩ 1 none ∈ yT Y) (hd : decode (yC Y) pc = .ok (.invokespecial index, 3)) (h1 : 1 ≤ (yR Y).frames) (h2 : (rest.map fun v => v.category).sum + 12 ≤ (yR Y).locals) (k : sW X G Y Q ad M kc ks lv (pc + 3) rest) : sW X G Y Q ad M kc ks lv pc (.ref x :: rest) := fun F H locs ls a b c d => W.objInit F.1 F.2.1 F.2.2.2.1 (F.2.2.2.2.1 _ hw1) (F.2.2.2.2.1 _ hw2) (F.2.2.2.2.1 _ hw3) rfl (by show ls.size = _; rw [c.1, d]; exact F.2.2.1.symm) rfl hd h1 (by show 2 * 0 + _ + 12 ≤ _; omega) (k F H locs ls a b c d)
end SFC
