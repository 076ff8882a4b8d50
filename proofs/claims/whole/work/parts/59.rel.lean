/-! WHAT A CALL DOES to the abstract state: the code of the throw (0: none), the answer, the state after. -/
section SRL
theorem in_c {x a b : Int32} {A B : Int64} (hA : a.toInt64 = A) (hB : b.toInt64 = B) : (A ≤ x.toInt64 ∧ x.toInt64 ≤ B) ↔ (a ≤ x ∧ x ≤ b) := by
  rw [← hA, ← hB]; exact lng_le
theorem in_z {x a b : Int32} {A B : Int64} (hA : a.toInt64 = A) (hB : b.toInt64 = B) : ∃ z : Bool, decide (A ≤ x.toInt64 ∧ x.toInt64 ≤ B) = z ∧ (z = true ↔ (a ≤ x ∧ x ≤ b)) := ⟨_, rfl, decide_eq_true_iff.trans (in_c hA hB)⟩
def lfRel (α : sAl) (x : Int32) (k : Nat) (v : Int32) (α' : sAl) : Prop := (k = 1 ∧ α' = α ∧ ¬ ∃ lt, lt ≤ 2 ∧ x = nI lt) ∨ (k = 2 ∧ α' = α ∧ (∃ lt, lt ≤ 2 ∧ x = nI lt) ∧ aT α = 120) ∨ (k = 0 ∧ v = nI (aT α) ∧ aT α < 120 ∧ ∃ lt m, lt ≤ 2 ∧ x = nI lt ∧ α' = addT α (-1, x, -1, 0, m) False (one1 (kl3 lt) 1))
def nmRel (α : sAl) (x : Int32) (k : Nat) (v : Int32) (α' : sAl) : Prop := (k = 1 ∧ α' = α ∧ ¬ (-1000000 ≤ x ∧ x ≤ 1000000)) ∨ (k = 2 ∧ α' = α ∧ (-1000000 ≤ x ∧ x ≤ 1000000) ∧ aT α = 120) ∨ (k = 0 ∧ v = nI (aT α) ∧ aT α < 120 ∧ (-1000000 ≤ x ∧ x ≤ 1000000) ∧ ∃ m, α' = addT α (-2, x, -1, 0, m) False (one1 0 x.toInt))
def ndRel (α : sAl) (h a b : Int32) (k : Nat) (v : Int32) (α' : sAl) : Prop := (k = 1 ∧ α' = α ∧ nC1 α h a b) ∨ (k = 2 ∧ α' = α ∧ ¬ nC1 α h a b ∧ ¬ ∃ hd ja jb, ndOk α h a b hd ja jb) ∨ (k = 3 ∧ α' = α ∧ (∃ hd ja jb, ndOk α h a b hd ja jb) ∧ aT α = 120) ∨ (k = 0 ∧ v = nI (aT α) ∧ aT α < 120 ∧ ∃ hd ja jb g P m, ndOk α h a b hd ja jb ∧ nodeRel α hd ja jb g P ∧ α' = addT α (h, a, b, ndDp α ja jb, m) g P)
def ldRel (α : sAl) (q a b c : Int32) (k : Nat) (v : Int32) (α' : sAl) : Prop := (k = 1 ∧ α' = α ∧ lC1 α q a b c) ∨ (k = 2 ∧ α' = α ∧ ¬ lC1 α q a b c ∧ ¬ fitsK q b c) ∨ (k = 3 ∧ α' = α ∧ ¬ lC1 α q a b c ∧ fitsK q b c ∧ aR α = 60) ∨ (k = 0 ∧ v = nI (aR α) ∧ aR α < 60 ∧ ¬ lC1 α q a b c ∧ fitsK q b c ∧ α' = addR α (ldRow q a b c))
def cfRel (α : sAl) (row t : Int32) (k : Nat) (α' : sAl) : Prop := (k = 1 ∧ α' = α ∧ (¬ isR α row ∨ ¬ isT α t)) ∨ (k = 2 ∧ α' = α ∧ ∃ jr, jr < aR α ∧ row = nI jr ∧ isT α t ∧ aRw α jr 0 ≠ 6) ∨ (k = 0 ∧ ∃ jr, jr < aR α ∧ row = nI jr ∧ isT α t ∧ aRw α jr 0 = 6 ∧ α' = setR α jr (updF (aRw α jr) 4 t))
def spRel (α : sAl) (row l v : Int32) (k : Nat) (α' : sAl) : Prop := (k = 1 ∧ α' = α ∧ (¬ isR α row ∨ ¬ (0 ≤ l ∧ l < 3))) ∨ (k = 2 ∧ α' = α ∧ isR α row ∧ (0 ≤ l ∧ l < 3) ∧ ¬ (-10 ≤ v ∧ v ≤ 10)) ∨ (k = 0 ∧ ∃ jr lt, jr < aR α ∧ row = nI jr ∧ lt ≤ 2 ∧ l = nI lt ∧ (-10 ≤ v ∧ v ≤ 10) ∧ α' = setR α jr (updF (aRw α jr) (5 + lt) v))
def ckR (α : sAl) (fr to : Int32) (k : Nat) (v : Int32) : Prop := (k = 1 ∧ (fr < 0 ∨ nI (aR α) < to)) ∨ (k = 0 ∧ ¬ (fr < 0 ∨ nI (aR α) < to) ∧ ckRel α fr to v)
def raR (α : sAl) (row what : Int32) (k : Nat) (v : Int32) : Prop := (k = 1 ∧ (¬ isR α row ∨ ¬ (0 ≤ what ∧ what < 8))) ∨ (k = 0 ∧ ∃ jr x, jr < aR α ∧ row = nI jr ∧ x < 8 ∧ what = nI x ∧ v = aRw α jr x)
def cdR (α : sAl) (row : Int32) (k : Nat) (v : Int32) : Prop := (k = 1 ∧ ¬ isR α row) ∨ (k = 0 ∧ ∃ jr N, jr < aR α ∧ row = nI jr ∧ v = nI N ∧ (N : Int) = cdN α (aRw α jr))
def teR (α : sAl) (t : Int32) (k : Nat) (v : Int32) : Prop := (k = 1 ∧ ¬ isT α t) ∨ (k = 0 ∧ ∃ j, j < aT α ∧ t = nI j ∧ tsRel α j v)
def tmR (α : sAl) (t i j q : Int32) (k : Nat) (v : Int32) : Prop := (k = 1 ∧ ¬ isT α t) ∨ (k = 2 ∧ ∃ jt, jt < aT α ∧ t = nI jt ∧ aGr α jt) ∨ (k = 0 ∧ ∃ jt, jt < aT α ∧ t = nI jt ∧ ¬ aGr α jt ∧ tmRel α jt i j q v)
def dpR (α : sAl) (t : Int32) (k : Nat) (v : Int32) : Prop := (k = 1 ∧ ¬ isT α t) ∨ (k = 0 ∧ ∃ j, j < aT α ∧ t = nI j ∧ v = nI (aD α j))
def alR (α : sAl) (a b : Int32) (k : Nat) (v : Int32) : Prop := (k = 1 ∧ (¬ isT α a ∨ ¬ isT α b)) ∨ (k = 0 ∧ ∃ ja jb, ja < aT α ∧ jb < aT α ∧ a = nI ja ∧ b = nI jb ∧ v = jB (decide (aM α ja = aM α jb)))
def cnV (α : sAl) (what : Int32) : Int32 := if what = 0 then nI (aT α) else if what = 1 then nI (aR α) else if what = 2 then 7 else -1
/-- the reference's calls: it stands for α' behind them, its code is k -/
def rI (G : sG) (ad : sAd) (M : sM) (k : Nat) (α' : sAl) : Prop := ∃ ρ : sMd, hMd G ad M ρ ∧ ρ.1 = nI k ∧ RI α' ρ
def mPost (G : sG) (ad : sAd) (M : sM) (k : Nat) (v : Int32) (α' : sAl) : Option Value → sAd → sM → Prop := fun r ad' M' => ad = ad' ∧ sSame pMd M M' ∧ rI G ad M' k α' ∧ ∃ b, r = some (.int b) ∧ (k = 0 → b = v)
def mPostV (G : sG) (ad : sAd) (M : sM) (k : Nat) (α' : sAl) : Option Value → sAd → sM → Prop := fun r ad' M' => ad = ad' ∧ sSame pMd M M' ∧ rI G ad M' k α' ∧ r = none
theorem nodeRel.uniq {α : sAl} {hd ja jb : Nat} {g g' : Prop} {P P' : Nat → Int} (h : nodeRel α hd ja jb g P) (h' : nodeRel α hd ja jb g' P') : (g ↔ g') ∧ P = P' := by
  rcases h with ⟨h1, h2, h3⟩ | ⟨h1, h2, h3⟩ <;> rcases h' with ⟨h1', h2', h3'⟩ | ⟨h1', h2', h3'⟩
  · exact ⟨⟨fun _ => h1', fun _ => h1⟩, by rw [h3, h3']⟩
  · exact absurd h2 h2'
  · exact absurd h2' h2
  · exact ⟨⟨fun q => absurd q h1, fun q => absurd q h1'⟩, by rw [h3, h3']⟩
theorem nI_inj120 {a b : Nat} (ha : a < 2 ^ 31) (hb : b < 2 ^ 31) (e : nI a = nI b) : a = b := (nI_eq ha hb).mp e
theorem RI.add {α : sAl} {c0 c0' : Int32} {t0 r0 : Nat} {hd on tw dp cl gr kd fl co sm mu cl' gr' mu' : Nat → Int32} {wk sp wk' sp' : Nat → Int64} {b0 b' : Bool} (h : RI α (c0, t0, hd, on, tw, dp, cl, gr, r0, kd, fl, co, sm, wk, sp, b0, mu)) {x o w : Int32} {d m : Nat} {g : Prop} {P : Nat → Int} (hoc : ∀ j k, j ≠ t0 → k < 220 → cl' (220 * j + k) = cl (220 * j + k)) (hog : ∀ j, j ≠ t0 → gr' j = gr j) (hgt : gr' t0 ≠ 0 ↔ g) (hct : CRk cl' t0 P) : RI (addT α (x, o, w, d, m) g P) (c0', t0 + 1, upd hd t0 x, upd on t0 o, upd tw t0 w, upd dp t0 (nI d), cl', gr', r0, kd, fl, co, sm, wk', sp', b', mu') := by
  obtain ⟨i1, i2, i3, i4⟩ := h
  subst i1
  refine ⟨rfl, i2, fun i hi => ?_, i4⟩
  have hi' : i < aT α + 1 := hi
  by_cases q : i = aT α
  · subst q
    rw [show aTr (addT α (x, o, w, d, m) g P) (aT α) = (x, o, w, d, m) from updF_self _ _ _, show aGr (addT α (x, o, w, d, m) g P) (aT α) = g from updF_self _ _ _, show aPf (addT α (x, o, w, d, m) g P) (aT α) = P from updF_self _ _ _, show aD (addT α (x, o, w, d, m) g P) (aT α) = d by show (updF (aTr α) (aT α) (x, o, w, d, m) (aT α)).2.2.2.1 = d; rw [updF_self], upd_at, upd_at, upd_at, upd_at]
    exact ⟨rfl, rfl, rfl, rfl, hgt, hct⟩
  · obtain ⟨k1, k2, k3, k4, k5, k6⟩ := i3 i (by omega)
    rw [show aTr (addT α (x, o, w, d, m) g P) i = aTr α i from updF_ne _ _ q, show aGr (addT α (x, o, w, d, m) g P) i = aGr α i from updF_ne _ _ q, show aPf (addT α (x, o, w, d, m) g P) i = aPf α i from updF_ne _ _ q, show aD (addT α (x, o, w, d, m) g P) i = aD α i by show (updF (aTr α) (aT α) (x, o, w, d, m) i).2.2.2.1 = _; rw [updF_ne _ _ q], upd_no _ _ q, upd_no _ _ q, upd_no _ _ q, upd_no _ _ q, hog i q]
    exact ⟨k1, k2, k3, k4, k5, k6.oth hoc q⟩
/-- the fields that RI doesn't read -/
theorem RI.any {α : sAl} {c0 : Int32} {t0 r0 : Nat} {hd on tw dp cl gr kd fl co sm mu : Nat → Int32} {wk sp : Nat → Int64} {b0 : Bool} (h : RI α (c0, t0, hd, on, tw, dp, cl, gr, r0, kd, fl, co, sm, wk, sp, b0, mu)) (c0' : Int32) (wk' sp' : Nat → Int64) (b' : Bool) (mu' : Nat → Int32) : RI α (c0', t0, hd, on, tw, dp, cl, gr, r0, kd, fl, co, sm, wk', sp', b', mu') := h
theorem let2 {x : Int32} : (0 ≤ x ∧ x ≤ 2) ↔ ∃ lt, lt ≤ 2 ∧ x = nI lt := by
  rw [← let3]
  refine ⟨fun q => ⟨q.1, ?_⟩, fun q => ⟨q.1, ?_⟩⟩
  · have := Int32.le_iff_toInt_le.mp q.2
    exact Int32.lt_iff_toInt_lt.mpr (show x.toInt < 3 by have : x.toInt ≤ 2 := this; omega)
  · have := Int32.lt_iff_toInt_lt.mp q.2
    exact Int32.le_iff_toInt_le.mpr (show x.toInt ≤ 2 by have : x.toInt < 3 := this; omega)
theorem i6 {x : Int32} (h : -1000000 ≤ x ∧ x ≤ 1000000) : -1000000 ≤ x.toInt ∧ x.toInt ≤ 1000000 := ⟨Int32.le_iff_toInt_le.mp h.1, Int32.le_iff_toInt_le.mp h.2⟩
theorem lfRel.c1 {α α' : sAl} {x v : Int32} {k : Nat} (h : lfRel α x k v α') (hn : ¬ (0 ≤ x ∧ x ≤ 2)) : k = 1 ∧ α' = α := by
  rw [let2] at hn
  rcases h with ⟨h1, h2, h3⟩ | ⟨h1, h2, h3, h4⟩ | ⟨h1, h2, h3, lt, m, h4, h5, h6⟩
  · exact ⟨h1, h2⟩
  · exact absurd h3 hn
  · exact absurd ⟨lt, h4, h5⟩ hn
theorem lfRel.c2 {α α' : sAl} {x v : Int32} {k : Nat} (h : lfRel α x k v α') (hn : 0 ≤ x ∧ x ≤ 2) (hT : aT α = 120) : k = 2 ∧ α' = α := by
  rw [let2] at hn
  rcases h with ⟨h1, h2, h3⟩ | ⟨h1, h2, h3, h4⟩ | ⟨h1, h2, h3, lt, m, h4, h5, h6⟩
  · exact absurd hn h3
  · exact ⟨h1, h2⟩
  · omega
theorem lfRel.c0 {α α' : sAl} {x v : Int32} {k : Nat} (h : lfRel α x k v α') (hn : 0 ≤ x ∧ x ≤ 2) (hT : aT α ≠ 120) : k = 0 ∧ v = nI (aT α) ∧ aT α < 120 ∧ ∃ lt m, lt ≤ 2 ∧ x = nI lt ∧ α' = addT α (-1, x, -1, 0, m) False (one1 (kl3 lt) 1) := by
  rw [let2] at hn
  rcases h with ⟨h1, h2, h3⟩ | ⟨h1, h2, h3, h4⟩ | h
  · exact absurd hn h3
  · exact absurd h4 hT
  · exact h
theorem nmRel.c1 {α α' : sAl} {x v : Int32} {k : Nat} (h : nmRel α x k v α') (hn : ¬ (-1000000 ≤ x ∧ x ≤ 1000000)) : k = 1 ∧ α' = α := by
  rcases h with ⟨h1, h2, h3⟩ | ⟨h1, h2, h3, h4⟩ | ⟨h1, h2, h3, h4, m, h6⟩
  · exact ⟨h1, h2⟩
  · exact absurd h3 hn
  · exact absurd h4 hn
theorem nmRel.c2 {α α' : sAl} {x v : Int32} {k : Nat} (h : nmRel α x k v α') (hn : -1000000 ≤ x ∧ x ≤ 1000000) (hT : aT α = 120) : k = 2 ∧ α' = α := by
  rcases h with ⟨h1, h2, h3⟩ | ⟨h1, h2, h3, h4⟩ | ⟨h1, h2, h3, h4, m, h6⟩
  · exact absurd hn h3
  · exact ⟨h1, h2⟩
  · omega
theorem nmRel.c0 {α α' : sAl} {x v : Int32} {k : Nat} (h : nmRel α x k v α') (hn : -1000000 ≤ x ∧ x ≤ 1000000) (hT : aT α ≠ 120) : k = 0 ∧ v = nI (aT α) ∧ aT α < 120 ∧ (-1000000 ≤ x ∧ x ≤ 1000000) ∧ ∃ m, α' = addT α (-2, x, -1, 0, m) False (one1 0 x.toInt) := by
  rcases h with ⟨h1, h2, h3⟩ | ⟨h1, h2, h3, h4⟩ | h
  · exact absurd hn h3
  · exact absurd h4 hT
  · exact h
theorem ndOk.n1 {α : sAl} {h a b : Int32} {hd ja jb : Nat} (q : ndOk α h a b hd ja jb) : ¬ nC1 α h a b := by
  obtain ⟨⟨h1, h2, h3, h4, h5, h6⟩, -⟩ := q
  rintro (z | ⟨z1, z2⟩)
  · exact z ⟨ja, h3, h4⟩
  · rcases h6 with ⟨-, q⟩ | ⟨h6, q, -⟩
    · exact z1 ⟨jb, h5, q⟩
    · exact z2 ⟨by rw [h2]; exact (nI_le_iff (a := 3) (b := hd) (by omega) (by omega)).mpr h6, q⟩
theorem ndRel.c1 {α α' : sAl} {x a b v : Int32} {k : Nat} (h : ndRel α x a b k v α') (hn : nC1 α x a b) : k = 1 ∧ α' = α := by
  rcases h with ⟨h1, h2, h3⟩ | ⟨h1, h2, h3, h4⟩ | ⟨h1, h2, ⟨_, _, _, h3⟩, h4⟩ | ⟨h1, h2, h3, _, _, _, _, _, _, h4, _⟩
  · exact ⟨h1, h2⟩
  · exact absurd hn h3
  · exact absurd hn h3.n1
  · exact absurd hn h4.n1
theorem ndRel.c2 {α α' : sAl} {x a b v : Int32} {k : Nat} (h : ndRel α x a b k v α') (hn : ¬ nC1 α x a b) (hk : ¬ ∃ hd ja jb, ndOk α x a b hd ja jb) : k = 2 ∧ α' = α := by
  rcases h with ⟨h1, h2, h3⟩ | ⟨h1, h2, h3, h4⟩ | ⟨h1, h2, h3, h4⟩ | ⟨h1, h2, h3, d, i, j, _, _, _, h4, _⟩
  · exact absurd h3 hn
  · exact ⟨h1, h2⟩
  · exact absurd h3 hk
  · exact absurd ⟨d, i, j, h4⟩ hk
theorem ndRel.c3 {α α' : sAl} {x a b v : Int32} {k : Nat} (h : ndRel α x a b k v α') (hk : ∃ hd ja jb, ndOk α x a b hd ja jb) (hT : aT α = 120) : k = 3 ∧ α' = α := by
  rcases h with ⟨h1, h2, h3⟩ | ⟨h1, h2, h3, h4⟩ | ⟨h1, h2, h3, h4⟩ | ⟨h1, h2, h3, d, i, j, _, _, _, h4, _⟩
  · obtain ⟨_, _, _, q⟩ := hk
    exact absurd h3 q.n1
  · exact absurd hk h4
  · exact ⟨h1, h2⟩
  · omega
theorem ndRel.c0 {α α' : sAl} {x a b v : Int32} {k : Nat} (h : ndRel α x a b k v α') (hk : ∃ hd ja jb, ndOk α x a b hd ja jb) (hT : aT α ≠ 120) : k = 0 ∧ v = nI (aT α) ∧ aT α < 120 ∧ ∃ hd ja jb g P m, ndOk α x a b hd ja jb ∧ nodeRel α hd ja jb g P ∧ α' = addT α (x, a, b, ndDp α ja jb, m) g P := by
  rcases h with ⟨h1, h2, h3⟩ | ⟨h1, h2, h3, h4⟩ | ⟨h1, h2, h3, h4⟩ | h
  · obtain ⟨_, _, _, q⟩ := hk
    exact absurd h3 q.n1
  · exact absurd hk h4
  · exact absurd h4 hT
  · exact h
theorem i32_6 {x : Int32} : (0 ≤ x ∧ x ≤ 5) ↔ ∃ h, h < 6 ∧ x = nI h := by
  constructor
  · intro q
    rcases pk_ix x (n := 6) (by decide) with z | z | z
    · exact absurd q.1 (Int32.not_le.mpr z)
    · have z1 := Int32.le_iff_toInt_le.mp z
      have z2 := Int32.le_iff_toInt_le.mp q.2
      exact absurd (Int.le_trans z1 z2) (by decide)
    · exact z
  · rintro ⟨h, hh, rfl⟩
    exact ⟨Int32.not_lt.mp (nI_pos (by omega)), (nI_le_iff (a := h) (b := 5) (by omega) (by omega)).mpr (by omega)⟩
theorem nd_one {α : sAl} (hA : AI α) {x : Int32} {ja : Nat} (hx : ¬ x ≤ 2) (hja : ja < aT α) : (∃ hd i j, ndOk α x (nI ja) (-1) hd i j) ↔ (0 ≤ x ∧ x ≤ 5) ∧ aD α ja ≤ 19 := by
  have hT := hA.1
  constructor
  · rintro ⟨hd, i, j, ⟨h1, h2, h3, h4, h5, h6⟩, h7⟩
    have e : ja = i := (nI_eq (a := ja) (b := i) (by omega) (by omega)).mp h4
    subst e
    refine ⟨i32_6.mpr ⟨hd, h1, h2⟩, ?_⟩
    rcases h6 with ⟨q, -⟩ | ⟨q, -, e⟩
    · exact absurd (by rw [h2]; exact (nI_le_iff (a := hd) (b := 2) (by omega) (by omega)).mpr (by omega)) hx
    · subst e
      unfold ndDp at h7
      omega
  · rintro ⟨q1, q2⟩
    obtain ⟨hd, h1, h2⟩ := i32_6.mp q1
    have h3 : 3 ≤ hd := Classical.byContradiction fun z => hx (by rw [h2]; exact (nI_le_iff (a := hd) (b := 2) (by omega) (by omega)).mpr (by omega))
    exact ⟨hd, ja, ja, ⟨h1, h2, hja, rfl, hja, Or.inr ⟨h3, rfl, rfl⟩⟩, by unfold ndDp; omega⟩
theorem nd_two {α : sAl} (hA : AI α) {x : Int32} {ja jb : Nat} (hja : ja < aT α) (hjb : jb < aT α) : (∃ hd i j, ndOk α x (nI ja) (nI jb) hd i j) ↔ (0 ≤ x ∧ x ≤ 5) ∧ x ≤ 2 ∧ max (aD α ja) (aD α jb) ≤ 19 := by
  have hT := hA.1
  constructor
  · rintro ⟨hd, i, j, ⟨h1, h2, h3, h4, h5, h6⟩, h7⟩
    have e : ja = i := (nI_eq (a := ja) (b := i) (by omega) (by omega)).mp h4
    subst e
    refine ⟨i32_6.mpr ⟨hd, h1, h2⟩, ?_⟩
    rcases h6 with ⟨q, e⟩ | ⟨q, e, -⟩
    · have e' : jb = j := (nI_eq (a := jb) (b := j) (by omega) (by omega)).mp e
      subst e'
      unfold ndDp at h7
      exact ⟨by rw [h2]; exact (nI_le_iff (a := hd) (b := 2) (by omega) (by omega)).mpr (by omega), by omega⟩
    · exact absurd e (nI_m1' (j := jb) (by omega))
  · rintro ⟨q1, q2, q3⟩
    obtain ⟨hd, h1, h2⟩ := i32_6.mp q1
    have h3 : hd < 3 := Classical.byContradiction fun z => by
      rw [h2] at q2
      have := (nI_le_iff (a := hd) (b := 2) (by omega) (by omega)).mp q2
      omega
    exact ⟨hd, ja, jb, ⟨h1, h2, hja, rfl, hjb, Or.inl ⟨h3, rfl⟩⟩, by unfold ndDp; omega⟩
theorem i32_7 {x : Int32} : (0 ≤ x ∧ x ≤ 6) ↔ ∃ h, h < 7 ∧ x = nI h := by
  constructor
  · intro q
    rcases pk_ix x (n := 7) (by decide) with z | z | z
    · exact absurd q.1 (Int32.not_le.mpr z)
    · exact absurd (Int.le_trans (Int32.le_iff_toInt_le.mp z) (Int32.le_iff_toInt_le.mp q.2)) (by decide)
    · exact z
  · rintro ⟨h, hh, rfl⟩
    exact ⟨Int32.not_lt.mp (nI_pos (by omega)), (nI_le_iff (a := h) (b := 6) (by omega) (by omega)).mpr (by omega)⟩
theorem i32_8 {x : Int32} : (0 ≤ x ∧ x ≤ 7) ↔ ∃ h, h < 8 ∧ x = nI h := by
  constructor
  · intro q
    rcases pk_ix x (n := 8) (by decide) with z | z | z
    · exact absurd q.1 (Int32.not_le.mpr z)
    · exact absurd (Int.le_trans (Int32.le_iff_toInt_le.mp z) (Int32.le_iff_toInt_le.mp q.2)) (by decide)
    · exact z
  · rintro ⟨h, hh, rfl⟩
    exact ⟨Int32.not_lt.mp (nI_pos (by omega)), (nI_le_iff (a := h) (b := 7) (by omega) (by omega)).mpr (by omega)⟩
theorem i32_10 {x : Int32} : (0 ≤ x ∧ x ≤ 9) ↔ ∃ h, h ≤ 9 ∧ x = nI h := by
  constructor
  · intro q
    rcases pk_ix x (n := 10) (by decide) with z | z | ⟨h, hh, e⟩
    · exact absurd q.1 (Int32.not_le.mpr z)
    · exact absurd (Int.le_trans (Int32.le_iff_toInt_le.mp z) (Int32.le_iff_toInt_le.mp q.2)) (by decide)
    · exact ⟨h, by omega, e⟩
  · rintro ⟨h, hh, rfl⟩
    exact ⟨Int32.not_lt.mp (nI_pos (by omega)), (nI_le_iff (a := h) (b := 9) (by omega) (by omega)).mpr (by omega)⟩
theorem lt8 {x : Int32} : (0 ≤ x ∧ x < 8) ↔ ∃ h, h < 8 ∧ x = nI h := by
  constructor
  · intro q
    rcases pk_ix x (n := 8) (by decide) with z | z | z
    · exact absurd q.1 (Int32.not_le.mpr z)
    · exact absurd q.2 (Int32.not_lt.mpr z)
    · exact z
  · rintro ⟨h, hh, rfl⟩
    exact ⟨Int32.not_lt.mp (nI_pos (by omega)), nI_lt_mpr (b := 8) hh (by omega)⟩
theorem ldRel.c1 {α α' : sAl} {q a b c v : Int32} {k : Nat} (h : ldRel α q a b c k v α') (hn : lC1 α q a b c) : k = 1 ∧ α' = α := by
  rcases h with ⟨h1, h2, h3⟩ | ⟨h1, h2, h3, h4⟩ | ⟨h1, h2, h3, h4⟩ | ⟨h1, h2, h3, h4, _⟩
  · exact ⟨h1, h2⟩
  · exact absurd hn h3
  · exact absurd hn h3
  · exact absurd hn h4
theorem ldRel.c2 {α α' : sAl} {q a b c v : Int32} {k : Nat} (h : ldRel α q a b c k v α') (hn : ¬ lC1 α q a b c) (hf : ¬ fitsK q b c) : k = 2 ∧ α' = α := by
  rcases h with ⟨h1, h2, h3⟩ | ⟨h1, h2, h3, h4⟩ | ⟨h1, h2, h3, h4, _⟩ | ⟨h1, h2, h3, h4, h5, _⟩
  · exact absurd h3 hn
  · exact ⟨h1, h2⟩
  · exact absurd h4 hf
  · exact absurd h5 hf
theorem ldRel.c3 {α α' : sAl} {q a b c v : Int32} {k : Nat} (h : ldRel α q a b c k v α') (hn : ¬ lC1 α q a b c) (hf : fitsK q b c) (hR : aR α = 60) : k = 3 ∧ α' = α := by
  rcases h with ⟨h1, h2, h3⟩ | ⟨h1, h2, h3, h4⟩ | ⟨h1, h2, h3, h4, _⟩ | ⟨h1, h2, h3, h4, h5, _⟩
  · exact absurd h3 hn
  · exact absurd hf h4
  · exact ⟨h1, h2⟩
  · omega
theorem ldRel.c0 {α α' : sAl} {q a b c v : Int32} {k : Nat} (h : ldRel α q a b c k v α') (hn : ¬ lC1 α q a b c) (hf : fitsK q b c) (hR : aR α ≠ 60) : k = 0 ∧ v = nI (aR α) ∧ aR α < 60 ∧ α' = addR α (ldRow q a b c) := by
  rcases h with ⟨h1, h2, h3⟩ | ⟨h1, h2, h3, h4⟩ | ⟨h1, h2, h3, h4, h5⟩ | ⟨h1, h2, h3, h4, h5, h6⟩
  · exact absurd h3 hn
  · exact absurd hf h4
  · exact absurd h5 hR
  · exact ⟨h1, h2, h3, h6⟩
theorem cfRel.c1 {α α' : sAl} {row t : Int32} {k : Nat} (h : cfRel α row t k α') (hn : ¬ isR α row ∨ ¬ isT α t) : k = 1 ∧ α' = α := by
  rcases h with ⟨h1, h2, h3⟩ | ⟨h1, h2, jr, h3, h4, h5, _⟩ | ⟨h1, jr, h3, h4, h5, _⟩
  · exact ⟨h1, h2⟩
  · exact hn.elim (fun q => absurd ⟨jr, h3, h4⟩ q) (fun q => absurd h5 q)
  · exact hn.elim (fun q => absurd ⟨jr, h3, h4⟩ q) (fun q => absurd h5 q)
theorem cfRel.c2 {α α' : sAl} (hA : AI α) {t : Int32} {k jr : Nat} (h : cfRel α (nI jr) t k α') (hj : jr < aR α) (ht : isT α t) (hk : aRw α jr 0 ≠ 6) : k = 2 ∧ α' = α := by
  have hR := hA.2.1
  rcases h with ⟨h1, h2, h3⟩ | ⟨h1, h2, _⟩ | ⟨h1, j, h3, h4, h5, h6, _⟩
  · exact h3.elim (fun q => absurd ⟨jr, hj, rfl⟩ q) (fun q => absurd ht q)
  · exact ⟨h1, h2⟩
  · have e : jr = j := (nI_eq (a := jr) (b := j) (by omega) (by omega)).mp h4
    subst e
    exact absurd h6 hk
theorem cfRel.c0 {α α' : sAl} (hA : AI α) {t : Int32} {k jr : Nat} (h : cfRel α (nI jr) t k α') (hj : jr < aR α) (ht : isT α t) (hk : aRw α jr 0 = 6) : k = 0 ∧ α' = setR α jr (updF (aRw α jr) 4 t) := by
  have hR := hA.2.1
  rcases h with ⟨h1, h2, h3⟩ | ⟨h1, h2, j, h3, h4, h5, h6⟩ | ⟨h1, j, h3, h4, h5, h6, h7⟩
  · exact h3.elim (fun q => absurd ⟨jr, hj, rfl⟩ q) (fun q => absurd ht q)
  · have e : jr = j := (nI_eq (a := jr) (b := j) (by omega) (by omega)).mp h4
    subst e
    exact absurd hk h6
  · have e : jr = j := (nI_eq (a := jr) (b := j) (by omega) (by omega)).mp h4
    subst e
    exact ⟨h1, h7⟩
theorem spRel.c1 {α α' : sAl} {row l v : Int32} {k : Nat} (h : spRel α row l v k α') (hn : ¬ isR α row ∨ ¬ (0 ≤ l ∧ l ≤ 2)) : k = 1 ∧ α' = α := by
  rw [let2, ← let3] at hn
  rcases h with ⟨h1, h2, h3⟩ | ⟨h1, h2, h3, h4, _⟩ | ⟨h1, jr, lt, h3, h4, h5, h6, _⟩
  · exact ⟨h1, h2⟩
  · exact hn.elim (fun q => absurd h3 q) (fun q => absurd h4 q)
  · exact hn.elim (fun q => absurd ⟨jr, h3, h4⟩ q) (fun q => absurd (let3.mpr ⟨lt, h5, h6⟩) q)
theorem spRel.c2 {α α' : sAl} {row l v : Int32} {k : Nat} (h : spRel α row l v k α') (hr : isR α row) (hl : 0 ≤ l ∧ l ≤ 2) (hv : ¬ (-10 ≤ v ∧ v ≤ 10)) : k = 2 ∧ α' = α := by
  rw [let2, ← let3] at hl
  rcases h with ⟨h1, h2, h3⟩ | ⟨h1, h2, _⟩ | ⟨h1, jr, lt, h3, h4, h5, h6, h7, _⟩
  · exact h3.elim (fun q => absurd hr q) (fun q => absurd hl q)
  · exact ⟨h1, h2⟩
  · exact absurd h7 hv
theorem spRel.c0 {α α' : sAl} (hA : AI α) {v : Int32} {k jr lt : Nat} (h : spRel α (nI jr) (nI lt) v k α') (hj : jr < aR α) (hl : lt ≤ 2) (hv : -10 ≤ v ∧ v ≤ 10) : k = 0 ∧ α' = setR α jr (updF (aRw α jr) (5 + lt) v) := by
  have hR := hA.2.1
  rcases h with ⟨h1, h2, h3⟩ | ⟨h1, h2, h3, h4, h5⟩ | ⟨h1, j, l2, h3, h4, h5, h6, h7, h8⟩
  · exact h3.elim (fun q => absurd ⟨jr, hj, rfl⟩ q) (fun q => absurd (let3.mpr ⟨lt, hl, rfl⟩) q)
  · exact absurd hv h5
  · have e : jr = j := (nI_eq (a := jr) (b := j) (by omega) (by omega)).mp h4
    have e2 : lt = l2 := (nI_eq (a := lt) (b := l2) (by omega) (by omega)).mp h6
    subst e
    subst e2
    exact ⟨h1, h8⟩
theorem updF_n (f : Nat → Int32) {j k : Nat} (x : Int32) (h : k ≠ j) : updF f j x k = f k := updF_ne _ _ h
theorem RI.ldR {α : sAl} {c0 c0' : Int32} {t0 r0 : Nat} {hd on tw dp cl gr kd fl co sm mu mu' : Nat → Int32} {wk sp wk' sp' : Nat → Int64} {b0 b' : Bool} (h : RI α (c0, t0, hd, on, tw, dp, cl, gr, r0, kd, fl, co, sm, wk, sp, b0, mu)) (q a b c : Int32) : RI (addR α (ldRow q a b c)) (c0', t0, hd, on, tw, dp, cl, gr, r0 + 1, upd kd r0 q, upd (upd (upd fl (3 * r0) a) (3 * r0 + 1) b) (3 * r0 + 2) c, upd co r0 (-1), upd (upd (upd sm (3 * r0 + 0) 0) (3 * r0 + 1) 0) (3 * r0 + 2) 0, wk', sp', b', mu') := by
  obtain ⟨i1, i2, i3, i4⟩ := h
  subst i2
  refine ⟨i1, rfl, i3, fun r hr => ?_⟩
  have hr' : r < aR α + 1 := hr
  by_cases e : r = aR α
  · subst e
    rw [show aRw (addR α (ldRow q a b c)) (aR α) = ldRow q a b c from updF_self _ _ _]
    refine ⟨upd_at _ _ _, fun x hx => ?_, upd_at _ _ _, fun x hx => ?_⟩
    · rcases (show x = 0 ∨ x = 1 ∨ x = 2 by omega) with rfl | rfl | rfl
      · rw [upd_no _ _ (by omega), upd_no _ _ (by omega)]; exact upd_at _ _ _
      · rw [upd_no _ _ (by omega)]; exact upd_at _ _ _
      · exact upd_at _ _ _
    · rcases (show x = 0 ∨ x = 1 ∨ x = 2 by omega) with rfl | rfl | rfl
      · rw [upd_no _ _ (by omega), upd_no _ _ (by omega)]; exact upd_at _ _ _
      · rw [upd_no _ _ (by omega)]; exact upd_at _ _ _
      · exact upd_at _ _ _
  · rw [show aRw (addR α (ldRow q a b c)) r = aRw α r from updF_ne _ _ e]
    obtain ⟨k1, k2, k3, k4⟩ := i4 r (by omega)
    refine ⟨(upd_no _ _ e).trans k1, fun x hx => ?_, (upd_no _ _ e).trans k3, fun x hx => ?_⟩
    · rw [upd_no _ _ (by omega), upd_no _ _ (by omega), upd_no _ _ (by omega)]; exact k2 x hx
    · rw [upd_no _ _ (by omega), upd_no _ _ (by omega), upd_no _ _ (by omega)]; exact k4 x hx
theorem RI.setC {α : sAl} {c0 c0' : Int32} {t0 r0 : Nat} {hd on tw dp cl gr kd fl co sm mu mu' : Nat → Int32} {wk sp wk' sp' : Nat → Int64} {b0 b' : Bool} (h : RI α (c0, t0, hd, on, tw, dp, cl, gr, r0, kd, fl, co, sm, wk, sp, b0, mu)) (jr : Nat) (t : Int32) : RI (setR α jr (updF (aRw α jr) 4 t)) (c0', t0, hd, on, tw, dp, cl, gr, r0, kd, fl, upd co jr t, sm, wk', sp', b', mu') := by
  obtain ⟨i1, i2, i3, i4⟩ := h
  refine ⟨i1, i2, i3, fun r hr => ?_⟩
  obtain ⟨k1, k2, k3, k4⟩ := i4 r hr
  by_cases e : r = jr
  · subst e
    rw [show aRw (setR α r (updF (aRw α r) 4 t)) r = updF (aRw α r) 4 t from updF_self _ _ _]
    exact ⟨k1.trans (updF_n _ _ (by omega)).symm, fun x hx => (k2 x hx).trans (updF_n _ _ (by omega)).symm, (upd_at _ _ _).trans (updF_self _ _ _).symm, fun x hx => (k4 x hx).trans (updF_n _ _ (by omega)).symm⟩
  · rw [show aRw (setR α jr (updF (aRw α jr) 4 t)) r = aRw α r from updF_ne _ _ e]
    exact ⟨k1, k2, (upd_no _ _ e).trans k3, k4⟩
theorem RI.setS {α : sAl} {c0 c0' : Int32} {t0 r0 : Nat} {hd on tw dp cl gr kd fl co sm mu mu' : Nat → Int32} {wk sp wk' sp' : Nat → Int64} {b0 b' : Bool} (h : RI α (c0, t0, hd, on, tw, dp, cl, gr, r0, kd, fl, co, sm, wk, sp, b0, mu)) (jr lt : Nat) (hl : lt ≤ 2) (v : Int32) : RI (setR α jr (updF (aRw α jr) (5 + lt) v)) (c0', t0, hd, on, tw, dp, cl, gr, r0, kd, fl, co, upd sm (3 * jr + lt) v, wk', sp', b', mu') := by
  obtain ⟨i1, i2, i3, i4⟩ := h
  refine ⟨i1, i2, i3, fun r hr => ?_⟩
  obtain ⟨k1, k2, k3, k4⟩ := i4 r hr
  by_cases e : r = jr
  · subst e
    rw [show aRw (setR α r (updF (aRw α r) (5 + lt) v)) r = updF (aRw α r) (5 + lt) v from updF_self _ _ _]
    refine ⟨k1.trans (updF_n _ _ (by omega)).symm, fun x hx => (k2 x hx).trans (updF_n _ _ (by omega)).symm, k3.trans (updF_n _ _ (by omega)).symm, fun x hx => ?_⟩
    by_cases q : x = lt
    · subst q
      exact (upd_at _ _ _).trans (updF_self _ _ _).symm
    · rw [upd_no _ _ (by omega), updF_n _ _ (by omega)]; exact k4 x hx
  · rw [show aRw (setR α jr (updF (aRw α jr) (5 + lt) v)) r = aRw α r from updF_ne _ _ e]
    refine ⟨k1, k2, k3, fun x hx => ?_⟩
    rw [upd_no _ _ (by omega)]; exact k4 x hx
theorem RI.clr {α : sAl} {c0 c0' : Int32} {t0 r0 : Nat} {hd on tw dp cl gr kd fl co sm mu mu' : Nat → Int32} {wk sp wk' sp' : Nat → Int64} {b0 b' : Bool} (_ : RI α (c0, t0, hd, on, tw, dp, cl, gr, r0, kd, fl, co, sm, wk, sp, b0, mu)) : RI (clrA α) (c0', 0, hd, on, tw, dp, cl, gr, 0, kd, fl, co, sm, wk', sp', b', mu') := ⟨rfl, rfl, fun i hi => absurd hi (Nat.not_lt_zero i), fun i hi => absurd hi (Nat.not_lt_zero i)⟩
theorem raR.c1 {α : sAl} {row what v : Int32} {k : Nat} (h : raR α row what k v) (hn : ¬ isR α row ∨ ¬ (0 ≤ what ∧ what ≤ 7)) : k = 1 := by
  rw [i32_8, ← lt8] at hn
  rcases h with ⟨h1, _⟩ | ⟨h1, jr, x, h3, h4, h5, h6, _⟩
  · exact h1
  · exact hn.elim (fun q => absurd ⟨jr, h3, h4⟩ q) (fun q => absurd (lt8.mpr ⟨x, h5, h6⟩) q)
theorem raR.c0 {α : sAl} (hA : AI α) {v : Int32} {k jr x : Nat} (h : raR α (nI jr) (nI x) k v) (hj : jr < aR α) (hx : x < 8) : k = 0 ∧ v = aRw α jr x := by
  have hR := hA.2.1
  rcases h with ⟨h1, h3⟩ | ⟨h1, j, y, h3, h4, h5, h6, h7⟩
  · exact h3.elim (fun q => absurd ⟨jr, hj, rfl⟩ q) (fun q => absurd (lt8.mpr ⟨x, hx, rfl⟩) q)
  · have e : jr = j := (nI_eq (a := jr) (b := j) (by omega) (by omega)).mp h4
    have e2 : x = y := (nI_eq (a := x) (b := y) (by omega) (by omega)).mp h6
    subst e
    subst e2
    exact ⟨h1, h7⟩
theorem cdR.c1 {α : sAl} {row v : Int32} {k : Nat} (h : cdR α row k v) (hn : ¬ isR α row) : k = 1 := by
  rcases h with ⟨h1, _⟩ | ⟨h1, jr, N, h3, h4, _⟩
  · exact h1
  · exact absurd ⟨jr, h3, h4⟩ hn
theorem cdR.c0 {α : sAl} (hA : AI α) {v : Int32} {k jr : Nat} (h : cdR α (nI jr) k v) (hj : jr < aR α) : k = 0 ∧ ∃ N : Nat, v = nI N ∧ (N : Int) = cdN α (aRw α jr) := by
  have hR := hA.2.1
  rcases h with ⟨h1, h3⟩ | ⟨h1, j, N, h3, h4, h5, h6⟩
  · exact absurd ⟨jr, hj, rfl⟩ h3
  · have e : jr = j := (nI_eq (a := jr) (b := j) (by omega) (by omega)).mp h4
    subst e
    exact ⟨h1, N, h5, h6⟩
theorem teR.c1 {α : sAl} {t v : Int32} {k : Nat} (h : teR α t k v) (hn : ¬ isT α t) : k = 1 := by
  rcases h with ⟨h1, _⟩ | ⟨h1, j, h3, h4, _⟩
  · exact h1
  · exact absurd ⟨j, h3, h4⟩ hn
theorem teR.c0 {α : sAl} (hA : AI α) {v : Int32} {k jt : Nat} (h : teR α (nI jt) k v) (hj : jt < aT α) : k = 0 ∧ tsRel α jt v := by
  have hT := hA.1
  rcases h with ⟨h1, h3⟩ | ⟨h1, j, h3, h4, h5⟩
  · exact absurd ⟨jt, hj, rfl⟩ h3
  · have e : jt = j := (nI_eq (a := jt) (b := j) (by omega) (by omega)).mp h4
    subst e
    exact ⟨h1, h5⟩
theorem dpR.c1 {α : sAl} {t v : Int32} {k : Nat} (h : dpR α t k v) (hn : ¬ isT α t) : k = 1 := by
  rcases h with ⟨h1, _⟩ | ⟨h1, j, h3, h4, _⟩
  · exact h1
  · exact absurd ⟨j, h3, h4⟩ hn
theorem dpR.c0 {α : sAl} (hA : AI α) {v : Int32} {k jt : Nat} (h : dpR α (nI jt) k v) (hj : jt < aT α) : k = 0 ∧ v = nI (aD α jt) := by
  have hT := hA.1
  rcases h with ⟨h1, h3⟩ | ⟨h1, j, h3, h4, h5⟩
  · exact absurd ⟨jt, hj, rfl⟩ h3
  · have e : jt = j := (nI_eq (a := jt) (b := j) (by omega) (by omega)).mp h4
    subst e
    exact ⟨h1, h5⟩
theorem tmR.c1 {α : sAl} {t i j q v : Int32} {k : Nat} (h : tmR α t i j q k v) (hn : ¬ isT α t) : k = 1 := by
  rcases h with ⟨h1, _⟩ | ⟨h1, j, h3, h4, _⟩ | ⟨h1, j, h3, h4, _⟩
  · exact h1
  · exact absurd ⟨j, h3, h4⟩ hn
  · exact absurd ⟨j, h3, h4⟩ hn
theorem tmR.c2 {α : sAl} (hA : AI α) {i j q v : Int32} {k jt : Nat} (h : tmR α (nI jt) i j q k v) (hj : jt < aT α) (hg : aGr α jt) : k = 2 := by
  have hT := hA.1
  rcases h with ⟨h1, h3⟩ | ⟨h1, _⟩ | ⟨h1, j, h3, h4, h5, _⟩
  · exact absurd ⟨jt, hj, rfl⟩ h3
  · exact h1
  · have e : jt = j := (nI_eq (a := jt) (b := j) (by omega) (by omega)).mp h4
    subst e
    exact absurd hg h5
theorem tmR.c0 {α : sAl} (hA : AI α) {i j q v : Int32} {k jt : Nat} (h : tmR α (nI jt) i j q k v) (hj : jt < aT α) (hg : ¬ aGr α jt) : k = 0 ∧ tmRel α jt i j q v := by
  have hT := hA.1
  rcases h with ⟨h1, h3⟩ | ⟨h1, j, h3, h4, h5⟩ | ⟨h1, j, h3, h4, h5, h6⟩
  · exact absurd ⟨jt, hj, rfl⟩ h3
  · have e : jt = j := (nI_eq (a := jt) (b := j) (by omega) (by omega)).mp h4
    subst e
    exact absurd h5 hg
  · have e : jt = j := (nI_eq (a := jt) (b := j) (by omega) (by omega)).mp h4
    subst e
    exact ⟨h1, h6⟩
theorem tmRel.out {α : sAl} {t : Nat} {i j q v : Int32} (h : tmRel α t i j q v) (hn : ¬ (0 ≤ i ∧ i ≤ 9) ∨ ¬ (0 ≤ j ∧ j ≤ 9) ∨ ¬ (0 ≤ q ∧ q ≤ 9)) : v = 0 := by
  rcases h with ⟨a, b, c, ha, hb, hc, e1, e2, e3, _⟩ | ⟨e, _⟩
  · exact hn.elim (fun z => absurd (i32_10.mpr ⟨a, ha, e1⟩) z) (fun z => z.elim (fun z => absurd (i32_10.mpr ⟨b, hb, e2⟩) z) (fun z => absurd (i32_10.mpr ⟨c, hc, e3⟩) z))
  · exact e
theorem tmRel.at {α : sAl} {t a b c : Nat} {v : Int32} (h : tmRel α t (nI a) (nI b) (nI c) v) (ha : a ≤ 9) (hb : b ≤ 9) (hc : c ≤ 9) : v.toInt = aPf α t (100 * a + 10 * b + c) := by
  rcases h with ⟨a', b', c', ha', hb', hc', e1, e2, e3, e⟩ | ⟨e, hn⟩
  · have q1 : a = a' := (nI_eq (by omega) (by omega)).mp e1
    have q2 : b = b' := (nI_eq (by omega) (by omega)).mp e2
    have q3 : c = c' := (nI_eq (by omega) (by omega)).mp e3
    subst q1; subst q2; subst q3
    exact e
  · exact absurd ⟨i32_10.mpr ⟨a, ha, rfl⟩, i32_10.mpr ⟨b, hb, rfl⟩, i32_10.mpr ⟨c, hc, rfl⟩⟩ hn
end SRL
