/-! triple loops: what is left out lies beyond -/
section STR
theorem dg_split (w : Nat) : ∃ a b c, w = 100 * a + 10 * b + c ∧ b ≤ 9 ∧ c ≤ 9 ∧ gdeg w = a + b + c := ⟨w / 100, w / 10 % 10, w % 10, by omega, by omega, by omega, rfl⟩
theorem skp1 {B x y z : Nat} (h : B < x + y + z) (hy : y ≤ 9) : ∀ w, 100 * x + 10 * y + z ≤ w → w < 100 * x + 10 * (y + 1) → B < gdeg w := fun w h1 h2 => by
  obtain ⟨a, b, c, e, hb, hc, g⟩ := dg_split w
  rw [g]
  have ha : a = x := by omega
  have hb2 : b = y := by omega
  omega
theorem skp2 {B x y z : Nat} (h : B < x + y + z) (h2 : B < x + y + 1) (hy : y ≤ 9) : ∀ w, 100 * x + 10 * y + z ≤ w → w < 100 * (x + 1) → B < gdeg w := fun w h1 h3 => by
  obtain ⟨a, b, c, e, hb, hc, g⟩ := dg_split w
  rw [g]
  have ha : a = x := by omega
  rcases Nat.lt_trichotomy b y with q | q | q <;> omega
theorem skp3 {B x y z : Nat} (h : B < x + y + z) (h2 : B < x + y + 1) (h3 : B < x + 1) (hy : y ≤ 9) : ∀ w, 100 * x + 10 * y + z ≤ w → w < 1000 → B < gdeg w := fun w h1 h4 => by
  obtain ⟨a, b, c, e, hb, hc, g⟩ := dg_split w
  rw [g]
  rcases Nat.lt_trichotomy a x with q | q | q
  · omega
  · rcases Nat.lt_trichotomy b y with q | q | q <;> omega
  · omega
theorem WRk.skip {wk : Nat → Int64} {T : Nat → Nat → Int} {f : Nat → Int} {a b B : Nat} (h : WRk wk (fun y => f y + sN (T y) a)) (hab : a ≤ b) (hw : ∀ w, a ≤ w → w < b → B < gdeg w) (hT : ∀ y w, B < gdeg w → T y w = 0) : WRk wk (fun y => f y + sN (T y) b) := fun k hk => by
  rw [h k hk]
  show f (unp k) + sN (T (unp k)) a = f (unp k) + sN (T (unp k)) b
  rw [sN_skip hab (fun w h1 h2 => hT _ w (hw w h1 h2))]
/-- one place more -/
theorem WRk.put {wk : Nat → Int64} {T : Nat → Nat → Int} {f : Nat → Int} {Y q : Nat} {v : Int64} (h : WRk wk (fun y => f y + sN (T y) Y)) (hq : good q) (hv : v.toInt = f q + sN (T q) Y + T q Y) (ho : ∀ y, y ≠ q → T y Y = 0) : WRk (vp_updL wk (pl q) v) (fun y => f y + sN (T y) (Y + 1)) := fun k hk => by
  show (vp_updL wk (pl q) v k).toInt = f (unp k) + (sN (T (unp k)) Y + T (unp k) Y)
  by_cases e : k = pl q
  · subst e
    rw [show vp_updL wk (pl q) v (pl q) = v from if_pos rfl, hv, unp_pl hq]
    omega
  · rw [show vp_updL wk (pl q) v k = wk k from if_neg e, h k hk, ho (unp k) (fun z => e (by rw [← z, (unp_facts hk).2]))]
    show f (unp k) + sN (T (unp k)) Y = _
    omega
theorem WRk.non {wk : Nat → Int64} {T : Nat → Nat → Int} {f : Nat → Int} {Y : Nat} (h : WRk wk (fun y => f y + sN (T y) Y)) (ho : ∀ y, T y Y = 0) : WRk wk (fun y => f y + sN (T y) (Y + 1)) := fun k hk => by
  rw [h k hk]
  show f (unp k) + sN (T (unp k)) Y = f (unp k) + (sN (T (unp k)) Y + T (unp k) Y)
  rw [ho]
  omega
theorem WRk.ext {wk : Nat → Int64} {f g : Nat → Int} (h : WRk wk f) (e : ∀ y, f y = g y) : WRk wk g := fun k hk => (h k hk).trans (e _)
theorem WRk.zero : WRk (fun _ => 0) (fun _ => 0) := fun _ _ => rfl
theorem vp_updL_at (f : Nat → Int64) (j : Nat) (x : Int64) : vp_updL f j x j = x := if_pos rfl
theorem vp_updL_no (f : Nat → Int64) {j k : Nat} (x : Int64) (h : k ≠ j) : vp_updL f j x k = f k := if_neg h
theorem upd_at (f : Nat → Int32) (j : Nat) (x : Int32) : upd f j x j = x := if_pos rfl
theorem upd_no (f : Nat → Int32) {j k : Nat} (x : Int32) (h : k ≠ j) : upd f j x k = f k := if_neg h
/-- a row of zeros, so far -/
def z220 (wk : Nat → Int64) (i : Nat) : Prop := ∀ k, k < i → wk k = 0
theorem z220.step {wk : Nat → Int64} {i : Nat} (h : z220 wk i) : z220 (vp_updL wk i 0) (i + 1) := fun k hk => by
  by_cases e : k = i
  · rw [e, vp_updL_at]
  · rw [vp_updL_no _ _ e]; exact h k (by omega)
theorem z220.wr {wk : Nat → Int64} (h : z220 wk 220) : WRk wk (fun _ => 0) := fun k hk => by rw [h k hk]; rfl
/-- no carry -/
theorem pl_sum {a b c x y z : Nat} (h : a + b + c + (x + y + z) ≤ 9) : good (100 * a + 10 * b + c + (100 * x + 10 * y + z)) ∧ pl (100 * a + 10 * b + c + (100 * x + 10 * y + z)) = pl3 (a + x) (b + y) (c + z) := by
  rw [show 100 * a + 10 * b + c + (100 * x + 10 * y + z) = 100 * (a + x) + 10 * (b + y) + (c + z) by omega]
  exact ⟨good_dig (by omega), pl_dig (by omega) (by omega)⟩
theorem gdeg_dig {i j k : Nat} (hj : j ≤ 9) (hk : k ≤ 9) : gdeg (100 * i + 10 * j + k) = i + j + k := by
  obtain ⟨a, b, c⟩ := dig (i := i) hj hk
  unfold gdeg
  rw [a, b, c]
theorem gdeg_add {a b : Nat} (h : gdeg a + gdeg b ≤ 9) (ha : a < 1000) (hb : b < 1000) : good (a + b) := by
  obtain ⟨a1, a2, a3, e, h1, h2, g⟩ := dg_split a
  obtain ⟨b1, b2, b3, e', h1', h2', g'⟩ := dg_split b
  rw [g, g'] at h
  rw [e, e', show 100 * a1 + 10 * a2 + a3 + (100 * b1 + 10 * b2 + b3) = 100 * (a1 + b1) + 10 * (a2 + b2) + (a3 + b3) by omega]
  exact good_dig (by omega)
theorem sN_ne {f : Nat → Int} {n : Nat} (h : sN f n ≠ 0) : ∃ i, i < n ∧ f i ≠ 0 := Classical.byContradiction fun q => h (sN_zero (fun i hi => Classical.byContradiction fun z => q ⟨i, hi, z⟩))
theorem mul_gz {A B : Nat → Int} (hA : gz A) (hB : gz B) (h : ∀ a b, A a ≠ 0 → B b ≠ 0 → gdeg a + gdeg b ≤ 9) : gz (mul A B) := fun y hy => by
  obtain ⟨a, ha, h1⟩ := sN_ne hy
  obtain ⟨b, hb, h2⟩ := sN_ne h1
  by_cases e : a + b = y
  · rw [if_pos e] at h2
    have ha0 : A a ≠ 0 := fun q => h2 (by rw [q, Int.zero_mul])
    have hb0 : B b ≠ 0 := fun q => h2 (by rw [q, Int.mul_zero])
    rw [← e]
    exact gdeg_add (h a b ha0 hb0) (hA a ha0).1 (hB b hb0).1
  · rw [if_neg e] at h2; exact absurd rfl h2
theorem hi_deg {P Q : Nat → Int} {v w : Int32} (h : hiRel P v) (h' : hiRel Q w) (hd : dOK P Q) : ∀ a b, P a ≠ 0 → Q b ≠ 0 → gdeg a + gdeg b ≤ 9 := fun a b ha hb => by
  rcases h with ⟨-, h⟩ | ⟨d, -, -, h, -⟩
  · exact absurd (h a) ha
  · rcases h' with ⟨-, h'⟩ | ⟨d', -, -, h', -⟩
    · exact absurd (h' b) hb
    · have := hd d d' h h'
      have := h.2.1 a ha
      have := h'.2.1 b hb
      omega
def ontoT (a : Nat) (v : Int) (P : Nat → Int) (y w : Nat) : Int := if a + w = y then v * P w else 0
theorem ontoT_b {a : Nat} {v : Int} {P : Nat → Int} (hv : -1000000 ≤ v ∧ v ≤ 1000000) (hp : ∀ y, -1000000 ≤ P y ∧ P y ≤ 1000000) (y w : Nat) : -(1000000 * 1000000) ≤ ontoT a v P y w ∧ ontoT a v P y w ≤ 1000000 * 1000000 := by
  unfold ontoT
  split
  · exact mul_bnd (A := 1000000) (B := 1000000) (by omega) (by omega) hv (hp w)
  · omega
theorem ontoT_0 {a : Nat} {v : Int} {P : Nat → Int} {w : Nat} (h : P w = 0) (y : Nat) : ontoT a v P y w = 0 := by
  unfold ontoT
  rw [h, Int.mul_zero]
  split <;> rfl
end STR
