/-! PURE: the product, gathered; copying the sheet to a polynomial. -/
section MTL
/-- the product's part that the key x of P gives -/
def mulX (P Q : Nat → Int) (x : Nat) : Nat → Int := fun y => sN (fun b => if x + b = y then P x * Q b else 0) 1000
def mulF (P Q : Nat → Int) (e : Nat → Nat) (i : Nat) : Nat → Int := fun y => sN (fun a => mulX P Q (e a) y) i
theorem mulX_bnd {P Q : Nat → Int} (hP : ∀ y, -1000000 ≤ P y ∧ P y ≤ 1000000) (hQ : ∀ y, -1000000 ≤ Q y ∧ Q y ≤ 1000000) (x y : Nat) : -(1000000 * 1000000) ≤ mulX P Q x y ∧ mulX P Q x y ≤ 1000000 * 1000000 := by
  by_cases h : ∃ b, b < 1000 ∧ x + b = y
  · obtain ⟨b0, h0, rfl⟩ := h
    have : mulX P Q x (x + b0) = P x * Q b0 := by
      show sN (fun b => if x + b = x + b0 then P x * Q b else 0) 1000 = _
      rw [sN_congr (g := fun b => if b = b0 then P x * Q b else 0) (fun b _ => by
        by_cases q : b = b0
        · rw [if_pos (by omega), if_pos q]
        · rw [if_neg (by omega), if_neg q]), sN_one (a := fun b => P x * Q b) h0]
    rw [this]
    exact mul_bnd (by omega) (by omega) (hP x) (hQ b0)
  · have : mulX P Q x y = 0 := sN_zero (fun b hb => if_neg (fun q => h ⟨b, hb, q⟩))
    rw [this]
    omega
theorem mulF_bnd {P Q : Nat → Int} {e : Nat → Nat} {i : Nat} (hP : ∀ y, -1000000 ≤ P y ∧ P y ≤ 1000000) (hQ : ∀ y, -1000000 ≤ Q y ∧ Q y ≤ 1000000) (hi : i ≤ 40) (y : Nat) : -(1000000 * 1000000 * 40) ≤ mulF P Q e i y ∧ mulF P Q e i y ≤ 1000000 * 1000000 * 40 := by
  have h := sN_abs (g := fun a => mulX P Q (e a) y) (W := 1000000 * 1000000) (n := i) (fun a _ => mulX_bnd hP hQ (e a) y)
  have : mulF P Q e i y = sN (fun a => mulX P Q (e a) y) i := rfl
  rw [this]
  omega
theorem mulF_0 (P Q : Nat → Int) (e : Nat → Nat) : mulF P Q e 0 = fun _ => 0 := rfl
theorem mulF_step {π : sPol} {e' : Nat → Nat} {P Q : Nat → Int} (hQ : PE π e' Q) (e : Nat → Nat) (i : Nat) : gth (mulF P Q e i) e' (fun b => e i + b) (fun b => P (e i) * Q b) π.1 = mulF P Q e (i + 1) := by
  rw [gth_end hQ (fun a ha => by rw [ha]; omega)]
  rfl
theorem mulF_end {π : sPol} {e : Nat → Nat} {P Q : Nat → Int} (hP : PE π e P) : mulF P Q e π.1 = mul P Q := by
  funext y
  show sN (fun i => (fun x => mulX P Q x y) (e i)) π.1 = sN (fun x => mulX P Q x y) 1000
  exact sN_enum (F := fun x => mulX P Q x y) (fun i hi => (hP.2.2.1 i hi).1.1) hP.2.2.2.1 (fun x _ hn => by
    have : P x = 0 := by
      by_cases q : P x = 0
      · exact q
      · obtain ⟨i, hi, he⟩ := hP.2.2.2.2.1 x q
        exact absurd he (hn i hi)
    exact sN_zero (fun b _ => by rw [this]; split <;> omega))
/-- where the copy stands after i lines: all of them so far, or great for a good reason -/
def Cp (π : sPol) (f : Nat → Int) (e : Nat → Nat) (i : Nat) : Prop := (∃ e', PE π e' (part f e i)) ∨ (PG π ∧ ¬ fitsP f)
theorem Cp_step {σ : sShe} {π : sPol} {f : Nat → Int} {e : Nat → Nat} {i : Nat} (hE : ShE σ e f) (hi : i < σ.2.2.2.1) (h : Cp π f e i) : Cp (jAppend π (σ.2.1 i) (σ.2.2.1 i)) f e (i + 1) := by
  obtain ⟨g1, g2, -, g4⟩ := hE.2.1 i hi
  have hinj := hE.inj
  generalize hv : σ.2.2.1 i = v at g4 ⊢
  rw [g2]
  rcases h with ⟨e', h⟩ | ⟨h, hb⟩
  · have hout : part f e i (e i) = 0 := part_out (fun a ha q => by
      have := hinj a i (by omega) hi q
      omega)
    have hadd : fAdd (part f e i) (e i) v.toInt = part f e (i + 1) := by
      rw [g4]
      exact gth_step (fun _ => 0) e (fun a => a) f i
    by_cases h0 : v.toInt = 0
    · have hz : v = 0 := Int64.toInt_inj.mp h0
      rw [show jAppend π (nI (e i)) v = π from if_pos (Or.inr hz)]
      refine Or.inl ⟨e', ?_⟩
      rw [show part f e (i + 1) = part f e i from (gth_skip (fun _ => 0) e (fun a => a) f i (by rw [← g4]; exact h0)).symm]
      exact h
    · have hz : ¬ v = 0 := fun q => h0 (by rw [q]; rfl)
      by_cases hbig : 40 ≤ π.1 ∨ v < -1000000 ∨ 1000000 < v
      · rw [show jAppend π (nI (e i)) v = jGreat π from (if_neg (fun q => q.elim (fun z => by rw [h.2.1] at z; cases z) hz)).trans (if_pos hbig)]
        refine Or.inr ⟨⟨rfl, rfl⟩, fun hf => ?_⟩
        have hb2 := hf.1 (e i)
        rw [← g4] at hb2
        rcases hbig with q | q | q
        · have h1 := h.ct
          have h2 : cnt (part f e i) + 1 ≤ cnt f := cnt_more g1.1 (fun y hy => by
            by_cases z : ∃ a, a < i ∧ e a = y
            · obtain ⟨a, ha, rfl⟩ := z
              rw [part_in ha (fun x y hx hy => hinj x y (by omega) (by omega))] at hy
              exact hy
            · exact absurd (part_out (fun a ha w => z ⟨a, ha, w⟩)) hy) hout (by rw [← g4]; exact h0)
          have h3 := hf.2
          omega
        · have := Int64.lt_iff_toInt_lt.mp q
          rw [show (-1000000 : Int64).toInt = -1000000 from rfl] at this
          omega
        · have := Int64.lt_iff_toInt_lt.mp q
          rw [show (1000000 : Int64).toInt = 1000000 from rfl] at this
          omega
      · have hlo : -1000000 ≤ v.toInt := by
          rcases Int.lt_or_le v.toInt (-1000000) with q | q
          · exact absurd (Or.inr (Or.inl (Int64.lt_iff_toInt_lt.mpr q))) hbig
          · exact q
        have hhi : v.toInt ≤ 1000000 := by
          rcases Int.lt_or_le 1000000 v.toInt with q | q
          · exact absurd (Or.inr (Or.inr (Int64.lt_iff_toInt_lt.mpr (show (1000000 : Int64).toInt < v.toInt from q)))) hbig
          · exact q
        have := h.app g1 hout h0 ⟨hlo, hhi⟩ (by
          rcases Nat.lt_or_ge π.1 40 with q | q
          · exact q
          · exact absurd (Or.inl q) hbig)
        rw [hadd] at this
        exact Or.inl ⟨_, this⟩
  · rw [show jAppend π (nI (e i)) v = π from if_pos (Or.inl h.2)]
    exact Or.inr ⟨h, hb⟩
theorem Cp_end {σ : sShe} {π : sPol} {f : Nat → Int} {e : Nat → Nat} (hE : ShE σ e f) (h : Cp π f e σ.2.2.2.1) : PR π f ∨ (PG π ∧ ¬ fitsP f) := by
  rcases h with ⟨e', h⟩ | h
  · left
    have : part f e σ.2.2.2.1 = f := by
      funext y
      by_cases z : ∃ a, a < σ.2.2.2.1 ∧ e a = y
      · obtain ⟨a, ha, rfl⟩ := z
        exact part_in ha hE.inj
      · rw [part_out (fun a ha w => z ⟨a, ha, w⟩)]
        by_cases q : f y = 0
        · exact q.symm
        · exact absurd (hE.2.2.2 y q) z
    rw [this] at h
    exact ⟨e', h⟩
  · exact Or.inr h
theorem Cp_le {π : sPol} {f : Nat → Int} {e : Nat → Nat} {i : Nat} (h : Cp π f e i) : π.1 ≤ 40 := by
  rcases h with ⟨e', h⟩ | h
  · exact h.1
  · rw [h.1.1]; omega
end MTL
