/-! THE FRAME, part one: cells by name, locals as a list, the judgement sW (the machine at a point, the heap only as the cells that are named). -/
section SFA
/-- cells by name: kind and index -/
abbrev sM : Type := Nat → Nat → Option va_E
/-- where each named cell lies -/
abbrev sAd : Type := Nat → Nat → Nat
def sset (M : sM) (k i : Nat) (e : va_E) : sM := fun k' i' => if k' = k ∧ i' = i then some e else M k' i'
def aset (ad : sAd) (k i : Nat) (a : Nat) : sAd := fun k' i' => if k' = k ∧ i' = i then a else ad k' i'
theorem sset_self (M : sM) (k i : Nat) (e : va_E) : sset M k i e k i = some e := by simp [sset]
theorem sset_ne (M : sM) {k i k' i' : Nat} (e : va_E) (h : ¬ (k' = k ∧ i' = i)) : sset M k i e k' i' = M k' i' := by simp [sset, h]
theorem sset_k (M : sM) {k i k' i' : Nat} (e : va_E) (h : k' ≠ k) : sset M k i e k' i' = M k' i' := sset_ne M e (fun q => h q.1)
theorem sset_i (M : sM) {k i i' : Nat} (e : va_E) (h : i' ≠ i) : sset M k i e k i' = M k i' := sset_ne M e (fun q => h q.2)
theorem sset_sset (M : sM) (k i : Nat) (e e' : va_E) : sset (sset M k i e) k i e' = sset M k i e' := by
  funext a b
  by_cases h : a = k ∧ b = i <;> simp [sset, h]
theorem sset_comm (M : sM) {k i k' i' : Nat} (e e' : va_E) (h : ¬ (k' = k ∧ i' = i)) : sset (sset M k i e) k' i' e' = sset (sset M k' i' e') k i e := by
  funext a b
  by_cases h1 : a = k ∧ b = i
  · by_cases h2 : a = k' ∧ b = i'
    · exact absurd ⟨h2.1.symm.trans h1.1, h2.2.symm.trans h1.2⟩ h
    · simp only [sset, if_pos h1, if_neg h2]
  · by_cases h2 : a = k' ∧ b = i'
    · simp only [sset, if_neg h1, if_pos h2]
    · simp only [sset, if_neg h1, if_neg h2]
theorem sset_same (M : sM) {k i : Nat} {e : va_E} (h : M k i = some e) : sset M k i e = M := by
  funext a b
  by_cases h1 : a = k ∧ b = i
  · obtain ⟨rfl, rfl⟩ := h1
    rw [sset_self, h]
  · rw [sset_ne M e h1]
theorem aset_self (ad : sAd) (k i a : Nat) : aset ad k i a k i = a := by simp [aset]
theorem aset_ne (ad : sAd) {k i k' i' : Nat} (a : Nat) (h : ¬ (k' = k ∧ i' = i)) : aset ad k i a k' i' = ad k' i' := by simp [aset, h]
/-- what is fixed for the whole run: class numbers, array classes, the static table's place, the first address of ours, the texts' places -/
abbrev sG : Type := va_G × (ClassId × ClassId × ClassId × ClassId × ClassId) × Nat × Nat × (Nat → Nat)
abbrev gD (G : sG) : va_G := G.1
abbrev gI (G : sG) : ClassId := G.2.1.1
abbrev gJ (G : sG) : ClassId := G.2.1.2.1
abbrev gZ (G : sG) : ClassId := G.2.1.2.2.1
abbrev gT (G : sG) : ClassId := G.2.1.2.2.2.1
abbrev gR (G : sG) : ClassId := G.2.1.2.2.2.2
abbrev gF (G : sG) : Nat := G.2.2.1
abbrev gN (G : sG) : Nat := G.2.2.2.1
abbrev gS (G : sG) : Nat → Nat := G.2.2.2.2
def gA (G : sG) : Nat → Prop := fun q => gN G ≤ q
abbrev gTys (G : sG) : List (ClassId × FieldType) := [(gI G, .int), (gJ G, .long), (gZ G, .boolean), (gT G, .object RX2), (gR G, .array .int)]
/-- the world: the named cells lie in the heap, apart, behind the first address of ours -/
def sWd (G : sG) (ad : sAd) (M : sM) (H : Heap) : Prop :=
  (∀ (k i : Nat) (e : va_E), M k i = some e → gN G ≤ ad k i ∧ va_at (gD G) vwCl (ad k i, e) H) ∧
  ∀ (k i k' i' : Nat) (e e' : va_E), M k i = some e → M k' i' = some e' → ad k i = ad k' i' → k = k' ∧ i = i'
theorem sWd.kept {G : sG} {ad : sAd} {M : sM} {H H1 : Heap} (h : sWd G ad M H) (hq : ∀ q : Nat, q < H.size → gN G ≤ q → H1[q]? = H[q]?) : sWd G ad M H1 :=
  ⟨fun k i e he => ⟨(h.1 k i e he).1, (h.1 k i e he).2.kept (hq _ (h.1 k i e he).2.lt (h.1 k i e he).1)⟩, h.2⟩
theorem sWd.set {G : sG} {ad : sAd} {M : sM} {H H1 : Heap} {k i : Nat} {e0 e : va_E} (h : sWd G ad M H) (he : M k i = some e0) (hat : va_at (gD G) vwCl (ad k i, e) H1) (oq : ∀ q : Nat, q ≠ ad k i → H1[q]? = H[q]?) : sWd G ad (sset M k i e) H1 := by
  have key : ∀ (a b : Nat) (x : va_E), sset M k i e a b = some x → ∃ y, M a b = some y := by
    intro a b x hx
    by_cases h1 : a = k ∧ b = i
    · obtain ⟨rfl, rfl⟩ := h1
      exact ⟨_, he⟩
    · rw [sset_ne M e h1] at hx
      exact ⟨_, hx⟩
  refine ⟨fun a b x hx => ?_, fun a b a' b' x x' hx hx' hab => ?_⟩
  · by_cases h1 : a = k ∧ b = i
    · obtain ⟨rfl, rfl⟩ := h1
      rw [sset_self] at hx
      cases hx
      exact ⟨(h.1 _ _ _ he).1, hat⟩
    · rw [sset_ne M e h1] at hx
      refine ⟨(h.1 _ _ _ hx).1, (h.1 _ _ _ hx).2.kept (oq _ fun z => h1 ?_)⟩
      exact h.2 _ _ _ _ _ _ hx he z
  · obtain ⟨y, hy⟩ := key _ _ _ hx
    obtain ⟨y', hy'⟩ := key _ _ _ hx'
    exact h.2 _ _ _ _ _ _ hy hy' hab
theorem sWd.new {G : sG} {ad : sAd} {M : sM} {H H1 : Heap} {k i : Nat} {e : va_E} (h : sWd G ad M H) (he : M k i = none) (hN : gN G ≤ H.size) (hat : va_at (gD G) vwCl (H.size, e) H1) (oq : ∀ q : Nat, q < H.size → H1[q]? = H[q]?) : sWd G (aset ad k i H.size) (sset M k i e) H1 := by
  have lt : ∀ (a b : Nat) (x : va_E), M a b = some x → ad a b < H.size := fun a b x hx => (h.1 a b x hx).2.lt
  refine ⟨fun a b x hx => ?_, fun a b a' b' x x' hx hx' hab => ?_⟩
  · by_cases h1 : a = k ∧ b = i
    · obtain ⟨rfl, rfl⟩ := h1
      rw [sset_self] at hx
      cases hx
      rw [aset_self]
      exact ⟨hN, hat⟩
    · rw [sset_ne M e h1] at hx
      rw [aset_ne ad _ h1]
      exact ⟨(h.1 _ _ _ hx).1, (h.1 _ _ _ hx).2.kept (oq _ (lt _ _ _ hx))⟩
  · by_cases h1 : a = k ∧ b = i
    · by_cases h2 : a' = k ∧ b' = i
      · exact ⟨h1.1.trans h2.1.symm, h1.2.trans h2.2.symm⟩
      · rw [sset_ne M e h2] at hx'
        rw [aset_ne ad _ h2, h1.1, h1.2, aset_self] at hab
        have := lt _ _ _ hx'
        omega
    · rw [sset_ne M e h1] at hx
      by_cases h2 : a' = k ∧ b' = i
      · rw [aset_ne ad _ h1, h2.1, h2.2, aset_self] at hab
        have := lt _ _ _ hx
        omega
      · rw [sset_ne M e h2] at hx'
        rw [aset_ne ad _ h1, aset_ne ad _ h2] at hab
        exact h.2 _ _ _ _ _ _ hx hx' hab
/-- the same cells by another map of places that agrees on them -/
theorem sWd.re {G : sG} {ad ad' : sAd} {M : sM} {H : Heap} (h : sWd G ad M H) (ha : ∀ k i e, M k i = some e → ad' k i = ad k i) : sWd G ad' M H :=
  ⟨fun k i e he => by rw [ha k i e he]; exact h.1 k i e he, fun k i k' i' e e' he he' hh => h.2 k i k' i' e e' he he' (by rw [← ha _ _ _ he, ← ha _ _ _ he']; exact hh)⟩
/-! locals: a list, a place a slot -/
def sL (ls : Array Slot) (lv : List (Option Value)) : Prop := ls.size = lv.length ∧ lv_wf ls ∧ ∀ (i : Nat) (v : Value), lv[i]? = some (some v) → ls[i]? = some (.val v)
def okst (lv : List (Option Value)) (i : Nat) : Bool := match i with
  | 0 => true
  | j + 1 => match lv[j]? with
    | some (some (.long _)) => false
    | some (some (.double _)) => false
    | _ => true
def sdn (lv : List (Option Value)) : List (Nat × Value) := (List.range lv.length).filterMap fun i => match lv[i]? with
  | some (some v) => some (i, v)
  | _ => none
theorem sdn_mem {lv : List (Option Value)} {i : Nat} {v : Value} : (i, v) ∈ sdn lv ↔ lv[i]? = some (some v) := by
  unfold sdn
  rw [List.mem_filterMap]
  constructor
  · rintro ⟨j, -, hj⟩
    split at hj
    · next w hw =>
      cases hj
      exact hw
    · cases hj
  · intro h
    refine ⟨i, List.mem_range.mpr (List.getElem?_eq_some_iff.mp h).1, ?_⟩
    rw [h]
theorem sL.has {ls : Array Slot} {lv : List (Option Value)} (h : sL ls lv) : lv_has ls lv.length (sdn lv) := ⟨h.1, h.2.1, fun q hq => h.2.2 q.1 q.2 (sdn_mem.mp hq)⟩
theorem okst_cat {lv : List (Option Value)} {i j : Nat} {w : Value} (ho : okst lv i = true) (hj : lv[j]? = some (some w)) (hji : j + 1 = i) : ¬ w.category = 2 := by
  subst hji
  simp only [okst, hj] at ho
  cases w <;> simp_all [Value.category]
theorem sL.st1 {ls : Array Slot} {lv : List (Option Value)} {i : Nat} {v : Value} (hi : i < lv.length) (ho : okst lv i = true) (h : lv_has ls lv.length ((i, v) :: (sdn lv).filter (fun q => !(q.1 == i) && !(q.1 + 1 == i && q.2.category == 2)))) : sL ls (lv.set i (some v)) := by
  refine ⟨by rw [List.length_set]; exact h.1, h.2.1, fun j w hj => ?_⟩
  by_cases e : j = i
  · subst e
    rw [List.getElem?_set_self hi] at hj
    cases hj
    exact h.2.2 (j, v) List.mem_cons_self
  · rw [List.getElem?_set_ne (Ne.symm e)] at hj
    refine h.2.2 (j, w) (List.mem_cons_of_mem _ (List.mem_filter.mpr ⟨sdn_mem.mpr hj, ?_⟩))
    by_cases e2 : j + 1 = i
    · have := okst_cat ho hj e2
      simp [e, this]
    · simp [e, e2]
theorem sL.st2 {ls : Array Slot} {lv : List (Option Value)} {i : Nat} {v : Value} (hi : i + 1 < lv.length) (ho : okst lv i = true) (h : lv_has ls lv.length ((i, v) :: (sdn lv).filter (fun q => !(q.1 == i) && (!(q.1 == i + 1) && !(q.1 + 1 == i && q.2.category == 2))))) : sL ls ((lv.set i (some v)).set (i + 1) none) := by
  refine ⟨by rw [List.length_set, List.length_set]; exact h.1, h.2.1, fun j w hj => ?_⟩
  by_cases e1 : j = i + 1
  · subst e1
    rw [List.getElem?_set_self (by rw [List.length_set]; exact hi)] at hj
    cases hj
  · rw [List.getElem?_set_ne (Ne.symm e1)] at hj
    by_cases e : j = i
    · subst e
      rw [List.getElem?_set_self (by omega)] at hj
      cases hj
      exact h.2.2 (j, v) List.mem_cons_self
    · rw [List.getElem?_set_ne (Ne.symm e)] at hj
      refine h.2.2 (j, w) (List.mem_cons_of_mem _ (List.mem_filter.mpr ⟨sdn_mem.mpr hj, ?_⟩))
      by_cases e2 : j + 1 = i
      · have := okst_cat ho hj e2
        simp [e, e1, this]
      · simp [e, e1, e2]
/-- the locals at a method's entry -/
def sargs : List Value → List (Option Value)
  | [] => []
  | v :: r => if v.category = 2 then some v :: none :: sargs r else some v :: sargs r
theorem sargs_len (vs : List Value) : (sargs vs).length = (lg_sl vs).length := by
  induction vs with
  | nil => rfl
  | cons v r ih =>
    by_cases h : v.category = 2 <;> simp [sargs, lg_sl, h] <;> simpa [lg_sl] using ih
theorem sargs_mem (vs : List Value) : ∀ (n i : Nat) (v : Value), (sargs vs)[i]? = some (some v) → (n + i, v) ∈ lv_args n vs := by
  induction vs with
  | nil => intro n i v h; simp [sargs] at h
  | cons w r ih =>
    intro n i v h
    by_cases hc : w.category = 2
    · simp only [sargs, hc, if_true] at h
      match i, h with
      | 0, h => simp at h; subst h; exact List.mem_cons_self
      | 1, h => simp at h
      | j + 2, h =>
        simp only [List.getElem?_cons_succ] at h
        have := ih (n + 2) j v h
        simp only [lv_args, hc, if_true]
        exact List.mem_cons_of_mem _ (by rw [show n + (j + 2) = n + 2 + j by omega]; exact this)
    · simp only [sargs, hc, if_false] at h
      match i, h with
      | 0, h => simp at h; subst h; exact List.mem_cons_self
      | j + 1, h =>
        simp only [List.getElem?_cons_succ] at h
        have := ih (n + 1) j v h
        simp only [lv_args, hc, if_false]
        exact List.mem_cons_of_mem _ (by rw [show n + (j + 1) = n + 1 + j by omega]; exact this)
theorem sL.entry (vs : List Value) {n : Nat} (h : (lg_sl vs).length ≤ n) : sL ((lg_sl vs ++ List.replicate (n - (lg_sl vs).length) Slot.unset).toArray) (sargs vs ++ List.replicate (n - (lg_sl vs).length) none) := by
  obtain ⟨h1, h2, h3⟩ := lv_entry vs h
  refine ⟨by rw [h1, List.length_append, List.length_replicate, sargs_len]; omega, h2, fun i v hv => ?_⟩
  by_cases hl : i < (sargs vs).length
  · rw [List.getElem?_append_left hl] at hv
    have := sargs_mem vs 0 i v hv
    rw [Nat.zero_add] at this
    exact h3 (i, v) this
  · rw [List.getElem?_append_right (by omega)] at hv
    have := List.eq_of_mem_replicate (List.mem_of_getElem? hv)
    cases this
end SFA
