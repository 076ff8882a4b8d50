/-! alike of the reference -/
abbrev mX4_alike : sMeth := (cX4_alike, 5, RX4, wsX4_alike, { frames := 2, cells := 0, slots := 0, locals := 46 }, (some .boolean), "alike", [])
theorem in_X4_alike_X4 : ∀ w ∈ wsX40, w ∈ wsX4_alike := by decide +kernel
set_option maxHeartbeats 4000000 in
set_option maxRecDepth 100000 in
theorem l_al0 (X : sMach) (G : sG) (ad : sAd) (M0 : sM) (c0 : Int32) (t0 : Nat) (hd : Nat → Int32) (on : Nat → Int32) (tw : Nat → Int32) (dp : Nat → Int32) (cl : Nat → Int32) (gr : Nat → Int32) (r0 : Nat) (kd : Nat → Int32) (fl : Nat → Int32) (co : Nat → Int32) (sm : Nat → Int32) (wk : Nat → Int64) (sp : Nat → Int64) (b0 : Bool) (ja jb : Nat) (Q : State → Prop) (kont : ∀ (M : sM) (mu : Nat → Int32) , hMd G ad M (c0, t0, hd, on, tw, dp, cl, gr, r0, kd, fl, co, sm, wk, sp, b0, mu) → sSame pMd M0 M → (∀ k, k < 14400 → mu k = 0) → sW X G mX4_alike Q ad M 0 0 [some (.ref (ad 12 0)), some (.int (nI ja)), some (.int (nI jb)), none, none] 56 []) : ∀ (k i : Nat) (M : sM) (mu : Nat → Int32) , i + k = 14400 → hMd G ad M (c0, t0, hd, on, tw, dp, cl, gr, r0, kd, fl, co, sm, wk, sp, b0, mu) → sSame pMd M0 M → (∀ k, k < i → mu k = 0) → sW X G mX4_alike Q ad M 0 0 [some (.ref (ad 12 0)), some (.int (nI ja)), some (.int (nI jb)), some (.int (nI i)), none] 36 [] := by
  intro k
  induction k with
  | zero =>
    intro i M mu  hi hm hs hv
    refine s_iload_n dX4_alike_36 rfl ?_
    refine s_sipush (v := 14400) dX4_alike_37 (by decide) ?_
    refine s_icmp_ge 56 dX4_alike_40 (by decide) (fun c40 => ?_) (fun c40 => absurd (nI_le (a := 14400) (by omega) (by omega)) c40)
    refine s_drop 3 ?_
    exact kont M mu  hm hs (by rw [show i = 14400 by omega] at hv; exact hv)
  | succ k ih =>
    intro i M mu  hi hm hs hv
    refine s_iload_n dX4_alike_36 rfl ?_
    refine s_sipush (v := 14400) dX4_alike_37 (by decide) ?_
    refine s_icmp_ge 56 dX4_alike_40 (by decide) (fun c40 => absurd c40 (nI_ge (b := 14400) (by omega) (by omega))) (fun c40 => ?_)
    refine s_aload_n dX4_alike_43 rfl ?_
    refine s_get (kd := 12) (ix := 0) (ci := 5) (fs := [.int c0, .int (nI t0), .ref (ad 13 0), .ref (ad 14 0), .ref (ad 15 0), .ref (ad 16 0), .ref (ad 17 0), .ref (ad 18 0), .int (nI r0), .ref (ad 19 0), .ref (ad 20 0), .ref (ad 21 0), .ref (ad 22 0), .ref (ad 23 0), .ref (ad 24 0), .int (jB b0), .ref (ad 25 0)])  hm.1 rfl in_X4_alike_X4 16 (by decide) (by decide +kernel) rfl rfl dX4_alike_44 ?_
    refine s_iload_n dX4_alike_47 rfl ?_
    refine s_iconst (v := 0) dX4_alike_48 (by decide) ?_
    refine s_zast (kd := 25) (ix := 0) (n := 14400) (f := mu) (j := i) (x := 0) hm.2.2.2.2.2.2.2.2.2.2.2.2.2 (rfl) (rfl) (by omega) (by decide) dX4_alike_49 ?_
    refine s_iinc (v := nI (i + 1)) dX4_alike_50 rfl (nI_1 i) rfl ?_
    refine s_lv (lv' := [some (.ref (ad 12 0)), some (.int (nI ja)), some (.int (nI jb)), some (.int (nI (i + 1))), none]) rfl ?_
    refine s_goto 36 dX4_alike_53 (by decide) ?_
    exact ih (i + 1) (sset M 25 0 (.inl (gZ G, 14400, .inl (upd mu i 0)))) (upd mu i 0)  (by omega) ⟨((sset_k _ _ (by decide)).trans (hm.1)), ((sset_k _ _ (by decide)).trans (hm.2.1)), ((sset_k _ _ (by decide)).trans (hm.2.2.1)), ((sset_k _ _ (by decide)).trans (hm.2.2.2.1)), ((sset_k _ _ (by decide)).trans (hm.2.2.2.2.1)), ((sset_k _ _ (by decide)).trans (hm.2.2.2.2.2.1)), ((sset_k _ _ (by decide)).trans (hm.2.2.2.2.2.2.1)), ((sset_k _ _ (by decide)).trans (hm.2.2.2.2.2.2.2.1)), ((sset_k _ _ (by decide)).trans (hm.2.2.2.2.2.2.2.2.1)), ((sset_k _ _ (by decide)).trans (hm.2.2.2.2.2.2.2.2.2.1)), ((sset_k _ _ (by decide)).trans (hm.2.2.2.2.2.2.2.2.2.2.1)), ((sset_k _ _ (by decide)).trans (hm.2.2.2.2.2.2.2.2.2.2.2.1)), ((sset_k _ _ (by decide)).trans (hm.2.2.2.2.2.2.2.2.2.2.2.2.1)), (sset_self _ _ _ _)⟩ (hs |>.set (P := pMd) (by simp [pMd]) _) (fun k hk => by
      by_cases q : k = i
      · rw [q, upd_at]
      · rw [upd_no _ _ q]; exact hv k (by omega))
set_option maxHeartbeats 4000000 in
set_option maxRecDepth 100000 in
theorem l_alI (X : sMach) (G : sG) (ad : sAd) (M0 : sM) (c0 : Int32) (t0 : Nat) (hd : Nat → Int32) (on : Nat → Int32) (tw : Nat → Int32) (dp : Nat → Int32) (cl : Nat → Int32) (gr : Nat → Int32) (r0 : Nat) (kd : Nat → Int32) (fl : Nat → Int32) (co : Nat → Int32) (sm : Nat → Int32) (wk : Nat → Int64) (sp : Nat → Int64) (b0 : Bool) (α : sAl) (hA : AI α) (ja jb : Nat) (hja : ja < aT α) (hjb : jb < aT α) (hc : c0 = 0) (hI : ∀ mu, RI α (c0, t0, hd, on, tw, dp, cl, gr, r0, kd, fl, co, sm, wk, sp, b0, mu)) (i : Nat) (hi : i ≤ ja) (kont : ∀ (M : sM) (mu : Nat → Int32), hMd G ad M (c0, t0, hd, on, tw, dp, cl, gr, r0, kd, fl, co, sm, wk, sp, b0, mu) → sSame pMd M0 M → alI α ja jb mu (i + 1) 0 → sW X G mX4_alike (sQ X G mX4_alike (mPost G ad M0 0 (jB (decide (aM α ja = aM α jb))) α) (fun _ _ _ => False)) ad M 0 0 [some (.ref (ad 12 0)), some (.int (nI ja)), some (.int (nI jb)), some (.int (nI i)), none] 222 []) : ∀ (Y : Nat) (M : sM) (mu : Nat → Int32), Y ≤ jb + 1 → hMd G ad M (c0, t0, hd, on, tw, dp, cl, gr, r0, kd, fl, co, sm, wk, sp, b0, mu) → sSame pMd M0 M → alI α ja jb mu (i + 1) Y → sW X G mX4_alike (sQ X G mX4_alike (mPost G ad M0 0 (jB (decide (aM α ja = aM α jb))) α) (fun _ _ _ => False)) ad M 0 0 [some (.ref (ad 12 0)), some (.int (nI ja)), some (.int (nI jb)), some (.int (nI i)), some (.int (dn Y))] 77 [] := by
  have hT := hA.1
  intro Y
  induction Y with
  | zero =>
    intro M mu hY hm hs hv
    refine s_iload dX4_alike_77 rfl ?_
    refine s_if_lt 222 dX4_alike_79 (by decide) (fun c79 => ?_) (fun c79 => absurd (by decide) c79)
    refine s_drop 4 ?_
    exact kont M mu hm hs hv
  | succ j ih =>
    intro M mu hY hm hs hv
    obtain ⟨-, -, i3, -⟩ := id (hI mu)
    have hxi : i < aT α := by omega
    have hxj : j < aT α := by omega
    have hqi := i3 i hxi
    have hqj := i3 j hxj
    refine s_lv (lv' := [some (.ref (ad 12 0)), some (.int (nI ja)), some (.int (nI jb)), some (.int (nI i)), some (.int (nI j))]) rfl ?_
    refine s_iload dX4_alike_77 rfl ?_
    refine s_if_lt 222 dX4_alike_79 (by decide) (fun c79 => absurd c79 (nI_pos (by omega))) (fun c79 => ?_)
    refine s_aload_n dX4_alike_82 rfl ?_
    refine s_get (kd := 12) (ix := 0) (ci := 5) (fs := [.int c0, .int (nI t0), .ref (ad 13 0), .ref (ad 14 0), .ref (ad 15 0), .ref (ad 16 0), .ref (ad 17 0), .ref (ad 18 0), .int (nI r0), .ref (ad 19 0), .ref (ad 20 0), .ref (ad 21 0), .ref (ad 22 0), .ref (ad 23 0), .ref (ad 24 0), .int (jB b0), .ref (ad 25 0)])  hm.1 rfl in_X4_alike_X4 16 (by decide) (by decide +kernel) rfl rfl dX4_alike_83 ?_
    refine s_bipush (v := 120) dX4_alike_86 (by decide) ?_
    refine s_iload_n dX4_alike_88 rfl ?_
    refine s_imul dX4_alike_89 ?_
    refine s_eqi (y := nI (120 * i)) (nI_mul 120 i) ?_
    refine s_iload dX4_alike_90 rfl ?_
    refine s_iadd dX4_alike_92 ?_
    refine s_eqi (y := nI (120 * i + j)) (nI_add _ _) ?_
    refine s_zald (kd := 25) (ix := 0) (n := 14400) (f := mu) (j := 120 * i + j) hm.2.2.2.2.2.2.2.2.2.2.2.2.2 (rfl) (by omega) (by decide) dX4_alike_93 ?_
    refine s_if_eq 216 dX4_alike_94 (by decide) (fun c94 => ?_) (fun c94 => ?_)
    · refine s_iinc (v := dn j) dX4_alike_216 rfl (dn_s j) rfl ?_
      refine s_lv (lv' := [some (.ref (ad 12 0)), some (.int (nI ja)), some (.int (nI jb)), some (.int (nI i)), some (.int (dn j))]) rfl ?_
      refine s_goto 77 dX4_alike_219 (by decide) ?_
      exact ih M mu (by omega) hm hs (hv.skip (fun q => absurd c94 q))
    · refine s_iload_n dX4_alike_97 rfl ?_
      refine s_iload dX4_alike_98 rfl ?_
      refine s_icmp_ne 106 dX4_alike_100 (by decide) (fun c100 => ?_) (fun c100 => ?_)
      · refine s_aload_n dX4_alike_106 rfl ?_
        refine s_get (kd := 12) (ix := 0) (ci := 5) (fs := [.int c0, .int (nI t0), .ref (ad 13 0), .ref (ad 14 0), .ref (ad 15 0), .ref (ad 16 0), .ref (ad 17 0), .ref (ad 18 0), .int (nI r0), .ref (ad 19 0), .ref (ad 20 0), .ref (ad 21 0), .ref (ad 22 0), .ref (ad 23 0), .ref (ad 24 0), .int (jB b0), .ref (ad 25 0)])  hm.1 rfl in_X4_alike_X4 2 (by decide) (by decide +kernel) rfl rfl dX4_alike_107 ?_
        refine s_iload_n dX4_alike_110 rfl ?_
        refine s_iald (kd := 13) (ix := 0) (n := 120) (f := hd) (j := i) hm.2.1 (rfl) (by omega) (by decide) dX4_alike_111 ?_
        refine s_eqi (y := (aTr α i).1) (hqi.1) ?_
        refine s_aload_n dX4_alike_112 rfl ?_
        refine s_get (kd := 12) (ix := 0) (ci := 5) (fs := [.int c0, .int (nI t0), .ref (ad 13 0), .ref (ad 14 0), .ref (ad 15 0), .ref (ad 16 0), .ref (ad 17 0), .ref (ad 18 0), .int (nI r0), .ref (ad 19 0), .ref (ad 20 0), .ref (ad 21 0), .ref (ad 22 0), .ref (ad 23 0), .ref (ad 24 0), .int (jB b0), .ref (ad 25 0)])  hm.1 rfl in_X4_alike_X4 2 (by decide) (by decide +kernel) rfl rfl dX4_alike_113 ?_
        refine s_iload dX4_alike_116 rfl ?_
        refine s_iald (kd := 13) (ix := 0) (n := 120) (f := hd) (j := j) hm.2.1 (rfl) (by omega) (by decide) dX4_alike_118 ?_
        refine s_eqi (y := (aTr α j).1) (hqj.1) ?_
        refine s_icmp_ne 147 dX4_alike_119 (by decide) (fun c119 => ?_) (fun c119 => ?_)
        · refine s_iconst (v := 0) dX4_alike_147 (by decide) ?_
          exact s_iret rfl (rfl) dX4_alike_148 (Nat.le_of_ble_eq_true rfl) (Nat.le_of_ble_eq_true rfl) (⟨rfl, hs, ⟨(c0, t0, hd, on, tw, dp, cl, gr, r0, kd, fl, co, sm, wk, sp, b0, mu), hm, hc, hI mu⟩, 0, rfl, fun _ => by
            rw [decide_eq_false (fun e9 => c119 (tp_head hA hxi hxj ((tp_eq hA hxi hxj).mp ((hv.1 i j (by omega) (by omega) c94).2.2 e9))))]
            rfl⟩)
        · refine s_aload_n dX4_alike_122 rfl ?_
          refine s_get (kd := 12) (ix := 0) (ci := 5) (fs := [.int c0, .int (nI t0), .ref (ad 13 0), .ref (ad 14 0), .ref (ad 15 0), .ref (ad 16 0), .ref (ad 17 0), .ref (ad 18 0), .int (nI r0), .ref (ad 19 0), .ref (ad 20 0), .ref (ad 21 0), .ref (ad 22 0), .ref (ad 23 0), .ref (ad 24 0), .int (jB b0), .ref (ad 25 0)])  hm.1 rfl in_X4_alike_X4 2 (by decide) (by decide +kernel) rfl rfl dX4_alike_123 ?_
          refine s_iload_n dX4_alike_126 rfl ?_
          refine s_iald (kd := 13) (ix := 0) (n := 120) (f := hd) (j := i) hm.2.1 (rfl) (by omega) (by decide) dX4_alike_127 ?_
          refine s_eqi (y := (aTr α i).1) (hqi.1) ?_
          refine s_if_ge 149 dX4_alike_128 (by decide) (fun c128 => ?_) (fun c128 => ?_)
          · refine s_aload_n dX4_alike_149 rfl ?_
            refine s_get (kd := 12) (ix := 0) (ci := 5) (fs := [.int c0, .int (nI t0), .ref (ad 13 0), .ref (ad 14 0), .ref (ad 15 0), .ref (ad 16 0), .ref (ad 17 0), .ref (ad 18 0), .int (nI r0), .ref (ad 19 0), .ref (ad 20 0), .ref (ad 21 0), .ref (ad 22 0), .ref (ad 23 0), .ref (ad 24 0), .int (jB b0), .ref (ad 25 0)])  hm.1 rfl in_X4_alike_X4 2 (by decide) (by decide +kernel) rfl rfl dX4_alike_150 ?_
            refine s_iload_n dX4_alike_153 rfl ?_
            refine s_iald (kd := 13) (ix := 0) (n := 120) (f := hd) (j := i) hm.2.1 (rfl) (by omega) (by decide) dX4_alike_154 ?_
            refine s_eqi (y := (aTr α i).1) (hqi.1) ?_
            refine s_if_ge 161 dX4_alike_155 (by decide) (fun c155 => ?_) (fun c155 => absurd (c128) c155)
            have hn0 : ¬ (aTr α i).1 < 0 := Int32.not_lt.mpr c128
            have hn1 : ¬ (aTr α j).1 < 0 := c119 ▸ hn0
            obtain ⟨h9, a9, hh9, eh9, ha9, ea9, ht9⟩ := (hA.2.2.1 i hxi).1.nd hn0
            obtain ⟨h8, a8, hh8, eh8, ha8, ea8, ht8⟩ := (hA.2.2.1 j hxj).1.nd hn1
            have hh : h9 = h8 := (nI_eq (a := h9) (b := h8) (by omega) (by omega)).mp (by rw [← eh9, ← eh8]; exact c119)
            rcases ht9 with ⟨hl9, b9, hb9, eb9⟩ | ⟨hl9, eb9⟩
            · obtain ⟨b8, hb8, eb8⟩ : ∃ b, b < j ∧ (aTr α j).2.2.1 = nI b := ht8.elim (fun q => q.2) (fun q => absurd q.1 (by omega))
              refine s_aload_n dX4_alike_161 rfl ?_
              refine s_get (kd := 12) (ix := 0) (ci := 5) (fs := [.int c0, .int (nI t0), .ref (ad 13 0), .ref (ad 14 0), .ref (ad 15 0), .ref (ad 16 0), .ref (ad 17 0), .ref (ad 18 0), .int (nI r0), .ref (ad 19 0), .ref (ad 20 0), .ref (ad 21 0), .ref (ad 22 0), .ref (ad 23 0), .ref (ad 24 0), .int (jB b0), .ref (ad 25 0)])  hm.1 rfl in_X4_alike_X4 16 (by decide) (by decide +kernel) rfl rfl dX4_alike_162 ?_
              refine s_bipush (v := 120) dX4_alike_165 (by decide) ?_
              refine s_aload_n dX4_alike_167 rfl ?_
              refine s_get (kd := 12) (ix := 0) (ci := 5) (fs := [.int c0, .int (nI t0), .ref (ad 13 0), .ref (ad 14 0), .ref (ad 15 0), .ref (ad 16 0), .ref (ad 17 0), .ref (ad 18 0), .int (nI r0), .ref (ad 19 0), .ref (ad 20 0), .ref (ad 21 0), .ref (ad 22 0), .ref (ad 23 0), .ref (ad 24 0), .int (jB b0), .ref (ad 25 0)])  hm.1 rfl in_X4_alike_X4 3 (by decide) (by decide +kernel) rfl rfl dX4_alike_168 ?_
              refine s_iload_n dX4_alike_171 rfl ?_
              refine s_iald (kd := 14) (ix := 0) (n := 120) (f := on) (j := i) hm.2.2.1 (rfl) (by omega) (by decide) dX4_alike_172 ?_
              refine s_eqi (y := nI a9) (hqi.2.1.trans ea9) ?_
              refine s_imul dX4_alike_173 ?_
              refine s_eqi (y := nI (120 * a9)) (nI_mul 120 a9) ?_
              refine s_aload_n dX4_alike_174 rfl ?_
              refine s_get (kd := 12) (ix := 0) (ci := 5) (fs := [.int c0, .int (nI t0), .ref (ad 13 0), .ref (ad 14 0), .ref (ad 15 0), .ref (ad 16 0), .ref (ad 17 0), .ref (ad 18 0), .int (nI r0), .ref (ad 19 0), .ref (ad 20 0), .ref (ad 21 0), .ref (ad 22 0), .ref (ad 23 0), .ref (ad 24 0), .int (jB b0), .ref (ad 25 0)])  hm.1 rfl in_X4_alike_X4 3 (by decide) (by decide +kernel) rfl rfl dX4_alike_175 ?_
              refine s_iload dX4_alike_178 rfl ?_
              refine s_iald (kd := 14) (ix := 0) (n := 120) (f := on) (j := j) hm.2.2.1 (rfl) (by omega) (by decide) dX4_alike_180 ?_
              refine s_eqi (y := nI a8) (hqj.2.1.trans ea8) ?_
              refine s_iadd dX4_alike_181 ?_
              refine s_eqi (y := nI (120 * a9 + a8)) (nI_add _ _) ?_
              refine s_iconst (v := 1) dX4_alike_182 (by decide) ?_
              refine s_zast (kd := 25) (ix := 0) (n := 14400) (f := mu) (j := 120 * a9 + a8) (x := 1) hm.2.2.2.2.2.2.2.2.2.2.2.2.2 (rfl) (rfl) (by omega) (by decide) dX4_alike_183 ?_
              refine s_aload_n dX4_alike_184 rfl ?_
              refine s_get (kd := 12) (ix := 0) (ci := 5) (fs := [.int c0, .int (nI t0), .ref (ad 13 0), .ref (ad 14 0), .ref (ad 15 0), .ref (ad 16 0), .ref (ad 17 0), .ref (ad 18 0), .int (nI r0), .ref (ad 19 0), .ref (ad 20 0), .ref (ad 21 0), .ref (ad 22 0), .ref (ad 23 0), .ref (ad 24 0), .int (jB b0), .ref (ad 25 0)])  ((sset_k _ _ (by decide)).trans (hm.1)) rfl in_X4_alike_X4 4 (by decide) (by decide +kernel) rfl rfl dX4_alike_185 ?_
              refine s_iload_n dX4_alike_188 rfl ?_
              refine s_iald (kd := 15) (ix := 0) (n := 120) (f := tw) (j := i) ((sset_k _ _ (by decide)).trans (hm.2.2.2.1)) (rfl) (by omega) (by decide) dX4_alike_189 ?_
              refine s_eqi (y := nI b9) (hqi.2.2.1.trans eb9) ?_
              refine s_if_lt 216 dX4_alike_190 (by decide) (fun c190 => absurd c190 (nI_pos (by omega))) (fun c190 => ?_)
              refine s_aload_n dX4_alike_193 rfl ?_
              refine s_get (kd := 12) (ix := 0) (ci := 5) (fs := [.int c0, .int (nI t0), .ref (ad 13 0), .ref (ad 14 0), .ref (ad 15 0), .ref (ad 16 0), .ref (ad 17 0), .ref (ad 18 0), .int (nI r0), .ref (ad 19 0), .ref (ad 20 0), .ref (ad 21 0), .ref (ad 22 0), .ref (ad 23 0), .ref (ad 24 0), .int (jB b0), .ref (ad 25 0)])  ((sset_k _ _ (by decide)).trans (hm.1)) rfl in_X4_alike_X4 16 (by decide) (by decide +kernel) rfl rfl dX4_alike_194 ?_
              refine s_bipush (v := 120) dX4_alike_197 (by decide) ?_
              refine s_aload_n dX4_alike_199 rfl ?_
              refine s_get (kd := 12) (ix := 0) (ci := 5) (fs := [.int c0, .int (nI t0), .ref (ad 13 0), .ref (ad 14 0), .ref (ad 15 0), .ref (ad 16 0), .ref (ad 17 0), .ref (ad 18 0), .int (nI r0), .ref (ad 19 0), .ref (ad 20 0), .ref (ad 21 0), .ref (ad 22 0), .ref (ad 23 0), .ref (ad 24 0), .int (jB b0), .ref (ad 25 0)])  ((sset_k _ _ (by decide)).trans (hm.1)) rfl in_X4_alike_X4 4 (by decide) (by decide +kernel) rfl rfl dX4_alike_200 ?_
              refine s_iload_n dX4_alike_203 rfl ?_
              refine s_iald (kd := 15) (ix := 0) (n := 120) (f := tw) (j := i) ((sset_k _ _ (by decide)).trans (hm.2.2.2.1)) (rfl) (by omega) (by decide) dX4_alike_204 ?_
              refine s_eqi (y := nI b9) (hqi.2.2.1.trans eb9) ?_
              refine s_imul dX4_alike_205 ?_
              refine s_eqi (y := nI (120 * b9)) (nI_mul 120 b9) ?_
              refine s_aload_n dX4_alike_206 rfl ?_
              refine s_get (kd := 12) (ix := 0) (ci := 5) (fs := [.int c0, .int (nI t0), .ref (ad 13 0), .ref (ad 14 0), .ref (ad 15 0), .ref (ad 16 0), .ref (ad 17 0), .ref (ad 18 0), .int (nI r0), .ref (ad 19 0), .ref (ad 20 0), .ref (ad 21 0), .ref (ad 22 0), .ref (ad 23 0), .ref (ad 24 0), .int (jB b0), .ref (ad 25 0)])  ((sset_k _ _ (by decide)).trans (hm.1)) rfl in_X4_alike_X4 4 (by decide) (by decide +kernel) rfl rfl dX4_alike_207 ?_
              refine s_iload dX4_alike_210 rfl ?_
              refine s_iald (kd := 15) (ix := 0) (n := 120) (f := tw) (j := j) ((sset_k _ _ (by decide)).trans (hm.2.2.2.1)) (rfl) (by omega) (by decide) dX4_alike_212 ?_
              refine s_eqi (y := nI b8) (hqj.2.2.1.trans eb8) ?_
              refine s_iadd dX4_alike_213 ?_
              refine s_eqi (y := nI (120 * b9 + b8)) (nI_add _ _) ?_
              refine s_iconst (v := 1) dX4_alike_214 (by decide) ?_
              refine s_zast (kd := 25) (ix := 0) (n := 14400) (f := upd mu (120 * a9 + a8) 1) (j := 120 * b9 + b8) (x := 1) (sset_self _ _ _ _) (rfl) (rfl) (by omega) (by decide) dX4_alike_215 ?_
              refine s_iinc (v := dn j) dX4_alike_216 rfl (dn_s j) rfl ?_
              refine s_lv (lv' := [some (.ref (ad 12 0)), some (.int (nI ja)), some (.int (nI jb)), some (.int (nI i)), some (.int (dn j))]) rfl ?_
              refine s_goto 77 dX4_alike_219 (by decide) ?_
              exact ih (sset (sset M 25 0 (.inl (gZ G, 14400, .inl (upd mu (120 * a9 + a8) 1)))) 25 0 (.inl (gZ G, 14400, .inl (upd (upd mu (120 * a9 + a8) 1) (120 * b9 + b8) 1)))) (upd (upd mu (120 * a9 + a8) 1) (120 * b9 + b8) 1) (by omega) ⟨((sset_k _ _ (by decide)).trans ((sset_k _ _ (by decide)).trans (hm.1))), ((sset_k _ _ (by decide)).trans ((sset_k _ _ (by decide)).trans (hm.2.1))), ((sset_k _ _ (by decide)).trans ((sset_k _ _ (by decide)).trans (hm.2.2.1))), ((sset_k _ _ (by decide)).trans ((sset_k _ _ (by decide)).trans (hm.2.2.2.1))), ((sset_k _ _ (by decide)).trans ((sset_k _ _ (by decide)).trans (hm.2.2.2.2.1))), ((sset_k _ _ (by decide)).trans ((sset_k _ _ (by decide)).trans (hm.2.2.2.2.2.1))), ((sset_k _ _ (by decide)).trans ((sset_k _ _ (by decide)).trans (hm.2.2.2.2.2.2.1))), ((sset_k _ _ (by decide)).trans ((sset_k _ _ (by decide)).trans (hm.2.2.2.2.2.2.2.1))), ((sset_k _ _ (by decide)).trans ((sset_k _ _ (by decide)).trans (hm.2.2.2.2.2.2.2.2.1))), ((sset_k _ _ (by decide)).trans ((sset_k _ _ (by decide)).trans (hm.2.2.2.2.2.2.2.2.2.1))), ((sset_k _ _ (by decide)).trans ((sset_k _ _ (by decide)).trans (hm.2.2.2.2.2.2.2.2.2.2.1))), ((sset_k _ _ (by decide)).trans ((sset_k _ _ (by decide)).trans (hm.2.2.2.2.2.2.2.2.2.2.2.1))), ((sset_k _ _ (by decide)).trans ((sset_k _ _ (by decide)).trans (hm.2.2.2.2.2.2.2.2.2.2.2.2.1))), (sset_self _ _ _ _)⟩ (hs |>.set (P := pMd) (by simp [pMd]) _ |>.set (P := pMd) (by simp [pMd]) _) (hv.mark (by omega) (by omega) c94 (fun x y => (x = a9 ∧ y = a8) ∨ (x = b9 ∧ y = b8)) (fun x y q => by omega) (fun x y hx hy => by rw [mk_upd (by omega) hy, mk_upd (by omega) hy, or_assoc]) (((tp_eq hA hxi hxj).trans (tp_node hA hxi hxj c119 hn0 ha9 ha8 ea9 ea8 _ (tp_two hA (by omega) (by omega) eb9 eb8))).trans ⟨fun q x y c => c.elim (fun c => by rw [c.1, c.2]; exact q.1) (fun c => by rw [c.1, c.2]; exact q.2), fun q => ⟨q _ _ (Or.inl ⟨rfl, rfl⟩), q _ _ (Or.inr ⟨rfl, rfl⟩)⟩⟩))
            · have eb8 : (aTr α j).2.2.1 = -1 := ht8.elim (fun q => absurd q.1 (by omega)) (fun q => q.2)
              refine s_aload_n dX4_alike_161 rfl ?_
              refine s_get (kd := 12) (ix := 0) (ci := 5) (fs := [.int c0, .int (nI t0), .ref (ad 13 0), .ref (ad 14 0), .ref (ad 15 0), .ref (ad 16 0), .ref (ad 17 0), .ref (ad 18 0), .int (nI r0), .ref (ad 19 0), .ref (ad 20 0), .ref (ad 21 0), .ref (ad 22 0), .ref (ad 23 0), .ref (ad 24 0), .int (jB b0), .ref (ad 25 0)])  hm.1 rfl in_X4_alike_X4 16 (by decide) (by decide +kernel) rfl rfl dX4_alike_162 ?_
              refine s_bipush (v := 120) dX4_alike_165 (by decide) ?_
              refine s_aload_n dX4_alike_167 rfl ?_
              refine s_get (kd := 12) (ix := 0) (ci := 5) (fs := [.int c0, .int (nI t0), .ref (ad 13 0), .ref (ad 14 0), .ref (ad 15 0), .ref (ad 16 0), .ref (ad 17 0), .ref (ad 18 0), .int (nI r0), .ref (ad 19 0), .ref (ad 20 0), .ref (ad 21 0), .ref (ad 22 0), .ref (ad 23 0), .ref (ad 24 0), .int (jB b0), .ref (ad 25 0)])  hm.1 rfl in_X4_alike_X4 3 (by decide) (by decide +kernel) rfl rfl dX4_alike_168 ?_
              refine s_iload_n dX4_alike_171 rfl ?_
              refine s_iald (kd := 14) (ix := 0) (n := 120) (f := on) (j := i) hm.2.2.1 (rfl) (by omega) (by decide) dX4_alike_172 ?_
              refine s_eqi (y := nI a9) (hqi.2.1.trans ea9) ?_
              refine s_imul dX4_alike_173 ?_
              refine s_eqi (y := nI (120 * a9)) (nI_mul 120 a9) ?_
              refine s_aload_n dX4_alike_174 rfl ?_
              refine s_get (kd := 12) (ix := 0) (ci := 5) (fs := [.int c0, .int (nI t0), .ref (ad 13 0), .ref (ad 14 0), .ref (ad 15 0), .ref (ad 16 0), .ref (ad 17 0), .ref (ad 18 0), .int (nI r0), .ref (ad 19 0), .ref (ad 20 0), .ref (ad 21 0), .ref (ad 22 0), .ref (ad 23 0), .ref (ad 24 0), .int (jB b0), .ref (ad 25 0)])  hm.1 rfl in_X4_alike_X4 3 (by decide) (by decide +kernel) rfl rfl dX4_alike_175 ?_
              refine s_iload dX4_alike_178 rfl ?_
              refine s_iald (kd := 14) (ix := 0) (n := 120) (f := on) (j := j) hm.2.2.1 (rfl) (by omega) (by decide) dX4_alike_180 ?_
              refine s_eqi (y := nI a8) (hqj.2.1.trans ea8) ?_
              refine s_iadd dX4_alike_181 ?_
              refine s_eqi (y := nI (120 * a9 + a8)) (nI_add _ _) ?_
              refine s_iconst (v := 1) dX4_alike_182 (by decide) ?_
              refine s_zast (kd := 25) (ix := 0) (n := 14400) (f := mu) (j := 120 * a9 + a8) (x := 1) hm.2.2.2.2.2.2.2.2.2.2.2.2.2 (rfl) (rfl) (by omega) (by decide) dX4_alike_183 ?_
              refine s_aload_n dX4_alike_184 rfl ?_
              refine s_get (kd := 12) (ix := 0) (ci := 5) (fs := [.int c0, .int (nI t0), .ref (ad 13 0), .ref (ad 14 0), .ref (ad 15 0), .ref (ad 16 0), .ref (ad 17 0), .ref (ad 18 0), .int (nI r0), .ref (ad 19 0), .ref (ad 20 0), .ref (ad 21 0), .ref (ad 22 0), .ref (ad 23 0), .ref (ad 24 0), .int (jB b0), .ref (ad 25 0)])  ((sset_k _ _ (by decide)).trans (hm.1)) rfl in_X4_alike_X4 4 (by decide) (by decide +kernel) rfl rfl dX4_alike_185 ?_
              refine s_iload_n dX4_alike_188 rfl ?_
              refine s_iald (kd := 15) (ix := 0) (n := 120) (f := tw) (j := i) ((sset_k _ _ (by decide)).trans (hm.2.2.2.1)) (rfl) (by omega) (by decide) dX4_alike_189 ?_
              refine s_eqi (y := (-1)) (hqi.2.2.1.trans eb9) ?_
              refine s_if_lt 216 dX4_alike_190 (by decide) (fun c190 => ?_) (fun c190 => absurd (by decide) c190)
              refine s_iinc (v := dn j) dX4_alike_216 rfl (dn_s j) rfl ?_
              refine s_lv (lv' := [some (.ref (ad 12 0)), some (.int (nI ja)), some (.int (nI jb)), some (.int (nI i)), some (.int (dn j))]) rfl ?_
              refine s_goto 77 dX4_alike_219 (by decide) ?_
              exact ih (sset M 25 0 (.inl (gZ G, 14400, .inl (upd mu (120 * a9 + a8) 1)))) (upd mu (120 * a9 + a8) 1) (by omega) ⟨((sset_k _ _ (by decide)).trans (hm.1)), ((sset_k _ _ (by decide)).trans (hm.2.1)), ((sset_k _ _ (by decide)).trans (hm.2.2.1)), ((sset_k _ _ (by decide)).trans (hm.2.2.2.1)), ((sset_k _ _ (by decide)).trans (hm.2.2.2.2.1)), ((sset_k _ _ (by decide)).trans (hm.2.2.2.2.2.1)), ((sset_k _ _ (by decide)).trans (hm.2.2.2.2.2.2.1)), ((sset_k _ _ (by decide)).trans (hm.2.2.2.2.2.2.2.1)), ((sset_k _ _ (by decide)).trans (hm.2.2.2.2.2.2.2.2.1)), ((sset_k _ _ (by decide)).trans (hm.2.2.2.2.2.2.2.2.2.1)), ((sset_k _ _ (by decide)).trans (hm.2.2.2.2.2.2.2.2.2.2.1)), ((sset_k _ _ (by decide)).trans (hm.2.2.2.2.2.2.2.2.2.2.2.1)), ((sset_k _ _ (by decide)).trans (hm.2.2.2.2.2.2.2.2.2.2.2.2.1)), (sset_self _ _ _ _)⟩ (hs |>.set (P := pMd) (by simp [pMd]) _) (hv.mark (by omega) (by omega) c94 (fun x y => x = a9 ∧ y = a8) (fun x y q => by omega) (fun x y hx hy => mk_upd (by omega) hy) (((tp_eq hA hxi hxj).trans (tp_node hA hxi hxj c119 hn0 ha9 ha8 ea9 ea8 _ (tp_one eb9 eb8))).trans ⟨fun q x y c => by rw [c.1, c.2]; exact q.1, fun q => ⟨q _ _ ⟨rfl, rfl⟩, trivial⟩⟩))
          · refine s_aload_n dX4_alike_131 rfl ?_
            refine s_get (kd := 12) (ix := 0) (ci := 5) (fs := [.int c0, .int (nI t0), .ref (ad 13 0), .ref (ad 14 0), .ref (ad 15 0), .ref (ad 16 0), .ref (ad 17 0), .ref (ad 18 0), .int (nI r0), .ref (ad 19 0), .ref (ad 20 0), .ref (ad 21 0), .ref (ad 22 0), .ref (ad 23 0), .ref (ad 24 0), .int (jB b0), .ref (ad 25 0)])  hm.1 rfl in_X4_alike_X4 3 (by decide) (by decide +kernel) rfl rfl dX4_alike_132 ?_
            refine s_iload_n dX4_alike_135 rfl ?_
            refine s_iald (kd := 14) (ix := 0) (n := 120) (f := on) (j := i) hm.2.2.1 (rfl) (by omega) (by decide) dX4_alike_136 ?_
            refine s_eqi (y := (aTr α i).2.1) (hqi.2.1) ?_
            refine s_aload_n dX4_alike_137 rfl ?_
            refine s_get (kd := 12) (ix := 0) (ci := 5) (fs := [.int c0, .int (nI t0), .ref (ad 13 0), .ref (ad 14 0), .ref (ad 15 0), .ref (ad 16 0), .ref (ad 17 0), .ref (ad 18 0), .int (nI r0), .ref (ad 19 0), .ref (ad 20 0), .ref (ad 21 0), .ref (ad 22 0), .ref (ad 23 0), .ref (ad 24 0), .int (jB b0), .ref (ad 25 0)])  hm.1 rfl in_X4_alike_X4 3 (by decide) (by decide +kernel) rfl rfl dX4_alike_138 ?_
            refine s_iload dX4_alike_141 rfl ?_
            refine s_iald (kd := 14) (ix := 0) (n := 120) (f := on) (j := j) hm.2.2.1 (rfl) (by omega) (by decide) dX4_alike_143 ?_
            refine s_eqi (y := (aTr α j).2.1) (hqj.2.1) ?_
            refine s_icmp_eq 149 dX4_alike_144 (by decide) (fun c144 => ?_) (fun c144 => ?_)
            · refine s_aload_n dX4_alike_149 rfl ?_
              refine s_get (kd := 12) (ix := 0) (ci := 5) (fs := [.int c0, .int (nI t0), .ref (ad 13 0), .ref (ad 14 0), .ref (ad 15 0), .ref (ad 16 0), .ref (ad 17 0), .ref (ad 18 0), .int (nI r0), .ref (ad 19 0), .ref (ad 20 0), .ref (ad 21 0), .ref (ad 22 0), .ref (ad 23 0), .ref (ad 24 0), .int (jB b0), .ref (ad 25 0)])  hm.1 rfl in_X4_alike_X4 2 (by decide) (by decide +kernel) rfl rfl dX4_alike_150 ?_
              refine s_iload_n dX4_alike_153 rfl ?_
              refine s_iald (kd := 13) (ix := 0) (n := 120) (f := hd) (j := i) hm.2.1 (rfl) (by omega) (by decide) dX4_alike_154 ?_
              refine s_eqi (y := (aTr α i).1) (hqi.1) ?_
              refine s_if_ge 161 dX4_alike_155 (by decide) (fun c155 => absurd c155 (c128)) (fun c155 => ?_)
              refine s_goto 216 dX4_alike_158 (by decide) ?_
              refine s_iinc (v := dn j) dX4_alike_216 rfl (dn_s j) rfl ?_
              refine s_lv (lv' := [some (.ref (ad 12 0)), some (.int (nI ja)), some (.int (nI jb)), some (.int (nI i)), some (.int (dn j))]) rfl ?_
              refine s_goto 77 dX4_alike_219 (by decide) ?_
              exact ih M mu (by omega) hm hs (hv.skip (fun _ => (tp_eq hA hxi hxj).mpr (tp_leafr hA hxi hxj c119 (Int32.not_le.mp c128) c144)))
            · refine s_iconst (v := 0) dX4_alike_147 (by decide) ?_
              exact s_iret rfl (rfl) dX4_alike_148 (Nat.le_of_ble_eq_true rfl) (Nat.le_of_ble_eq_true rfl) (⟨rfl, hs, ⟨(c0, t0, hd, on, tw, dp, cl, gr, r0, kd, fl, co, sm, wk, sp, b0, mu), hm, hc, hI mu⟩, 0, rfl, fun _ => by
                rw [decide_eq_false (fun e9 => c144 (tp_leaf c119 (Int32.not_le.mp c128) ((tp_eq hA hxi hxj).mp ((hv.1 i j (by omega) (by omega) c94).2.2 e9))))]
                rfl⟩)
      · refine s_goto 216 dX4_alike_103 (by decide) ?_
        refine s_iinc (v := dn j) dX4_alike_216 rfl (dn_s j) rfl ?_
        refine s_lv (lv' := [some (.ref (ad 12 0)), some (.int (nI ja)), some (.int (nI jb)), some (.int (nI i)), some (.int (dn j))]) rfl ?_
        refine s_goto 77 dX4_alike_219 (by decide) ?_
        exact ih M mu (by omega) hm hs (hv.skip (fun _ => by rw [(nI_eq (a := i) (b := j) (by omega) (by omega)).mp c100]))
set_option maxHeartbeats 4000000 in
set_option maxRecDepth 100000 in
theorem l_alO (X : sMach) (G : sG) (ad : sAd) (M0 : sM) (c0 : Int32) (t0 : Nat) (hd : Nat → Int32) (on : Nat → Int32) (tw : Nat → Int32) (dp : Nat → Int32) (cl : Nat → Int32) (gr : Nat → Int32) (r0 : Nat) (kd : Nat → Int32) (fl : Nat → Int32) (co : Nat → Int32) (sm : Nat → Int32) (wk : Nat → Int64) (sp : Nat → Int64) (b0 : Bool) (α : sAl) (hA : AI α) (ja jb : Nat) (hja : ja < aT α) (hjb : jb < aT α) (hc : c0 = 0) (hI : ∀ mu, RI α (c0, t0, hd, on, tw, dp, cl, gr, r0, kd, fl, co, sm, wk, sp, b0, mu)) : ∀ (x : Nat) (M : sM) (mu : Nat → Int32), x ≤ ja + 1 → hMd G ad M (c0, t0, hd, on, tw, dp, cl, gr, r0, kd, fl, co, sm, wk, sp, b0, mu) → sSame pMd M0 M → alI α ja jb mu x (jb + 1) → sW X G mX4_alike (sQ X G mX4_alike (mPost G ad M0 0 (jB (decide (aM α ja = aM α jb))) α) (fun _ _ _ => False)) ad M 0 0 [some (.ref (ad 12 0)), some (.int (nI ja)), some (.int (nI jb)), some (.int (dn x)), none] 70 [] := by
  have hT := hA.1
  intro x
  induction x with
  | zero =>
    intro M mu hX hm hs hv
    refine s_iload_n dX4_alike_70 rfl ?_
    refine s_if_lt 228 dX4_alike_71 (by decide) (fun c71 => ?_) (fun c71 => absurd (by decide) c71)
    refine s_iconst (v := 1) dX4_alike_228 (by decide) ?_
    exact s_iret rfl (rfl) dX4_alike_229 (Nat.le_of_ble_eq_true rfl) (Nat.le_of_ble_eq_true rfl) (⟨rfl, hs, ⟨(c0, t0, hd, on, tw, dp, cl, gr, r0, kd, fl, co, sm, wk, sp, b0, mu), hm, hc, hI mu⟩, 1, rfl, fun _ => by
      rw [decide_eq_true hv.fin]
      rfl⟩)
  | succ i ih =>
    intro M mu hX hm hs hv
    refine s_lv (lv' := [some (.ref (ad 12 0)), some (.int (nI ja)), some (.int (nI jb)), some (.int (nI i)), none]) rfl ?_
    refine s_iload_n dX4_alike_70 rfl ?_
    refine s_if_lt 228 dX4_alike_71 (by decide) (fun c71 => absurd c71 (nI_pos (by omega))) (fun c71 => ?_)
    refine s_iload_n dX4_alike_74 rfl ?_
    refine s_istore dX4_alike_75 rfl rfl ?_
    refine s_lv (lv' := [some (.ref (ad 12 0)), some (.int (nI ja)), some (.int (nI jb)), some (.int (nI i)), some (.int (nI jb))]) rfl ?_
    refine s_lv (lv' := [some (.ref (ad 12 0)), some (.int (nI ja)), some (.int (nI jb)), some (.int (nI i)), some (.int (dn (jb + 1)))]) rfl ?_
    refine l_alI X G ad M0 c0 t0 hd on tw dp cl gr r0 kd fl co sm wk sp b0 α hA ja jb hja hjb hc hI i (by omega) (fun M9 mu9 hm9 hs9 hv9 => ?_) (jb + 1) M mu (Nat.le_refl _) hm hs hv
    refine s_iinc (v := dn i) dX4_alike_222 rfl (dn_s i) rfl ?_
    refine s_lv (lv' := [some (.ref (ad 12 0)), some (.int (nI ja)), some (.int (nI jb)), some (.int (dn i)), none]) rfl ?_
    refine s_goto 70 dX4_alike_225 (by decide) ?_
    exact ih M9 mu9 (by omega) hm9 hs9 hv9.row
set_option maxHeartbeats 4000000 in
set_option maxRecDepth 100000 in
theorem c_X4_alike (G : sG) (l : Launch) (hl : l.stackTraces = false) (ad : sAd) (M : sM) (c0 : Int32) (t0 : Nat) (hd : Nat → Int32) (on : Nat → Int32) (tw : Nat → Int32) (dp : Nat → Int32) (cl : Nat → Int32) (gr : Nat → Int32) (r0 : Nat) (kd : Nat → Int32) (fl : Nat → Int32) (co : Nat → Int32) (sm : Nat → Int32) (wk : Nat → Int64) (sp : Nat → Int64) (b0 : Bool) (mu : Nat → Int32) (hm : hMd G ad M (c0, t0, hd, on, tw, dp, cl, gr, r0, kd, fl, co, sm, wk, sp, b0, mu)) (α : sAl) (hA : AI α) (hI : RI α (c0, t0, hd, on, tw, dp, cl, gr, r0, kd, fl, co, sm, wk, sp, b0, mu)) (x y v : Int32) (k : Nat) (hrel : alR α x y k v) : sMet G l yX4_alike mX4_alike [.ref (ad 12 0), .int x, .int y] ad M (mPost G ad M k v α) (fun _ _ _ => False) := by
  obtain ⟨i1, i2, i3, i4⟩ := id hI
  have hT := hA.1
  have hR60 := hA.2.1
  refine sMet.of hl (by decide +kernel) rfl rfl rfl rfl (Nat.le_of_ble_eq_true rfl) (fun X => ?_)
  refine s_lv (lv' := [some (.ref (ad 12 0)), some (.int x), some (.int y), none, none]) rfl ?_
  refine s_aload_n dX4_alike_0 rfl ?_
  refine s_aload_n dX4_alike_1 rfl ?_
  refine s_iload_n dX4_alike_2 rfl ?_
  refine s_callV (As := [.int x]) (rest := [.ref (ad 12 0)]) (n := 1) (kd := 12) (ix := 0) (fun l hl => c_X4_isTree G l hl ad M c0 t0 hd on tw dp cl gr r0 kd fl co sm wk sp b0 mu ⟨hm.1, hm.2.1, hm.2.2.1, hm.2.2.2.1, hm.2.2.2.2.1, hm.2.2.2.2.2.1, hm.2.2.2.2.2.2.1, hm.2.2.2.2.2.2.2.1, hm.2.2.2.2.2.2.2.2.1, hm.2.2.2.2.2.2.2.2.2.1, hm.2.2.2.2.2.2.2.2.2.2.1, hm.2.2.2.2.2.2.2.2.2.2.2.1, hm.2.2.2.2.2.2.2.2.2.2.2.2.1, hm.2.2.2.2.2.2.2.2.2.2.2.2.2⟩ (by omega) x) gX4_alike_X4_isTree rfl (by decide +kernel) hm.1 rfl rfl ⟨(Nat.le_of_ble_eq_true rfl), (Nat.le_of_ble_eq_true rfl)⟩ ⟨(Nat.le_of_ble_eq_true rfl), (Nat.le_of_ble_eq_true rfl)⟩ (Nat.le_of_ble_eq_true rfl) dX4_alike_3 rfl (fun r9 ad9 M9 h9 => ?_)
  obtain ⟨rfl, rfl, za, rfl, hza⟩ := h9
  rw [i1] at hza
  refine s_if_eq 21 dX4_alike_6 (by decide) (fun c6 => ?_) (fun c6 => ?_)
  · obtain rfl := hrel.c1 (Or.inl (fun q => by have z9 := hza.mpr q; rw [jB_0.mp c6] at z9; cases z9))
    refine s_iconst (v := 1) dX4_alike_21 (by decide) ?_
    refine s_put (kd := 12) (ix := 0) (ci := 5) (v := .int 1) (ty := tyX4 0) (fs := [.int c0, .int (nI t0), .ref (ad 13 0), .ref (ad 14 0), .ref (ad 15 0), .ref (ad 16 0), .ref (ad 17 0), .ref (ad 18 0), .int (nI r0), .ref (ad 19 0), .ref (ad 20 0), .ref (ad 21 0), .ref (ad 22 0), .ref (ad 23 0), .ref (ad 24 0), .int (jB b0), .ref (ad 25 0)])  tyX4 tyX4_ok nmX4 hm.1 rfl in_X4_alike_X4 0 (by decide) (by decide +kernel) rfl rfl (tyX4_ok 0 (by decide)) (rfl) (rfl) (Nat.le_of_ble_eq_true rfl) dX4_alike_22 ?_
    refine s_M (M' := (sset M 12 0 (.inr (5, [.int 1, .int (nI t0), .ref (ad 13 0), .ref (ad 14 0), .ref (ad 15 0), .ref (ad 16 0), .ref (ad 17 0), .ref (ad 18 0), .int (nI r0), .ref (ad 19 0), .ref (ad 20 0), .ref (ad 21 0), .ref (ad 22 0), .ref (ad 23 0), .ref (ad 24 0), .int (jB b0), .ref (ad 25 0)])))) rfl ?_
    refine s_aload_n dX4_alike_25 rfl ?_
    refine s_get (kd := 12) (ix := 0) (ci := 5) (fs := [.int 1, .int (nI t0), .ref (ad 13 0), .ref (ad 14 0), .ref (ad 15 0), .ref (ad 16 0), .ref (ad 17 0), .ref (ad 18 0), .int (nI r0), .ref (ad 19 0), .ref (ad 20 0), .ref (ad 21 0), .ref (ad 22 0), .ref (ad 23 0), .ref (ad 24 0), .int (jB b0), .ref (ad 25 0)])  (sset_self _ _ _ _) rfl in_X4_alike_X4 0 (by decide) (by decide +kernel) rfl rfl dX4_alike_26 ?_
    refine s_if_le 34 dX4_alike_29 (by decide) (fun c29 => absurd c29 (by decide)) (fun c29 => ?_)
    refine s_iconst (v := 0) dX4_alike_32 (by decide) ?_
    exact s_iret rfl (rfl) dX4_alike_33 (Nat.le_of_ble_eq_true rfl) (Nat.le_of_ble_eq_true rfl) (⟨rfl, (sSame.rfl |>.set (P := pMd) (by simp [pMd]) _), ⟨(1, t0, hd, on, tw, dp, cl, gr, r0, kd, fl, co, sm, wk, sp, b0, mu), ⟨(sset_self _ _ _ _), ((sset_k _ _ (by decide)).trans (hm.2.1)), ((sset_k _ _ (by decide)).trans (hm.2.2.1)), ((sset_k _ _ (by decide)).trans (hm.2.2.2.1)), ((sset_k _ _ (by decide)).trans (hm.2.2.2.2.1)), ((sset_k _ _ (by decide)).trans (hm.2.2.2.2.2.1)), ((sset_k _ _ (by decide)).trans (hm.2.2.2.2.2.2.1)), ((sset_k _ _ (by decide)).trans (hm.2.2.2.2.2.2.2.1)), ((sset_k _ _ (by decide)).trans (hm.2.2.2.2.2.2.2.2.1)), ((sset_k _ _ (by decide)).trans (hm.2.2.2.2.2.2.2.2.2.1)), ((sset_k _ _ (by decide)).trans (hm.2.2.2.2.2.2.2.2.2.2.1)), ((sset_k _ _ (by decide)).trans (hm.2.2.2.2.2.2.2.2.2.2.2.1)), ((sset_k _ _ (by decide)).trans (hm.2.2.2.2.2.2.2.2.2.2.2.2.1)), ((sset_k _ _ (by decide)).trans (hm.2.2.2.2.2.2.2.2.2.2.2.2.2))⟩, rfl, hI.any _ _ _ _ _⟩, _, rfl, fun q => absurd q (by decide)⟩)
  · refine s_aload_n dX4_alike_9 rfl ?_
    refine s_iload_n dX4_alike_10 rfl ?_
    refine s_callV (As := [.int y]) (rest := [.ref (ad 12 0)]) (n := 1) (kd := 12) (ix := 0) (fun l hl => c_X4_isTree G l hl ad M c0 t0 hd on tw dp cl gr r0 kd fl co sm wk sp b0 mu ⟨hm.1, hm.2.1, hm.2.2.1, hm.2.2.2.1, hm.2.2.2.2.1, hm.2.2.2.2.2.1, hm.2.2.2.2.2.2.1, hm.2.2.2.2.2.2.2.1, hm.2.2.2.2.2.2.2.2.1, hm.2.2.2.2.2.2.2.2.2.1, hm.2.2.2.2.2.2.2.2.2.2.1, hm.2.2.2.2.2.2.2.2.2.2.2.1, hm.2.2.2.2.2.2.2.2.2.2.2.2.1, hm.2.2.2.2.2.2.2.2.2.2.2.2.2⟩ (by omega) y) gX4_alike_X4_isTree rfl (by decide +kernel) hm.1 rfl rfl ⟨(Nat.le_of_ble_eq_true rfl), (Nat.le_of_ble_eq_true rfl)⟩ ⟨(Nat.le_of_ble_eq_true rfl), (Nat.le_of_ble_eq_true rfl)⟩ (Nat.le_of_ble_eq_true rfl) dX4_alike_11 rfl (fun r9 ad9 M9 h9 => ?_)
    obtain ⟨rfl, rfl, zb, rfl, hzb⟩ := h9
    rw [i1] at hzb
    refine s_if_eq 21 dX4_alike_14 (by decide) (fun c14 => ?_) (fun c14 => ?_)
    · obtain rfl := hrel.c1 (Or.inr (fun q => by have z9 := hzb.mpr q; rw [jB_0.mp c14] at z9; cases z9))
      refine s_iconst (v := 1) dX4_alike_21 (by decide) ?_
      refine s_put (kd := 12) (ix := 0) (ci := 5) (v := .int 1) (ty := tyX4 0) (fs := [.int c0, .int (nI t0), .ref (ad 13 0), .ref (ad 14 0), .ref (ad 15 0), .ref (ad 16 0), .ref (ad 17 0), .ref (ad 18 0), .int (nI r0), .ref (ad 19 0), .ref (ad 20 0), .ref (ad 21 0), .ref (ad 22 0), .ref (ad 23 0), .ref (ad 24 0), .int (jB b0), .ref (ad 25 0)])  tyX4 tyX4_ok nmX4 hm.1 rfl in_X4_alike_X4 0 (by decide) (by decide +kernel) rfl rfl (tyX4_ok 0 (by decide)) (rfl) (rfl) (Nat.le_of_ble_eq_true rfl) dX4_alike_22 ?_
      refine s_M (M' := (sset M 12 0 (.inr (5, [.int 1, .int (nI t0), .ref (ad 13 0), .ref (ad 14 0), .ref (ad 15 0), .ref (ad 16 0), .ref (ad 17 0), .ref (ad 18 0), .int (nI r0), .ref (ad 19 0), .ref (ad 20 0), .ref (ad 21 0), .ref (ad 22 0), .ref (ad 23 0), .ref (ad 24 0), .int (jB b0), .ref (ad 25 0)])))) rfl ?_
      refine s_aload_n dX4_alike_25 rfl ?_
      refine s_get (kd := 12) (ix := 0) (ci := 5) (fs := [.int 1, .int (nI t0), .ref (ad 13 0), .ref (ad 14 0), .ref (ad 15 0), .ref (ad 16 0), .ref (ad 17 0), .ref (ad 18 0), .int (nI r0), .ref (ad 19 0), .ref (ad 20 0), .ref (ad 21 0), .ref (ad 22 0), .ref (ad 23 0), .ref (ad 24 0), .int (jB b0), .ref (ad 25 0)])  (sset_self _ _ _ _) rfl in_X4_alike_X4 0 (by decide) (by decide +kernel) rfl rfl dX4_alike_26 ?_
      refine s_if_le 34 dX4_alike_29 (by decide) (fun c29 => absurd c29 (by decide)) (fun c29 => ?_)
      refine s_iconst (v := 0) dX4_alike_32 (by decide) ?_
      exact s_iret rfl (rfl) dX4_alike_33 (Nat.le_of_ble_eq_true rfl) (Nat.le_of_ble_eq_true rfl) (⟨rfl, (sSame.rfl |>.set (P := pMd) (by simp [pMd]) _), ⟨(1, t0, hd, on, tw, dp, cl, gr, r0, kd, fl, co, sm, wk, sp, b0, mu), ⟨(sset_self _ _ _ _), ((sset_k _ _ (by decide)).trans (hm.2.1)), ((sset_k _ _ (by decide)).trans (hm.2.2.1)), ((sset_k _ _ (by decide)).trans (hm.2.2.2.1)), ((sset_k _ _ (by decide)).trans (hm.2.2.2.2.1)), ((sset_k _ _ (by decide)).trans (hm.2.2.2.2.2.1)), ((sset_k _ _ (by decide)).trans (hm.2.2.2.2.2.2.1)), ((sset_k _ _ (by decide)).trans (hm.2.2.2.2.2.2.2.1)), ((sset_k _ _ (by decide)).trans (hm.2.2.2.2.2.2.2.2.1)), ((sset_k _ _ (by decide)).trans (hm.2.2.2.2.2.2.2.2.2.1)), ((sset_k _ _ (by decide)).trans (hm.2.2.2.2.2.2.2.2.2.2.1)), ((sset_k _ _ (by decide)).trans (hm.2.2.2.2.2.2.2.2.2.2.2.1)), ((sset_k _ _ (by decide)).trans (hm.2.2.2.2.2.2.2.2.2.2.2.2.1)), ((sset_k _ _ (by decide)).trans (hm.2.2.2.2.2.2.2.2.2.2.2.2.2))⟩, rfl, hI.any _ _ _ _ _⟩, _, rfl, fun q => absurd q (by decide)⟩)
    · obtain ⟨jb, hjb, rfl⟩ := (hzb.mp (Bool.of_not_eq_false (fun q => c14 (jB_0.mpr q))))
      obtain ⟨ja, hja, rfl⟩ := (hza.mp (Bool.of_not_eq_false (fun q => c6 (jB_0.mpr q))))
      obtain ⟨rfl, rfl⟩ := alR.c0 hA hrel hja hjb
      refine s_iconst (v := 0) dX4_alike_17 (by decide) ?_
      refine s_goto 22 dX4_alike_18 (by decide) ?_
      refine s_put (kd := 12) (ix := 0) (ci := 5) (v := .int 0) (ty := tyX4 0) (fs := [.int c0, .int (nI t0), .ref (ad 13 0), .ref (ad 14 0), .ref (ad 15 0), .ref (ad 16 0), .ref (ad 17 0), .ref (ad 18 0), .int (nI r0), .ref (ad 19 0), .ref (ad 20 0), .ref (ad 21 0), .ref (ad 22 0), .ref (ad 23 0), .ref (ad 24 0), .int (jB b0), .ref (ad 25 0)])  tyX4 tyX4_ok nmX4 hm.1 rfl in_X4_alike_X4 0 (by decide) (by decide +kernel) rfl rfl (tyX4_ok 0 (by decide)) (rfl) (rfl) (Nat.le_of_ble_eq_true rfl) dX4_alike_22 ?_
      refine s_M (M' := (sset M 12 0 (.inr (5, [.int 0, .int (nI t0), .ref (ad 13 0), .ref (ad 14 0), .ref (ad 15 0), .ref (ad 16 0), .ref (ad 17 0), .ref (ad 18 0), .int (nI r0), .ref (ad 19 0), .ref (ad 20 0), .ref (ad 21 0), .ref (ad 22 0), .ref (ad 23 0), .ref (ad 24 0), .int (jB b0), .ref (ad 25 0)])))) rfl ?_
      refine s_aload_n dX4_alike_25 rfl ?_
      refine s_get (kd := 12) (ix := 0) (ci := 5) (fs := [.int 0, .int (nI t0), .ref (ad 13 0), .ref (ad 14 0), .ref (ad 15 0), .ref (ad 16 0), .ref (ad 17 0), .ref (ad 18 0), .int (nI r0), .ref (ad 19 0), .ref (ad 20 0), .ref (ad 21 0), .ref (ad 22 0), .ref (ad 23 0), .ref (ad 24 0), .int (jB b0), .ref (ad 25 0)])  (sset_self _ _ _ _) rfl in_X4_alike_X4 0 (by decide) (by decide +kernel) rfl rfl dX4_alike_26 ?_
      refine s_if_le 34 dX4_alike_29 (by decide) (fun c29 => ?_) (fun c29 => absurd (by decide) c29)
      refine s_iconst (v := 0) dX4_alike_34 (by decide) ?_
      refine s_istore_n dX4_alike_35 rfl rfl ?_
      refine s_lv (lv' := [some (.ref (ad 12 0)), some (.int (nI ja)), some (.int (nI jb)), some (.int 0), none]) rfl ?_
      refine l_al0 X G ad M 0 t0 hd on tw dp cl gr r0 kd fl co sm wk sp b0 ja jb _ (fun M51 mu51  hm51 hs51 hv51 => ?_) (14400) 0 (sset M 12 0 (.inr (5, [.int 0, .int (nI t0), .ref (ad 13 0), .ref (ad 14 0), .ref (ad 15 0), .ref (ad 16 0), .ref (ad 17 0), .ref (ad 18 0), .int (nI r0), .ref (ad 19 0), .ref (ad 20 0), .ref (ad 21 0), .ref (ad 22 0), .ref (ad 23 0), .ref (ad 24 0), .int (jB b0), .ref (ad 25 0)]))) mu  (by omega) ⟨(sset_self _ _ _ _), ((sset_k _ _ (by decide)).trans (hm.2.1)), ((sset_k _ _ (by decide)).trans (hm.2.2.1)), ((sset_k _ _ (by decide)).trans (hm.2.2.2.1)), ((sset_k _ _ (by decide)).trans (hm.2.2.2.2.1)), ((sset_k _ _ (by decide)).trans (hm.2.2.2.2.2.1)), ((sset_k _ _ (by decide)).trans (hm.2.2.2.2.2.2.1)), ((sset_k _ _ (by decide)).trans (hm.2.2.2.2.2.2.2.1)), ((sset_k _ _ (by decide)).trans (hm.2.2.2.2.2.2.2.2.1)), ((sset_k _ _ (by decide)).trans (hm.2.2.2.2.2.2.2.2.2.1)), ((sset_k _ _ (by decide)).trans (hm.2.2.2.2.2.2.2.2.2.2.1)), ((sset_k _ _ (by decide)).trans (hm.2.2.2.2.2.2.2.2.2.2.2.1)), ((sset_k _ _ (by decide)).trans (hm.2.2.2.2.2.2.2.2.2.2.2.2.1)), ((sset_k _ _ (by decide)).trans (hm.2.2.2.2.2.2.2.2.2.2.2.2.2))⟩ (sSame.rfl |>.set (P := pMd) (by simp [pMd]) _) (fun k hk => absurd hk (Nat.not_lt_zero k))
      refine s_aload_n dX4_alike_56 rfl ?_
      refine s_get (kd := 12) (ix := 0) (ci := 5) (fs := [.int 0, .int (nI t0), .ref (ad 13 0), .ref (ad 14 0), .ref (ad 15 0), .ref (ad 16 0), .ref (ad 17 0), .ref (ad 18 0), .int (nI r0), .ref (ad 19 0), .ref (ad 20 0), .ref (ad 21 0), .ref (ad 22 0), .ref (ad 23 0), .ref (ad 24 0), .int (jB b0), .ref (ad 25 0)])  hm51.1 rfl in_X4_alike_X4 16 (by decide) (by decide +kernel) rfl rfl dX4_alike_57 ?_
      refine s_bipush (v := 120) dX4_alike_60 (by decide) ?_
      refine s_iload_n dX4_alike_62 rfl ?_
      refine s_imul dX4_alike_63 ?_
      refine s_eqi (y := nI (120 * ja)) (nI_mul 120 ja) ?_
      refine s_iload_n dX4_alike_64 rfl ?_
      refine s_iadd dX4_alike_65 ?_
      refine s_eqi (y := nI (120 * ja + jb)) (nI_add _ _) ?_
      refine s_iconst (v := 1) dX4_alike_66 (by decide) ?_
      refine s_zast (kd := 25) (ix := 0) (n := 14400) (f := mu51) (j := 120 * ja + jb) (x := 1) hm51.2.2.2.2.2.2.2.2.2.2.2.2.2 (rfl) (rfl) (by omega) (by decide) dX4_alike_67 ?_
      refine s_iload_n dX4_alike_68 rfl ?_
      refine s_istore_n dX4_alike_69 rfl rfl ?_
      refine s_lv (lv' := [some (.ref (ad 12 0)), some (.int (nI ja)), some (.int (nI jb)), some (.int (nI ja)), none]) rfl ?_
      refine s_lv (lv' := [some (.ref (ad 12 0)), some (.int (nI ja)), some (.int (nI jb)), some (.int (dn (ja + 1))), none]) rfl ?_
      exact l_alO X G ad M 0 t0 hd on tw dp cl gr r0 kd fl co sm wk sp b0 α hA ja jb hja hjb rfl (fun mu => hI.any _ _ _ _ _) (ja + 1) (sset M51 25 0 (.inl (gZ G, 14400, .inl (upd mu51 (120 * ja + jb) 1)))) (upd mu51 (120 * ja + jb) 1) (Nat.le_refl _) ⟨((sset_k _ _ (by decide)).trans (hm51.1)), ((sset_k _ _ (by decide)).trans (hm51.2.1)), ((sset_k _ _ (by decide)).trans (hm51.2.2.1)), ((sset_k _ _ (by decide)).trans (hm51.2.2.2.1)), ((sset_k _ _ (by decide)).trans (hm51.2.2.2.2.1)), ((sset_k _ _ (by decide)).trans (hm51.2.2.2.2.2.1)), ((sset_k _ _ (by decide)).trans (hm51.2.2.2.2.2.2.1)), ((sset_k _ _ (by decide)).trans (hm51.2.2.2.2.2.2.2.1)), ((sset_k _ _ (by decide)).trans (hm51.2.2.2.2.2.2.2.2.1)), ((sset_k _ _ (by decide)).trans (hm51.2.2.2.2.2.2.2.2.2.1)), ((sset_k _ _ (by decide)).trans (hm51.2.2.2.2.2.2.2.2.2.2.1)), ((sset_k _ _ (by decide)).trans (hm51.2.2.2.2.2.2.2.2.2.2.2.1)), ((sset_k _ _ (by decide)).trans (hm51.2.2.2.2.2.2.2.2.2.2.2.2.1)), (sset_self _ _ _ _)⟩ (hs51 |>.set (P := pMd) (by simp [pMd]) _) (alI.start hv51 (by omega) (by omega))
