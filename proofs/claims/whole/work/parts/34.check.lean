/-- the base as the class keeps it -/
def XB (μ : Mm) : Prop := Bas (Nt μ 0) ∧ μ 11 0 0 ≤ 14 ∧ μ 11 0 1 ≤ 14 ∧ μ 13 0 (μ 11 0 1) ≤ 84
theorem XB.nb {μ : Mm} (h : XB μ) : NB1 μ 0 := by
  have g := h.1.2.1
  have e1 : capC 0 = 14 := rfl
  have e2 : capP 0 = 14 := rfl
  have e3 : capE 0 = 42 := rfl
  have h2 := h.2
  refine ⟨⟨h.1.1, by omega⟩, ⟨g.1, by omega⟩, ⟨g.n0, by omega⟩, fun f h0 h1 => ?_, fun s h0 h1 => ⟨h.1.2.2 s h0 h1, g.2.2.2 s h0 h1⟩⟩
  have a := g.2.2.1 f h0 h1
  have b := g.le (f := f) h0 (Int.le_of_lt h1)
  have c := g.le (f := f + 1) (by omega) h1
  have a : μ 13 0 f + 3 ≤ μ 13 0 (f + 1) := a
  have b : 0 ≤ μ 13 0 f ∧ _ := b
  have c : 0 ≤ μ 13 0 (f + 1) ∧ μ 13 0 (f + 1) ≤ μ 13 0 (μ 11 0 1) := c
  exact ⟨b.1, by omega, c.2⟩
def FN (p : Int → Prop) (N v : Int) : Prop := (v = -1 ∧ No p N) ∨ Fi p N v
abbrev QF (p : Int → Prop) (N : Int) (μ : Mm) : Option Vv → Mm → Prop := fun r μ' => μ' = μ ∧ ∃ v, r = some (vI v) ∧ FN p N v
/-- no more edges than half the steps -/
theorem cE_half {bk : Int → Int} {n : Int} (h0 : 0 ≤ n) (hb : ∀ s, 0 ≤ s → s < n → (0 ≤ bk s ∧ bk s < n) ∧ bk (bk s) = s ∧ bk s ≠ s) : 2 * cE bk n ≤ n := by
  have h1 := ct_add (p := fm bk) (q := fun s => ¬ fm bk s) (r := fun _ => True) n.toNat (fun i _ _ => ⟨⟨fun _ => Classical.em _, fun _ => trivial⟩, fun z => z.2 z.1⟩)
  rw [ct_full (p := fun _ => True) n.toNat (fun _ _ _ => trivial)] at h1
  have key : ∀ e : Nat, ∃ s : Int, e < ct (fm bk) n.toNat → (0 ≤ s ∧ s < n) ∧ fm bk s ∧ cE bk s = e := by
    intro e
    by_cases he : e < ct (fm bk) n.toNat
    · obtain ⟨s, a, b, c⟩ := ct_surj (p := fm bk) n.toNat e he
      exact ⟨s, fun _ => ⟨by omega, b, by unfold cE; rw [Int.toNat_natCast, c]⟩⟩
    · exact ⟨0, fun z => absurd z he⟩
  have hu := ct_inj (p := fun s => ¬ fm bk s) n.toNat (ct (fm bk) n.toNat) (fun e => bk (Classical.choose (key e))) (fun e he => by
    have a := Classical.choose_spec (key e) he
    have b := hb _ a.1.1 a.1.2
    refine ⟨by omega, ?_⟩
    generalize Classical.choose (key e) = x at a b
    have c : ¬ bk x < x := a.2.1
    exact fun z => (show ¬ bk (bk x) < bk x from z) (by rw [b.2.1]; omega)) (fun e e' he he' q => by
    have a := Classical.choose_spec (key e) he
    have a' := Classical.choose_spec (key e') he'
    have b := hb _ a.1.1 a.1.2
    have b' := hb _ a'.1.1 a'.1.2
    have q : bk (Classical.choose (key e)) = bk (Classical.choose (key e')) := q
    have z := b.2.1
    rw [q, b'.2.1] at z
    have x := a.2.2
    rw [← z, a'.2.2] at x
    omega)
  unfold cE
  omega

set_option maxRecDepth 100000 in
set_option maxHeartbeats 4000000 in
theorem c_tellsN {μ : Mm} (k : Int) : Mc mX0_tells 0 [vR 5 0, vI k, vI (-1)] μ (Rt (some (vI 0)) μ) := by
  refine Mc.of (L := [some (vR 5 0), some (vI k), some (vI (-1))]) (by decide +kernel) (by simp [leL, entA, isLong, mX0_tells]) (by simp [entA, isLong, mX0_tells]) ?_
  refine e_iload_n 2 (dec_at dX0_tells 0) rfl rfl ?_
  refine e_iconst (dec_at dX0_tells 1) ?_
  refine e_icmp_ne 7 (dec_at dX0_tells 2) (by decide) (by decide) (by decide) (fun h2 => ?_) (fun h2 => ?_)
  · exact absurd rfl h2
  · refine e_iconst (dec_at dX0_tells 3) ?_
    refine e_zreturn (dec_at dX0_tells 4) rfl (by first | exact Or.inl rfl | exact Or.inr rfl | exact b01_or) ?_
    exact ⟨rfl, rfl⟩

set_option maxRecDepth 100000 in
set_option maxHeartbeats 4000000 in
theorem c_tellsY {μ : Mm} (k w : Int) (hk : inR k) (hw : inR w) (hn : w ≠ -1) : Mc mX0_tells 0 [vR 5 0, vI k, vI w] μ (Rt (some (vI 1)) (mset (mset μ 5 0 1 k) 5 0 2 w)) := by
  refine Mc.of (L := [some (vR 5 0), some (vI k), some (vI w)]) (by decide +kernel) (by simp [leL, entA, isLong, mX0_tells]) (by simp [entA, isLong, mX0_tells]) ?_
  refine e_iload_n 2 (dec_at dX0_tells 0) rfl rfl ?_
  refine e_iconst (dec_at dX0_tells 1) ?_
  refine e_icmp_ne 7 (dec_at dX0_tells 2) (by decide) (by omega) (by omega) (fun h2 => ?_) (fun h2 => ?_)
  · refine e_aload_n 0 (dec_at dX0_tells 5) rfl rfl ?_
    refine e_iload_n 1 (dec_at dX0_tells 6) rfl rfl ?_
    refine e_put 1 1 (dec_at dX0_tells 7) flX0_15 fpX0_1 rfl rfl rfl (by omega) (fit_int _) ?_
    refine e_aload_n 0 (dec_at dX0_tells 8) rfl rfl ?_
    refine e_iload_n 2 (dec_at dX0_tells 9) rfl rfl ?_
    refine e_put 2 2 (dec_at dX0_tells 10) flX0_19 fpX0_2 rfl rfl rfl (by omega) (fit_int _) ?_
    refine e_iconst (dec_at dX0_tells 11) ?_
    refine e_zreturn (dec_at dX0_tells 12) rfl (by first | exact Or.inl rfl | exact Or.inr rfl | exact b01_or) ?_
    exact ⟨rfl, rfl⟩
  · exact absurd h2 hn

set_option maxRecDepth 100000 in
set_option maxHeartbeats 4000000 in
theorem l_twice3 {μ : Mm} {f s : Int} (h : XB μ) (hf0 : 0 ≤ f) (hf1 : f < μ 11 0 1) (hs0 : μ 13 0 f ≤ s) (hs1 : s < μ 13 0 (f + 1)) (hno : ∀ g, 0 ≤ g → g < f → ¬ fTw (Nt μ 0) g) : ∀ (q : Nat) (t : Int), (s - t).toNat = q → μ 13 0 f ≤ t → t ≤ s → (∀ j, μ 13 0 f ≤ j → j < t → μ 14 0 s ≠ μ 14 0 j) → ((∀ j, μ 13 0 f ≤ j → j < s → μ 14 0 s ≠ μ 14 0 j) → Ev mX0_plateWithTwice 0 67 [some (vR 5 0), some (vR 11 0), some (vI f), some (vI s), none] [] μ (QF (fTw (Nt μ 0)) (μ 11 0 1) μ)) → Ev mX0_plateWithTwice 0 37 [some (vR 5 0), some (vR 11 0), some (vI f), some (vI s), some (vI t)] [] μ (QF (fTw (Nt μ 0)) (μ 11 0 1) μ) := by
  intro q
  induction q using Nat.strongRecOn with
  | _ q ih =>
  intro t hq h0 h1 hi K
  have nb := h.nb
  have hP := nb.2.1
  have hC := nb.1
  have hn := nb.2.2.1
  have h2 := h.2
  have e1 : capC 0 = 14 := rfl
  have e2 : capP 0 = 14 := rfl
  have e3 : capE 0 = 42 := rfl
  have hf := nb.2.2.2.1 f hf0 hf1
  refine e_iload (dec_at dX0_plateWithTwice 24) rfl ?_
  refine e_iload_n 3 (dec_at dX0_plateWithTwice 25) rfl rfl ?_
  refine e_icmp_ge 67 (dec_at dX0_plateWithTwice 26) (by decide) (by omega) (by omega) (fun h40 => ?_) (fun h40 => ?_)
  · exact e_le [some (vR 5 0), some (vR 11 0), some (vI f), some (vI s), none] (by simp [leL]) (K (fun j a b => hi j a (by omega)))
  · refine e_aload_n 1 (dec_at dX0_plateWithTwice 27) rfl rfl ?_
    refine e_getr 5 (dec_at dX0_plateWithTwice 28) flX0_57 rfl rfl ?_
    refine e_iload_n 3 (dec_at dX0_plateWithTwice 29) rfl rfl ?_
    refine e_iald (dec_at dX0_plateWithTwice 30) rfl (by decide) (aLk_14 _) (by omega) (fun r48 => ?_)
    refine e_aload_n 1 (dec_at dX0_plateWithTwice 31) rfl rfl ?_
    refine e_getr 5 (dec_at dX0_plateWithTwice 32) flX0_57 rfl rfl ?_
    refine e_iload (dec_at dX0_plateWithTwice 33) rfl ?_
    refine e_iald (dec_at dX0_plateWithTwice 34) rfl (by decide) (aLk_14 _) (by omega) (fun r55 => ?_)
    refine e_icmp_ne 61 (dec_at dX0_plateWithTwice 35) (by decide) (by omega) (by omega) (fun h56 => ?_) (fun h56 => ?_)
    · refine e_ii4 (dec_at dX0_plateWithTwice 38) (by decide) rfl ?_
      refine e_goto 37 (dec_at dX0_plateWithTwice 39) (by decide) ?_
      refine ih _ (by omega) (t + 1) rfl (by omega) (by omega) (fun j a b => ?_) K
      by_cases q : j = t
      · subst q; exact h56
      · exact hi j a (by omega)
    · refine e_iload_n 2 (dec_at dX0_plateWithTwice 36) rfl rfl ?_
      refine e_ireturn (dec_at dX0_plateWithTwice 37) rfl ?_
      refine ⟨rfl, f, rfl, Or.inr ⟨⟨hf0, hf1⟩, ⟨s, t, ?_⟩, hno⟩⟩
      show μ 13 0 f ≤ t ∧ t < s ∧ s < μ 13 0 (f + 1) ∧ μ 14 0 s = μ 14 0 t
      exact ⟨by omega, by omega, by omega, by omega⟩

set_option maxRecDepth 100000 in
set_option maxHeartbeats 4000000 in
theorem l_twice2 {μ : Mm} {f : Int} (h : XB μ) (hf0 : 0 ≤ f) (hf1 : f < μ 11 0 1) (hno : ∀ g, 0 ≤ g → g < f → ¬ fTw (Nt μ 0) g) : ∀ (q : Nat) (s : Int), (μ 13 0 (f + 1) - s).toNat = q → μ 13 0 f ≤ s → s ≤ μ 13 0 (f + 1) → (∀ j i, μ 13 0 f ≤ i → i < j → j < s → μ 14 0 j ≠ μ 14 0 i) → ((∀ j i, μ 13 0 f ≤ i → i < j → j < μ 13 0 (f + 1) → μ 14 0 j ≠ μ 14 0 i) → Ev mX0_plateWithTwice 0 73 [some (vR 5 0), some (vR 11 0), some (vI f), none, none] [] μ (QF (fTw (Nt μ 0)) (μ 11 0 1) μ)) → Ev mX0_plateWithTwice 0 17 [some (vR 5 0), some (vR 11 0), some (vI f), some (vI s), none] [] μ (QF (fTw (Nt μ 0)) (μ 11 0 1) μ) := by
  intro q
  induction q using Nat.strongRecOn with
  | _ q ih =>
  intro s hq h0 h1 hi K
  have nb := h.nb
  have hP := nb.2.1
  have hC := nb.1
  have hn := nb.2.2.1
  have h2 := h.2
  have e1 : capC 0 = 14 := rfl
  have e2 : capP 0 = 14 := rfl
  have e3 : capE 0 = 42 := rfl
  have hf := nb.2.2.2.1 f hf0 hf1
  refine e_iload_n 3 (dec_at dX0_plateWithTwice 11) rfl rfl ?_
  refine e_aload_n 1 (dec_at dX0_plateWithTwice 12) rfl rfl ?_
  refine e_getr 4 (dec_at dX0_plateWithTwice 13) flX0_54 rfl rfl ?_
  refine e_iload_n 2 (dec_at dX0_plateWithTwice 14) rfl rfl ?_
  refine e_iconst (dec_at dX0_plateWithTwice 15) ?_
  refine e_iadd (dec_at dX0_plateWithTwice 16) ?_
  refine e_iald (dec_at dX0_plateWithTwice 17) rfl (by decide) (aLk_13 _) (by omega) (fun r25 => ?_)
  refine e_icmp_ge 73 (dec_at dX0_plateWithTwice 18) (by decide) (by omega) (by omega) (fun h26 => ?_) (fun h26 => ?_)
  · exact e_le [some (vR 5 0), some (vR 11 0), some (vI f), none, none] (by simp [leL]) (K (fun j i a b c => hi j i a b (by omega)))
  · refine e_aload_n 1 (dec_at dX0_plateWithTwice 19) rfl rfl ?_
    refine e_getr 4 (dec_at dX0_plateWithTwice 20) flX0_54 rfl rfl ?_
    refine e_iload_n 2 (dec_at dX0_plateWithTwice 21) rfl rfl ?_
    refine e_iald (dec_at dX0_plateWithTwice 22) rfl (by decide) (aLk_13 _) (by omega) (fun r34 => ?_)
    refine e_is4 (dec_at dX0_plateWithTwice 23) (by decide) rfl ?_
    refine l_twice3 h hf0 hf1 h0 (by omega) hno _ _ rfl (by omega) (by omega) (fun j a b => by omega) (fun hx => ?_)
    refine e_ii3 (dec_at dX0_plateWithTwice 40) (by decide) rfl ?_
    refine e_goto 17 (dec_at dX0_plateWithTwice 41) (by decide) ?_
    refine ih _ (by omega) (s + 1) rfl (by omega) (by omega) (fun j i a b c => ?_) K
    by_cases q : j = s
    · subst q; exact hx i a b
    · exact hi j i a b (by omega)

set_option maxRecDepth 100000 in
set_option maxHeartbeats 4000000 in
theorem l_twice1 {μ : Mm} (h : XB μ) : ∀ (q : Nat) (f : Int), (μ 11 0 1 - f).toNat = q → 0 ≤ f → f ≤ μ 11 0 1 → (∀ g, 0 ≤ g → g < f → ¬ fTw (Nt μ 0) g) → Ev mX0_plateWithTwice 0 2 [some (vR 5 0), some (vR 11 0), some (vI f), none, none] [] μ (QF (fTw (Nt μ 0)) (μ 11 0 1) μ) := by
  intro q
  induction q using Nat.strongRecOn with
  | _ q ih =>
  intro f hq h0 h1 hno
  have nb := h.nb
  have hP := nb.2.1
  have hC := nb.1
  have hn := nb.2.2.1
  have h2 := h.2
  have e1 : capC 0 = 14 := rfl
  have e2 : capP 0 = 14 := rfl
  have e3 : capE 0 = 42 := rfl
  refine e_iload_n 2 (dec_at dX0_plateWithTwice 2) rfl rfl ?_
  refine e_aload_n 1 (dec_at dX0_plateWithTwice 3) rfl rfl ?_
  refine e_geti 1 1 (dec_at dX0_plateWithTwice 4) flX0_22 rfl rfl rfl (fun r4 => ?_)
  refine e_icmp_ge 79 (dec_at dX0_plateWithTwice 5) (by decide) (by omega) (by omega) (fun h7 => ?_) (fun h7 => ?_)
  · refine e_iconst (dec_at dX0_plateWithTwice 44) ?_
    refine e_ireturn (dec_at dX0_plateWithTwice 45) rfl ?_
    exact ⟨rfl, _, rfl, Or.inl ⟨rfl, fun i a b => hno i a (by omega)⟩⟩
  · have hf := nb.2.2.2.1 f h0 (by omega)
    refine e_aload_n 1 (dec_at dX0_plateWithTwice 6) rfl rfl ?_
    refine e_getr 4 (dec_at dX0_plateWithTwice 7) flX0_54 rfl rfl ?_
    refine e_iload_n 2 (dec_at dX0_plateWithTwice 8) rfl rfl ?_
    refine e_iald (dec_at dX0_plateWithTwice 9) rfl (by decide) (aLk_13 _) (by omega) (fun r15 => ?_)
    refine e_is3 (dec_at dX0_plateWithTwice 10) (by decide) rfl ?_
    refine l_twice2 h h0 (by omega) hno _ _ rfl (by omega) (by omega) (fun j i a b c => by omega) (fun hx => ?_)
    refine e_ii2 (dec_at dX0_plateWithTwice 42) (by decide) rfl ?_
    refine e_goto 2 (dec_at dX0_plateWithTwice 43) (by decide) ?_
    refine ih _ (by omega) (f + 1) rfl (by omega) (by omega) (fun g a b => ?_)
    by_cases q : g = f
    · subst q
      rintro ⟨s, t, x, y, z, w⟩
      exact hx s t x y z w
    · exact hno g a (by omega)

set_option maxRecDepth 100000 in
set_option maxHeartbeats 4000000 in
theorem c_twice {μ : Mm} (h : XB μ) : Mc mX0_plateWithTwice 0 [vR 5 0, vR 11 0] μ (QF (fTw (Nt μ 0)) (μ 11 0 1) μ) := by
  refine Mc.of (L := [some (vR 5 0), some (vR 11 0), none, none, none]) (by decide +kernel) (by simp [leL, entA, isLong, mX0_plateWithTwice]) (by simp [entA, isLong, mX0_plateWithTwice]) ?_
  have nb := h.nb
  have hP := nb.2.1
  have hC := nb.1
  have hn := nb.2.2.1
  have h2 := h.2
  have e1 : capC 0 = 14 := rfl
  have e2 : capP 0 = 14 := rfl
  have e3 : capE 0 = 42 := rfl
  refine e_iconst (dec_at dX0_plateWithTwice 0) ?_
  refine e_is2 (dec_at dX0_plateWithTwice 1) (by decide) rfl ?_
  exact l_twice1 h _ _ rfl (by omega) (by omega) (fun g a b => by omega)

set_option maxRecDepth 100000 in
set_option maxHeartbeats 4000000 in
theorem l_ringLength {μ : Mm} {x m : Int} (h : XB μ) (hb : ∀ s, 0 ≤ s → s < μ 13 0 (μ 11 0 1) → 0 ≤ μ 16 0 s ∧ μ 16 0 s < μ 13 0 (μ 11 0 1)) (hx0 : 0 ≤ x) (hx1 : x < μ 13 0 (μ 11 0 1)) (hm : inR m) : ∀ (q : Nat) (k : Int) (u : Int), (m - k).toNat = q → 1 ≤ k → inR k → 0 ≤ u ∧ u < μ 13 0 (μ 11 0 1) → u = it (rho (Nt μ 0)) (k - 1).toNat x → (∀ j : Nat, 0 < j → j < k → it (rho (Nt μ 0)) j x ≠ x) → Ev mX0_ringLength 1 6 [some (vR 5 0), some (vR 11 0), some (vI x), some (vI m), some (vI u), some (vI k)] [] μ (fun r μ' => μ' = μ ∧ ∃ v, r = some (vI v) ∧ inR v ∧ (v < m ↔ ∃ k : Nat, 0 < k ∧ k < m ∧ it (rho (Nt μ 0)) k x = x)) := by
  intro q
  induction q using Nat.strongRecOn with
  | _ q ih =>
  intro k u hq h0 h1 hu0 hu hi
  have nb := h.nb
  have hP := nb.2.1
  have hC := nb.1
  have hn := nb.2.2.1
  have h2 := h.2
  have e1 : capC 0 = 14 := rfl
  have e2 : capP 0 = 14 := rfl
  have e3 : capE 0 = 42 := rfl
  refine e_iload (dec_at dX0_ringLength 4) rfl ?_
  refine e_iload_n 3 (dec_at dX0_ringLength 5) rfl rfl ?_
  refine e_icmp_ge 40 (dec_at dX0_ringLength 6) (by decide) (by omega) (by omega) (fun h9 => ?_) (fun h9 => ?_)
  · refine e_iload_n 3 (dec_at dX0_ringLength 21) rfl rfl ?_
    refine e_ireturn (dec_at dX0_ringLength 22) rfl ?_
    refine ⟨rfl, m, rfl, hm, ⟨fun z => by omega, ?_⟩⟩
    rintro ⟨j, a, b, c⟩
    exact absurd c (hi j a (by omega))
  · have hpv := h.1.2.1.pvr hu0.1 hu0.2
    have hpv1 : 0 ≤ pv (Nt μ 0) u ∧ pv (Nt μ 0) u < μ 13 0 (μ 11 0 1) := hpv.1
    have hb1 := hb _ hpv1.1 hpv1.2
    have hit : μ 16 0 (pv (Nt μ 0) u) = it (rho (Nt μ 0)) k.toNat x := by
      obtain ⟨j, hj⟩ : ∃ j : Nat, k = (j : Int) + 1 := ⟨(k - 1).toNat, by omega⟩
      rw [show k.toNat = j + 1 by omega]
      rw [show (k - 1).toNat = j by omega] at hu
      rw [hu]
      rfl
    refine e_aload_n 1 (dec_at dX0_ringLength 7) rfl rfl ?_
    refine e_getr 7 (dec_at dX0_ringLength 8) flX0_71 rfl rfl ?_
    refine e_aload_n 1 (dec_at dX0_ringLength 9) rfl rfl ?_
    refine e_iload (dec_at dX0_ringLength 10) rfl ?_
    refine e_callVr (M' := mX2_stepBefore) (dec_at dX0_ringLength 11) mlX0_87 ((c_stepBefore (μ := μ) 0 u nb hu0.1 hu0.2).rt (r' := some (vI (pv (Nt μ 0) u))) rfl rfl) oX2_stepBefore iX2_stepBefore rfl rfl rfl rfl (by decide) (by decide) (Nat.le_of_ble_eq_true rfl) ?_
    refine e_iald (dec_at dX0_ringLength 12) rfl (by decide) (aLk_16 _) (by omega) (fun r22 => ?_)
    refine e_is4 (dec_at dX0_ringLength 13) (by decide) rfl ?_
    refine e_iload (dec_at dX0_ringLength 14) rfl ?_
    refine e_iload_n 2 (dec_at dX0_ringLength 15) rfl rfl ?_
    refine e_icmp_ne 34 (dec_at dX0_ringLength 16) (by decide) (by omega) (by omega) (fun h28 => ?_) (fun h28 => ?_)
    · refine e_ii5 (dec_at dX0_ringLength 19) (by decide) rfl ?_
      refine e_goto 6 (dec_at dX0_ringLength 20) (by decide) ?_
      refine ih _ (by omega) (k + 1) _ rfl (by omega) (by omega) hb1 (by rw [show k + 1 - 1 = k by omega]; exact hit) (fun j a b => ?_)
      by_cases q : (j : Int) = k
      · intro z
        rw [show j = k.toNat by omega, ← hit] at z
        exact h28 z
      · exact hi j a (by omega)
    · refine e_iload (dec_at dX0_ringLength 17) rfl ?_
      refine e_ireturn (dec_at dX0_ringLength 18) rfl ?_
      refine ⟨rfl, k, rfl, h1, ⟨fun _ => ⟨k.toNat, by omega, by omega, ?_⟩, fun _ => by omega⟩⟩
      rw [← hit]
      exact h28

set_option maxRecDepth 100000 in
set_option maxHeartbeats 4000000 in
theorem c_ringLength {μ : Mm} (x m : Int) (h : XB μ) (hb : ∀ s, 0 ≤ s → s < μ 13 0 (μ 11 0 1) → 0 ≤ μ 16 0 s ∧ μ 16 0 s < μ 13 0 (μ 11 0 1)) (hx0 : 0 ≤ x) (hx1 : x < μ 13 0 (μ 11 0 1)) (hm : inR m) : Mc mX0_ringLength 1 [vR 5 0, vR 11 0, vI x, vI m] μ (fun r μ' => μ' = μ ∧ ∃ v, r = some (vI v) ∧ inR v ∧ (v < m ↔ ∃ k : Nat, 0 < k ∧ k < m ∧ it (rho (Nt μ 0)) k x = x)) := by
  refine Mc.of (L := [some (vR 5 0), some (vR 11 0), some (vI x), some (vI m), none, none]) (by decide +kernel) (by simp [leL, entA, isLong, mX0_ringLength]) (by simp [entA, isLong, mX0_ringLength]) ?_
  have nb := h.nb
  have hP := nb.2.1
  have hC := nb.1
  have hn := nb.2.2.1
  have h2 := h.2
  have e1 : capC 0 = 14 := rfl
  have e2 : capP 0 = 14 := rfl
  have e3 : capE 0 = 42 := rfl
  refine e_iload_n 2 (dec_at dX0_ringLength 0) rfl rfl ?_
  refine e_is4 (dec_at dX0_ringLength 1) (by decide) rfl ?_
  refine e_iconst (dec_at dX0_ringLength 2) ?_
  refine e_is5 (dec_at dX0_ringLength 3) (by decide) rfl ?_
  exact l_ringLength h hb hx0 hx1 hm _ 1 x rfl (by omega) (by omega) ⟨hx0, hx1⟩ rfl (fun j a b => by omega)

set_option maxRecDepth 100000 in
set_option maxHeartbeats 4000000 in
theorem l_ofDegree {μ : Mm} {w : Int} (h : XB μ) (hw : inR w) : ∀ (q : Nat) (c : Int), (μ 11 0 0 - c).toNat = q → 0 ≤ c → c ≤ μ 11 0 0 → (∀ j, 0 ≤ j → j < c → ¬ μ 19 0 j = w) → Ev mX0_cornerOfDegree 0 2 [some (vR 5 0), some (vR 11 0), some (vI w), some (vI c)] [] μ (QF (fun c => μ 19 0 c = w) (μ 11 0 0) μ) := by
  intro q
  induction q using Nat.strongRecOn with
  | _ q ih =>
  intro c hq h0 h1 hi
  have nb := h.nb
  have hP := nb.2.1
  have hC := nb.1
  have hn := nb.2.2.1
  have h2 := h.2
  have e1 : capC 0 = 14 := rfl
  have e2 : capP 0 = 14 := rfl
  have e3 : capE 0 = 42 := rfl
  refine e_iload_n 3 (dec_at dX0_cornerOfDegree 2) rfl rfl ?_
  refine e_aload_n 1 (dec_at dX0_cornerOfDegree 3) rfl rfl ?_
  refine e_geti 0 0 (dec_at dX0_cornerOfDegree 4) flX0_74 rfl rfl rfl (fun r4 => ?_)
  refine e_icmp_ge 28 (dec_at dX0_cornerOfDegree 5) (by decide) (by omega) (by omega) (fun h7 => ?_) (fun h7 => ?_)
  · refine e_iconst (dec_at dX0_cornerOfDegree 16) ?_
    refine e_ireturn (dec_at dX0_cornerOfDegree 17) rfl ?_
    exact ⟨rfl, _, rfl, Or.inl ⟨rfl, fun i a b => hi i a (by omega)⟩⟩
  · refine e_aload_n 1 (dec_at dX0_cornerOfDegree 6) rfl rfl ?_
    refine e_getr 10 (dec_at dX0_cornerOfDegree 7) flX0_77 rfl rfl ?_
    refine e_iload_n 3 (dec_at dX0_cornerOfDegree 8) rfl rfl ?_
    refine e_iald (dec_at dX0_cornerOfDegree 9) rfl (by decide) (aLk_19 _) (by omega) (fun r15 => ?_)
    refine e_iload_n 2 (dec_at dX0_cornerOfDegree 10) rfl rfl ?_
    refine e_icmp_ne 22 (dec_at dX0_cornerOfDegree 11) (by decide) (by omega) (by omega) (fun h17 => ?_) (fun h17 => ?_)
    · refine e_ii3 (dec_at dX0_cornerOfDegree 14) (by decide) rfl ?_
      refine e_goto 2 (dec_at dX0_cornerOfDegree 15) (by decide) ?_
      refine ih _ (by omega) (c + 1) rfl (by omega) (by omega) (fun j a b => ?_)
      by_cases q : j = c
      · subst q; exact h17
      · exact hi j a (by omega)
    · refine e_iload_n 3 (dec_at dX0_cornerOfDegree 12) rfl rfl ?_
      refine e_ireturn (dec_at dX0_cornerOfDegree 13) rfl ?_
      exact ⟨rfl, c, rfl, Or.inr ⟨⟨h0, by omega⟩, by omega, hi⟩⟩

set_option maxRecDepth 100000 in
set_option maxHeartbeats 4000000 in
theorem c_ofDegree {μ : Mm} (w : Int) (h : XB μ) (hw : inR w) : Mc mX0_cornerOfDegree 0 [vR 5 0, vR 11 0, vI w] μ (QF (fun c => μ 19 0 c = w) (μ 11 0 0) μ) := by
  refine Mc.of (L := [some (vR 5 0), some (vR 11 0), some (vI w), none]) (by decide +kernel) (by simp [leL, entA, isLong, mX0_cornerOfDegree]) (by simp [entA, isLong, mX0_cornerOfDegree]) ?_
  have nb := h.nb
  have hP := nb.2.1
  have hC := nb.1
  have hn := nb.2.2.1
  have h2 := h.2
  have e1 : capC 0 = 14 := rfl
  have e2 : capP 0 = 14 := rfl
  have e3 : capE 0 = 42 := rfl
  refine e_iconst (dec_at dX0_cornerOfDegree 0) ?_
  refine e_is3 (dec_at dX0_cornerOfDegree 1) (by decide) rfl ?_
  exact l_ofDegree h hw _ 0 rfl (by omega) (by omega) (fun j a b => by omega)

set_option maxRecDepth 100000 in
set_option maxHeartbeats 4000000 in
theorem l_pinched {μ : Mm} (h : XB μ) (hb : ∀ s, 0 ≤ s → s < μ 13 0 (μ 11 0 1) → 0 ≤ μ 16 0 s ∧ μ 16 0 s < μ 13 0 (μ 11 0 1)) (hd : ∀ c, 0 ≤ c → c < μ 11 0 0 → 0 ≤ μ 20 0 c ∧ μ 20 0 c < μ 13 0 (μ 11 0 1)) : ∀ (q : Nat) (c : Int), (μ 11 0 0 - c).toNat = q → 0 ≤ c → c ≤ μ 11 0 0 → (∀ j, 0 ≤ j → j < c → ¬ (fun c => ∃ k : Nat, 0 < k ∧ k < μ 19 0 c ∧ it (rho (Nt μ 0)) k (μ 20 0 c) = μ 20 0 c) j) → Ev mX0_cornerPinched 2 2 [some (vR 5 0), some (vR 11 0), some (vI c)] [] μ (QF (fun c => ∃ k : Nat, 0 < k ∧ k < μ 19 0 c ∧ it (rho (Nt μ 0)) k (μ 20 0 c) = μ 20 0 c) (μ 11 0 0) μ) := by
  intro q
  induction q using Nat.strongRecOn with
  | _ q ih =>
  intro c hq h0 h1 hi
  have nb := h.nb
  have hP := nb.2.1
  have hC := nb.1
  have hn := nb.2.2.1
  have h2 := h.2
  have e1 : capC 0 = 14 := rfl
  have e2 : capP 0 = 14 := rfl
  have e3 : capE 0 = 42 := rfl
  refine e_iload_n 2 (dec_at dX0_cornerPinched 2) rfl rfl ?_
  refine e_aload_n 1 (dec_at dX0_cornerPinched 3) rfl rfl ?_
  refine e_geti 0 0 (dec_at dX0_cornerPinched 4) flX0_74 rfl rfl rfl (fun r4 => ?_)
  refine e_icmp_ge 44 (dec_at dX0_cornerPinched 5) (by decide) (by omega) (by omega) (fun h7 => ?_) (fun h7 => ?_)
  · refine e_iconst (dec_at dX0_cornerPinched 26) ?_
    refine e_ireturn (dec_at dX0_cornerPinched 27) rfl ?_
    exact ⟨rfl, _, rfl, Or.inl ⟨rfl, fun i a b => hi i a (by omega)⟩⟩
  · refine e_aload_n 0 (dec_at dX0_cornerPinched 6) rfl rfl ?_
    refine e_aload_n 1 (dec_at dX0_cornerPinched 7) rfl rfl ?_
    refine e_aload_n 1 (dec_at dX0_cornerPinched 8) rfl rfl ?_
    refine e_getr 11 (dec_at dX0_cornerPinched 9) flX0_80 rfl rfl ?_
    refine e_iload_n 2 (dec_at dX0_cornerPinched 10) rfl rfl ?_
    refine e_iald (dec_at dX0_cornerPinched 11) rfl (by decide) (aLk_20 _) (by omega) (fun r17 => ?_)
    refine e_aload_n 1 (dec_at dX0_cornerPinched 12) rfl rfl ?_
    refine e_getr 10 (dec_at dX0_cornerPinched 13) flX0_77 rfl rfl ?_
    refine e_iload_n 2 (dec_at dX0_cornerPinched 14) rfl rfl ?_
    refine e_iald (dec_at dX0_cornerPinched 15) rfl (by decide) (aLk_19 _) (by omega) (fun r23 => ?_)
    refine e_callV (M' := mX0_ringLength) (dec_at dX0_cornerPinched 16) mlX0_83 (c_ringLength (μ := μ) (μ 20 0 c) (μ 19 0 c) h hb (hd c h0 (by omega)).1 (hd c h0 (by omega)).2 r23) oX0_ringLength iX0_ringLength rfl rfl rfl rfl (by decide) (by decide) (Nat.le_of_ble_eq_true rfl) (fun r μ1 hQ => ?_)
    obtain ⟨rfl, v, rfl, hvr, hv⟩ := hQ
    show Ev mX0_cornerPinched 2 27 _ [vI v] μ1 _
    refine e_aload_n 1 (dec_at dX0_cornerPinched 17) rfl rfl ?_
    refine e_getr 10 (dec_at dX0_cornerPinched 18) flX0_77 rfl rfl ?_
    refine e_iload_n 2 (dec_at dX0_cornerPinched 19) rfl rfl ?_
    refine e_iald (dec_at dX0_cornerPinched 20) rfl (by decide) (aLk_19 _) (by omega) (fun r32 => ?_)
    refine e_icmp_ge 38 (dec_at dX0_cornerPinched 21) (by decide) (by exact hvr) (by omega) (fun h33 => ?_) (fun h33 => ?_)
    · refine e_ii2 (dec_at dX0_cornerPinched 24) (by decide) rfl ?_
      refine e_goto 2 (dec_at dX0_cornerPinched 25) (by decide) ?_
      refine ih _ (by omega) (c + 1) rfl (by omega) (by omega) (fun j a b => ?_)
      by_cases q : j = c
      · subst q; exact fun z => by have := hv.mpr z; omega
      · exact hi j a (by omega)
    · refine e_iload_n 2 (dec_at dX0_cornerPinched 22) rfl rfl ?_
      refine e_ireturn (dec_at dX0_cornerPinched 23) rfl ?_
      exact ⟨rfl, c, rfl, Or.inr ⟨⟨h0, by omega⟩, hv.mp (by omega), hi⟩⟩

set_option maxRecDepth 100000 in
set_option maxHeartbeats 4000000 in
theorem c_pinched {μ : Mm} (h : XB μ) (hb : ∀ s, 0 ≤ s → s < μ 13 0 (μ 11 0 1) → 0 ≤ μ 16 0 s ∧ μ 16 0 s < μ 13 0 (μ 11 0 1)) (hd : ∀ c, 0 ≤ c → c < μ 11 0 0 → 0 ≤ μ 20 0 c ∧ μ 20 0 c < μ 13 0 (μ 11 0 1)) : Mc mX0_cornerPinched 2 [vR 5 0, vR 11 0] μ (QF (fun c => ∃ k : Nat, 0 < k ∧ k < μ 19 0 c ∧ it (rho (Nt μ 0)) k (μ 20 0 c) = μ 20 0 c) (μ 11 0 0) μ) := by
  refine Mc.of (L := [some (vR 5 0), some (vR 11 0), none]) (by decide +kernel) (by simp [leL, entA, isLong, mX0_cornerPinched]) (by simp [entA, isLong, mX0_cornerPinched]) ?_
  have nb := h.nb
  have hP := nb.2.1
  have hC := nb.1
  have hn := nb.2.2.1
  have h2 := h.2
  have e1 : capC 0 = 14 := rfl
  have e2 : capP 0 = 14 := rfl
  have e3 : capE 0 = 42 := rfl
  refine e_iconst (dec_at dX0_cornerPinched 0) ?_
  refine e_is2 (dec_at dX0_cornerPinched 1) (by decide) rfl ?_
  exact l_pinched h hb hd _ 0 rfl (by omega) (by omega) (fun j a b => by omega)
