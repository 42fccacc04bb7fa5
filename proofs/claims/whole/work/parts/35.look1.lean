/-- the table of steps made -/
def MD (μ ν : Mm) (m : Int) : Prop := (∀ t, 0 ≤ t → t < m → ν 6 0 (14 * μ 14 0 t + μ 14 0 (nx (Nt μ 0) t)) = t) ∧ (∀ a b, 0 ≤ a → a < 14 → 0 ≤ b → b < 14 → ν 6 0 (14 * a + b) = -1 ∨ ∃ t, 0 ≤ t ∧ t < m ∧ μ 14 0 t = a ∧ μ 14 0 (nx (Nt μ 0) t) = b ∧ ν 6 0 (14 * a + b) = t)
theorem XB.st {μ : Mm} (h : XB μ) {s : Int} (h0 : 0 ≤ s) (h1 : s < μ 13 0 (μ 11 0 1)) : (0 ≤ μ 14 0 s ∧ μ 14 0 s < 14) ∧ (0 ≤ μ 14 0 (nx (Nt μ 0) s) ∧ μ 14 0 (nx (Nt μ 0) s) < 14) ∧ (0 ≤ nx (Nt μ 0) s ∧ nx (Nt μ 0) s < μ 13 0 (μ 11 0 1)) ∧ (0 ≤ μ 15 0 s ∧ μ 15 0 s < μ 11 0 1) := by
  have a : 0 ≤ μ 14 0 s ∧ μ 14 0 s < μ 11 0 0 := h.1.2.2 s h0 h1
  have b := h.1.2.1.nxr h0 h1
  have c : 0 ≤ μ 14 0 (nx (Nt μ 0) s) ∧ μ 14 0 (nx (Nt μ 0) s) < μ 11 0 0 := h.1.2.2 _ b.1.1 b.1.2
  have d : (0 ≤ μ 15 0 s ∧ μ 15 0 s < μ 11 0 1) ∧ _ := h.1.2.1.2.2.2 s h0 h1
  have e := h.2
  exact ⟨by omega, by omega, b.1, d.1⟩
theorem XB.ord {μ : Mm} (h : XB μ) {s t : Int} (h0 : 0 ≤ s) (h1 : s < μ 13 0 (μ 11 0 1)) (g0 : 0 ≤ t) (g1 : t < μ 13 0 (μ 11 0 1)) (q : μ 15 0 t < μ 15 0 s) : t < s := by
  have a : (0 ≤ μ 15 0 s ∧ μ 15 0 s < μ 11 0 1) ∧ μ 13 0 (μ 15 0 s) ≤ s ∧ _ := h.1.2.1.2.2.2 s h0 h1
  have b : (0 ≤ μ 15 0 t ∧ μ 15 0 t < μ 11 0 1) ∧ μ 13 0 (μ 15 0 t) ≤ t ∧ t < μ 13 0 (μ 15 0 t + 1) := h.1.2.1.2.2.2 t g0 g1
  have c : μ 13 0 (μ 15 0 t + 1) + 3 * (μ 15 0 s - (μ 15 0 t + 1)) ≤ μ 13 0 (μ 15 0 s) := h.1.2.1.mono (f := μ 15 0 t + 1) (g := μ 15 0 s) (by omega) (by omega) (Int.le_of_lt a.1.2)
  omega

theorem NB1.frb {μ ν : Mm} {l : Int} (h : NB1 μ l) (f : ∀ (k : Nat) (i : Int), 11 ≤ k → k ≤ 15 → ν k l i = μ k l i) : NB1 ν l := by
  have e : ∀ k : Nat, 11 ≤ k → k ≤ 15 → ν k l = μ k l := fun k h1 hk => funext (fun i => f k i h1 hk)
  unfold NB1 at h ⊢
  rw [e 11 (by decide) (by decide), e 13 (by decide) (by decide), e 14 (by decide) (by decide), e 15 (by decide) (by decide)]
  exact h

set_option maxRecDepth 100000 in
set_option maxHeartbeats 4000000 in
theorem l_double2 {μ : Mm} (h : XB μ) : ∀ (q : Nat) (s : Int) (ν : Mm), (μ 13 0 (μ 11 0 1) - s).toNat = q → 0 ≤ s → s ≤ μ 13 0 (μ 11 0 1) → (∀ k l1 i, ¬ (k = 6) → ν k l1 i = μ k l1 i) → MD μ ν s → (∀ a b, 0 ≤ b → b < a → a < s → ¬ sst (Nt μ 0) a b) → Ev mX0_plateWithDouble 2 26 [some (vR 5 0), some (vR 11 0), some (vI s), none] [] ν (fun r μ' => (∀ k l1 i, ¬ (k = 6) → μ' k l1 i = μ k l1 i) ∧ ∃ v, r = some (vI v) ∧ ((v = -1 ∧ No (fDb (Nt μ 0)) (μ 11 0 1) ∧ MD μ μ' (μ 13 0 (μ 11 0 1))) ∨ Fi (fDb (Nt μ 0)) (μ 11 0 1) v)) := by
  intro q
  induction q using Nat.strongRecOn with
  | _ q ih =>
  intro s ν hq h0 h1 fr hM hi
  have nb := h.nb
  have hP := nb.2.1
  have hC := nb.1
  have hn := nb.2.2.1
  have h2 := h.2
  have e1 : capC 0 = 14 := rfl
  have e2 : capP 0 = 14 := rfl
  have e3 : capE 0 = 42 := rfl
  refine e_iload_n 2 (dec_at dX0_plateWithDouble 16) rfl rfl ?_
  refine e_aload_n 1 (dec_at dX0_plateWithDouble 17) rfl rfl ?_
  refine e_callVr (M' := mX2_steps) (dec_at dX0_plateWithDouble 18) mlX0_60 ((c_steps (μ := ν) 0 (by rw [fr 11 0 1 (by omega)]; omega)).rt (r' := some (vI (μ 13 0 (μ 11 0 1)))) (by rw [fr 11 0 1 (by omega), fr 13 0 _ (by omega)]) rfl) oX2_steps iX2_steps rfl rfl rfl rfl (by decide) (by decide) (Nat.le_of_ble_eq_true rfl) ?_
  refine e_icmp_ge 80 (dec_at dX0_plateWithDouble 19) (by decide) (by omega) (by omega) (fun h31 => ?_) (fun h31 => ?_)
  · refine e_iconst (dec_at dX0_plateWithDouble 49) ?_
    refine e_ireturn (dec_at dX0_plateWithDouble 50) rfl ?_
    obtain rfl : s = μ 13 0 (μ 11 0 1) := by omega
    refine ⟨fr, -1, rfl, Or.inl ⟨rfl, ?_, hM⟩⟩
    rintro g a b ⟨s', t', x, y, z, w, e⟩
    exact hi s' t' x y z e
  · have hs := h.st h0 (show s < μ 13 0 (μ 11 0 1) by omega)
    refine e_bipush (dec_at dX0_plateWithDouble 20) (by decide) ?_
    refine e_aload_n 1 (dec_at dX0_plateWithDouble 21) rfl rfl ?_
    refine e_getr 5 (dec_at dX0_plateWithDouble 22) flX0_57 rfl rfl ?_
    refine e_iload_n 2 (dec_at dX0_plateWithDouble 23) rfl rfl ?_
    refine e_ialdv (μ 14 0 s) (dec_at dX0_plateWithDouble 24) rfl (by decide) (aLk_14 _) (by omega) (by exact fr 14 0 s (by omega)) (fun r41 => ?_)
    refine e_imul (dec_at dX0_plateWithDouble 25) ?_
    refine e_aload_n 1 (dec_at dX0_plateWithDouble 26) rfl rfl ?_
    refine e_iload_n 2 (dec_at dX0_plateWithDouble 27) rfl rfl ?_
    refine e_callVr (M' := mX2_stepTarget) (dec_at dX0_plateWithDouble 28) mlX0_64 ((c_stepTarget (μ := ν) 0 s (nb.frb (fun k i h1 hk => fr k 0 i (by omega))) h0 (by rw [fr 11 0 1 (by omega), fr 13 0 _ (by omega)]; omega)).rt (r' := some (vI (μ 14 0 (nx (Nt μ 0) s)))) (by rw [show ν 13 0 = μ 13 0 from funext (fun i => fr 13 0 i (by omega)), show ν 15 0 = μ 15 0 from funext (fun i => fr 15 0 i (by omega)), fr 14 0 _ (by omega)]; rfl) rfl) oX2_stepTarget iX2_stepTarget rfl rfl rfl rfl (by decide) (by decide) (Nat.le_of_ble_eq_true rfl) ?_
    refine e_iadd (dec_at dX0_plateWithDouble 29) ?_
    refine e_is3 (dec_at dX0_plateWithDouble 30) (by decide) rfl ?_
    refine e_aload_n 0 (dec_at dX0_plateWithDouble 31) rfl rfl ?_
    refine e_getr 0 (dec_at dX0_plateWithDouble 32) flX0_9 rfl rfl ?_
    refine e_iload_n 3 (dec_at dX0_plateWithDouble 33) rfl rfl ?_
    refine e_iald (dec_at dX0_plateWithDouble 34) rfl (by decide) (aLk_6 _) (by omega) (fun r55 => ?_)
    refine e_iconst (dec_at dX0_plateWithDouble 35) ?_
    refine e_icmp_eq 67 (dec_at dX0_plateWithDouble 36) (by decide) (by omega) (by omega) (fun h57 => ?_) (fun h57 => ?_)
    · refine e_aload_n 0 (dec_at dX0_plateWithDouble 42) rfl rfl ?_
      refine e_getr 0 (dec_at dX0_plateWithDouble 43) flX0_9 rfl rfl ?_
      refine e_iload_n 3 (dec_at dX0_plateWithDouble 44) rfl rfl ?_
      refine e_iload_n 2 (dec_at dX0_plateWithDouble 45) rfl rfl ?_
      refine e_iast (dec_at dX0_plateWithDouble 46) rfl (by decide) (aLk_6 _) (by omega) (by omega) ?_
      refine e_ii2 (dec_at dX0_plateWithDouble 47) (by decide) rfl ?_
      refine e_goto 26 (dec_at dX0_plateWithDouble 48) (by decide) ?_
      have hns : ∀ b, 0 ≤ b → b < s → ¬ sst (Nt μ 0) s b := by
        rintro b b0 b1 ⟨x, y⟩
        have x : μ 14 0 s = μ 14 0 b := x
        have y : μ 14 0 (nx (Nt μ 0) s) = μ 14 0 (nx (Nt μ 0) b) := y
        have z := hM.1 b b0 b1
        rw [← x, ← y] at z
        omega
      refine e_le [some (vR 5 0), some (vR 11 0), some (vI (s + 1)), none] (by simp [leL]) (ih _ (by omega) (s + 1) _ rfl (by omega) (by omega) (fr_set fr rfl) ⟨fun t a b => ?_, fun a b a0 a1 b0 b1 => ?_⟩ (fun a b b0 ba c => ?_))
      · by_cases q : t = s
        · subst q; exact mset_eq
        · have ht := h.st (s := t) a (by omega)
          have hne : 14 * μ 14 0 t + μ 14 0 (nx (Nt μ 0) t) ≠ 14 * μ 14 0 s + μ 14 0 (nx (Nt μ 0) s) := fun z => hns t a (by omega) ⟨show μ 14 0 s = μ 14 0 t by omega, show μ 14 0 (nx (Nt μ 0) s) = μ 14 0 (nx (Nt μ 0) t) by omega⟩
          rw [mset_i hne]
          exact hM.1 t a (by omega)
      · by_cases q : 14 * a + b = 14 * μ 14 0 s + μ 14 0 (nx (Nt μ 0) s)
        · right
          refine ⟨s, h0, by omega, by omega, by omega, ?_⟩
          rw [q]; exact mset_eq
        · rw [mset_i q]
          rcases hM.2 a b a0 a1 b0 b1 with z | ⟨t, x, y, z⟩
          · exact Or.inl z
          · exact Or.inr ⟨t, x, by omega, z⟩
      · by_cases q : a = s
        · subst q; exact hns b b0 ba
        · exact hi a b b0 ba (by omega)
    · obtain hz | ⟨t, t0, t1, ta, tb, -⟩ := hM.2 (μ 14 0 s) (μ 14 0 (nx (Nt μ 0) s)) hs.1.1 hs.1.2 hs.2.1.1 hs.2.1.2
      · exact absurd hz h57
      refine e_aload_n 1 (dec_at dX0_plateWithDouble 37) rfl rfl ?_
      refine e_getr 6 (dec_at dX0_plateWithDouble 38) flX0_68 rfl rfl ?_
      refine e_iload_n 2 (dec_at dX0_plateWithDouble 39) rfl rfl ?_
      refine e_ialdv (μ 15 0 s) (dec_at dX0_plateWithDouble 40) rfl (by decide) (aLk_15 _) (by omega) (by exact fr 15 0 s (by omega)) (fun r65 => ?_)
      refine e_ireturn (dec_at dX0_plateWithDouble 41) rfl ?_
      refine ⟨fr, μ 15 0 s, rfl, Or.inr ⟨hs.2.2.2, ⟨s, t, t0, t1, by show s < μ 13 0 (μ 11 0 1); omega, rfl, ?_⟩, ?_⟩⟩
      · exact ⟨ta.symm, tb.symm⟩
      · rintro g a b ⟨s', t', x, y, z, w, e⟩
        have z : s' < μ 13 0 (μ 11 0 1) := z
        have w : μ 15 0 s' = g := w
        exact hi s' t' x y (h.ord h0 (by omega) (by omega) z (by omega)) e

set_option maxRecDepth 100000 in
set_option maxHeartbeats 4000000 in
theorem l_double1 {μ : Mm} (h : XB μ) : ∀ (q : Nat) (i : Int) (ν : Mm), (196 - i).toNat = q → 0 ≤ i → i ≤ 196 → (∀ k l1 i, ¬ (k = 6) → ν k l1 i = μ k l1 i) → (∀ j, 0 ≤ j → j < i → ν 6 0 j = -1) → Ev mX0_plateWithDouble 2 2 [some (vR 5 0), some (vR 11 0), some (vI i), none] [] ν (fun r μ' => (∀ k l1 i, ¬ (k = 6) → μ' k l1 i = μ k l1 i) ∧ ∃ v, r = some (vI v) ∧ ((v = -1 ∧ No (fDb (Nt μ 0)) (μ 11 0 1) ∧ MD μ μ' (μ 13 0 (μ 11 0 1))) ∨ Fi (fDb (Nt μ 0)) (μ 11 0 1) v)) := by
  intro q
  induction q using Nat.strongRecOn with
  | _ q ih =>
  intro i ν hq h0 h1 fr hi
  have nb := h.nb
  have hP := nb.2.1
  have hC := nb.1
  have hn := nb.2.2.1
  have h2 := h.2
  have e1 : capC 0 = 14 := rfl
  have e2 : capP 0 = 14 := rfl
  have e3 : capE 0 = 42 := rfl
  refine e_iload_n 2 (dec_at dX0_plateWithDouble 2) rfl rfl ?_
  refine e_aload_n 0 (dec_at dX0_plateWithDouble 3) rfl rfl ?_
  refine e_getr 0 (dec_at dX0_plateWithDouble 4) flX0_9 rfl rfl ?_
  refine e_alen (dec_at dX0_plateWithDouble 5) rfl (by decide) (aLk_6 _) ?_
  refine e_icmp_ge 24 (dec_at dX0_plateWithDouble 6) (by decide) (by omega) (by omega) (fun h8 => ?_) (fun h8 => ?_)
  · refine e_iconst (dec_at dX0_plateWithDouble 14) ?_
    refine e_is2 (dec_at dX0_plateWithDouble 15) (by decide) rfl ?_
    exact l_double2 h _ 0 ν rfl (by omega) (by omega) fr ⟨fun t a b => by omega, fun a b a0 a1 b0 b1 => Or.inl (hi _ (by omega) (by omega))⟩ (fun a b x y z => by omega)
  · refine e_aload_n 0 (dec_at dX0_plateWithDouble 7) rfl rfl ?_
    refine e_getr 0 (dec_at dX0_plateWithDouble 8) flX0_9 rfl rfl ?_
    refine e_iload_n 2 (dec_at dX0_plateWithDouble 9) rfl rfl ?_
    refine e_iconst (dec_at dX0_plateWithDouble 10) ?_
    refine e_iast (dec_at dX0_plateWithDouble 11) rfl (by decide) (aLk_6 _) (by omega) (by omega) ?_
    refine e_ii2 (dec_at dX0_plateWithDouble 12) (by decide) rfl ?_
    refine e_goto 2 (dec_at dX0_plateWithDouble 13) (by decide) ?_
    refine ih _ (by omega) (i + 1) _ rfl (by omega) (by omega) (fr_set fr rfl) (fun j a b => ?_)
    by_cases q : j = i
    · subst q; exact mset_eq
    · rw [mset_i q]; exact hi j a (by omega)

set_option maxRecDepth 100000 in
set_option maxHeartbeats 4000000 in
theorem c_double {μ : Mm} (h : XB μ) : Mc mX0_plateWithDouble 2 [vR 5 0, vR 11 0] μ (fun r μ' => (∀ k l1 i, ¬ (k = 6) → μ' k l1 i = μ k l1 i) ∧ ∃ v, r = some (vI v) ∧ ((v = -1 ∧ No (fDb (Nt μ 0)) (μ 11 0 1) ∧ MD μ μ' (μ 13 0 (μ 11 0 1))) ∨ Fi (fDb (Nt μ 0)) (μ 11 0 1) v)) := by
  refine Mc.of (L := [some (vR 5 0), some (vR 11 0), none, none]) (by decide +kernel) (by simp [leL, entA, isLong, mX0_plateWithDouble]) (by simp [entA, isLong, mX0_plateWithDouble]) ?_
  have nb := h.nb
  have hP := nb.2.1
  have hC := nb.1
  have hn := nb.2.2.1
  have h2 := h.2
  have e1 : capC 0 = 14 := rfl
  have e2 : capP 0 = 14 := rfl
  have e3 : capE 0 = 42 := rfl
  refine e_iconst (dec_at dX0_plateWithDouble 0) ?_
  refine e_is2 (dec_at dX0_plateWithDouble 1) (by decide) rfl ?_
  exact l_double1 h _ 0 μ rfl (by omega) (by omega) (fun _ _ _ _ => rfl) (fun j a b => by omega)

set_option maxRecDepth 100000 in
set_option maxHeartbeats 4000000 in
theorem l_open {μ : Mm} (h : XB μ) (hM : MD μ μ (μ 13 0 (μ 11 0 1))) : ∀ (q : Nat) (s : Int) (ν : Mm), (μ 13 0 (μ 11 0 1) - s).toNat = q → 0 ≤ s → s ≤ μ 13 0 (μ 11 0 1) → (∀ k l1 i, ¬ (k = 16 ∧ l1 = 0) → ν k l1 i = μ k l1 i) → (∀ t, 0 ≤ t → t < s → (0 ≤ ν 16 0 t ∧ ν 16 0 t < μ 13 0 (μ 11 0 1)) ∧ bks (Nt μ 0) t (ν 16 0 t)) → Ev mX0_plateWithOpen 2 2 [some (vR 5 0), some (vR 11 0), some (vI s), none] [] ν (fun r μ' => (∀ k l1 i, ¬ (k = 16 ∧ l1 = 0) → μ' k l1 i = μ k l1 i) ∧ ∃ v, r = some (vI v) ∧ ((v = -1 ∧ No (fOp (Nt μ 0)) (μ 11 0 1) ∧ (∀ t, 0 ≤ t → t < μ 13 0 (μ 11 0 1) → (0 ≤ μ' 16 0 t ∧ μ' 16 0 t < μ 13 0 (μ 11 0 1)) ∧ bks (Nt μ 0) t (μ' 16 0 t))) ∨ Fi (fOp (Nt μ 0)) (μ 11 0 1) v)) := by
  intro q
  induction q using Nat.strongRecOn with
  | _ q ih =>
  intro s ν hq h0 h1 fr hi
  have nb := h.nb
  have hP := nb.2.1
  have hC := nb.1
  have hn := nb.2.2.1
  have h2 := h.2
  have e1 : capC 0 = 14 := rfl
  have e2 : capP 0 = 14 := rfl
  have e3 : capE 0 = 42 := rfl
  refine e_iload_n 2 (dec_at dX0_plateWithOpen 2) rfl rfl ?_
  refine e_aload_n 1 (dec_at dX0_plateWithOpen 3) rfl rfl ?_
  refine e_callVr (M' := mX2_steps) (dec_at dX0_plateWithOpen 4) mlX0_60 ((c_steps (μ := ν) 0 (by rw [fr 11 0 1 (by omega)]; omega)).rt (r' := some (vI (μ 13 0 (μ 11 0 1)))) (by rw [fr 11 0 1 (by omega), fr 13 0 _ (by omega)]) rfl) oX2_steps iX2_steps rfl rfl rfl rfl (by decide) (by decide) (Nat.le_of_ble_eq_true rfl) ?_
  refine e_icmp_ge 61 (dec_at dX0_plateWithOpen 5) (by decide) (by omega) (by omega) (fun h7 => ?_) (fun h7 => ?_)
  · refine e_iconst (dec_at dX0_plateWithOpen 38) ?_
    refine e_ireturn (dec_at dX0_plateWithOpen 39) rfl ?_
    obtain rfl : s = μ 13 0 (μ 11 0 1) := by omega
    refine ⟨fr, -1, rfl, Or.inl ⟨rfl, ?_, hi⟩⟩
    rintro g a b ⟨s', x, y, w, e⟩
    have v := hi s' x y
    exact e _ v.1.1 v.1.2 v.2
  · have hs := h.st h0 (show s < μ 13 0 (μ 11 0 1) by omega)
    have hw := hM.2 (μ 14 0 (nx (Nt μ 0) s)) (μ 14 0 s) hs.2.1.1 hs.2.1.2 hs.1.1 hs.1.2
    refine e_bipush (dec_at dX0_plateWithOpen 6) (by decide) ?_
    refine e_aload_n 1 (dec_at dX0_plateWithOpen 7) rfl rfl ?_
    refine e_iload_n 2 (dec_at dX0_plateWithOpen 8) rfl rfl ?_
    refine e_callVr (M' := mX2_stepTarget) (dec_at dX0_plateWithOpen 9) mlX0_64 ((c_stepTarget (μ := ν) 0 s (nb.frb (fun k i h1 hk => fr k 0 i (by omega))) h0 (by rw [fr 11 0 1 (by omega), fr 13 0 _ (by omega)]; omega)).rt (r' := some (vI (μ 14 0 (nx (Nt μ 0) s)))) (by rw [show ν 13 0 = μ 13 0 from funext (fun i => fr 13 0 i (by omega)), show ν 15 0 = μ 15 0 from funext (fun i => fr 15 0 i (by omega)), fr 14 0 _ (by omega)]; rfl) rfl) oX2_stepTarget iX2_stepTarget rfl rfl rfl rfl (by decide) (by decide) (Nat.le_of_ble_eq_true rfl) ?_
    refine e_imul (dec_at dX0_plateWithOpen 10) ?_
    refine e_aload_n 1 (dec_at dX0_plateWithOpen 11) rfl rfl ?_
    refine e_getr 5 (dec_at dX0_plateWithOpen 12) flX0_57 rfl rfl ?_
    refine e_iload_n 2 (dec_at dX0_plateWithOpen 13) rfl rfl ?_
    refine e_ialdv (μ 14 0 s) (dec_at dX0_plateWithOpen 14) rfl (by decide) (aLk_14 _) (by omega) (by exact fr 14 0 s (by omega)) (fun r23 => ?_)
    refine e_iadd (dec_at dX0_plateWithOpen 15) ?_
    refine e_is3 (dec_at dX0_plateWithOpen 16) (by decide) rfl ?_
    refine e_aload_n 0 (dec_at dX0_plateWithOpen 17) rfl rfl ?_
    refine e_getr 0 (dec_at dX0_plateWithOpen 18) flX0_9 rfl rfl ?_
    refine e_iload_n 3 (dec_at dX0_plateWithOpen 19) rfl rfl ?_
    refine e_ialdv (μ 6 0 (14 * μ 14 0 (nx (Nt μ 0) s) + μ 14 0 s)) (dec_at dX0_plateWithOpen 20) rfl (by decide) (aLk_6 _) (by omega) (by exact fr 6 0 _ (by omega)) (fun r31 => ?_)
    refine e_iconst (dec_at dX0_plateWithOpen 21) ?_
    refine e_icmp_ne 43 (dec_at dX0_plateWithOpen 22) (by decide) (by omega) (by omega) (fun h33 => ?_) (fun h33 => ?_)
    · obtain hz | ⟨t, t0, t1, ta, tb, te⟩ := hw
      · exact absurd hz h33
      refine e_aload_n 1 (dec_at dX0_plateWithOpen 28) rfl rfl ?_
      refine e_getr 7 (dec_at dX0_plateWithOpen 29) flX0_71 rfl rfl ?_
      refine e_iload_n 2 (dec_at dX0_plateWithOpen 30) rfl rfl ?_
      refine e_aload_n 0 (dec_at dX0_plateWithOpen 31) rfl rfl ?_
      refine e_getr 0 (dec_at dX0_plateWithOpen 32) flX0_9 rfl rfl ?_
      refine e_iload_n 3 (dec_at dX0_plateWithOpen 33) rfl rfl ?_
      refine e_ialdv (μ 6 0 (14 * μ 14 0 (nx (Nt μ 0) s) + μ 14 0 s)) (dec_at dX0_plateWithOpen 34) rfl (by decide) (aLk_6 _) (by omega) (by exact fr 6 0 _ (by omega)) (fun r53 => ?_)
      refine e_iast (dec_at dX0_plateWithOpen 35) rfl (by decide) (aLk_16 _) (by omega) (by omega) ?_
      refine e_ii2 (dec_at dX0_plateWithOpen 36) (by decide) rfl ?_
      refine e_goto 2 (dec_at dX0_plateWithOpen 37) (by decide) ?_
      refine e_le [some (vR 5 0), some (vR 11 0), some (vI (s + 1)), none] (by simp [leL]) (ih _ (by omega) (s + 1) _ rfl (by omega) (by omega) (fr_set fr (by omega)) (fun t' a b => ?_))
      by_cases q : t' = s
      · subst q
        rw [mset_eq, te]
        exact ⟨⟨t0, t1⟩, ta, tb⟩
      · rw [mset_i q]
        exact hi t' a (by omega)
    · refine e_aload_n 1 (dec_at dX0_plateWithOpen 23) rfl rfl ?_
      refine e_getr 6 (dec_at dX0_plateWithOpen 24) flX0_68 rfl rfl ?_
      refine e_iload_n 2 (dec_at dX0_plateWithOpen 25) rfl rfl ?_
      refine e_ialdv (μ 15 0 s) (dec_at dX0_plateWithOpen 26) rfl (by decide) (aLk_15 _) (by omega) (by exact fr 15 0 s (by omega)) (fun r41 => ?_)
      refine e_ireturn (dec_at dX0_plateWithOpen 27) rfl ?_
      refine ⟨fr, μ 15 0 s, rfl, Or.inr ⟨hs.2.2.2, ⟨s, h0, by show s < μ 13 0 (μ 11 0 1); omega, rfl, ?_⟩, ?_⟩⟩
      · rintro t t0 t1 ⟨x, y⟩
        have t1 : t < μ 13 0 (μ 11 0 1) := t1
        have x : μ 14 0 t = μ 14 0 (nx (Nt μ 0) s) := x
        have y : μ 14 0 (nx (Nt μ 0) t) = μ 14 0 s := y
        have z := hM.1 t t0 t1
        rw [x, y] at z
        omega
      · rintro g a b ⟨s', x, y, w, e⟩
        have y : s' < μ 13 0 (μ 11 0 1) := y
        have w : μ 15 0 s' = g := w
        have v := hi s' x (h.ord h0 (by omega) x y (by omega))
        exact e _ v.1.1 v.1.2 v.2

set_option maxRecDepth 100000 in
set_option maxHeartbeats 4000000 in
theorem c_open {μ : Mm} (h : XB μ) (hM : MD μ μ (μ 13 0 (μ 11 0 1))) : Mc mX0_plateWithOpen 2 [vR 5 0, vR 11 0] μ (fun r μ' => (∀ k l1 i, ¬ (k = 16 ∧ l1 = 0) → μ' k l1 i = μ k l1 i) ∧ ∃ v, r = some (vI v) ∧ ((v = -1 ∧ No (fOp (Nt μ 0)) (μ 11 0 1) ∧ (∀ t, 0 ≤ t → t < μ 13 0 (μ 11 0 1) → (0 ≤ μ' 16 0 t ∧ μ' 16 0 t < μ 13 0 (μ 11 0 1)) ∧ bks (Nt μ 0) t (μ' 16 0 t))) ∨ Fi (fOp (Nt μ 0)) (μ 11 0 1) v)) := by
  refine Mc.of (L := [some (vR 5 0), some (vR 11 0), none, none]) (by decide +kernel) (by simp [leL, entA, isLong, mX0_plateWithOpen]) (by simp [entA, isLong, mX0_plateWithOpen]) ?_
  have nb := h.nb
  have hP := nb.2.1
  have hC := nb.1
  have hn := nb.2.2.1
  have h2 := h.2
  have e1 : capC 0 = 14 := rfl
  have e2 : capP 0 = 14 := rfl
  have e3 : capE 0 = 42 := rfl
  refine e_iconst (dec_at dX0_plateWithOpen 0) ?_
  refine e_is2 (dec_at dX0_plateWithOpen 1) (by decide) rfl ?_
  exact l_open h hM _ 0 μ rfl (by omega) (by omega) (fun _ _ _ _ => rfl) (fun j a b => by omega)
