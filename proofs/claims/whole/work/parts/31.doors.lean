theorem ct_i {p : Int → Prop} {s : Int} (h0 : 0 ≤ s) : (p s → ct p (s + 1).toNat = ct p s.toNat + 1) ∧ (¬ p s → ct p (s + 1).toNat = ct p s.toNat) := by
  rw [show (s + 1).toNat = s.toNat + 1 by omega]
  exact ⟨fun h => ct_t (by rw [Int.toNat_of_nonneg h0]; exact h), fun h => ct_f (by rw [Int.toNat_of_nonneg h0]; exact h)⟩

set_option maxRecDepth 100000 in
set_option maxHeartbeats 4000000 in
theorem l_findDoors2 {μ : Mm} {l : Int} (hC : 0 ≤ μ 11 l 0 ∧ μ 11 l 0 ≤ capC l) (hP : 0 ≤ μ 11 l 1 ∧ μ 11 l 1 ≤ capP l) (hn : 0 ≤ μ 13 l (μ 11 l 1) ∧ μ 13 l (μ 11 l 1) ≤ 2 * capE l) (hr : ∀ s, 0 ≤ s → s < μ 13 l (μ 11 l 1) → 0 ≤ μ 14 l s ∧ μ 14 l s < μ 11 l 0) : ∀ (q : Nat) (s : Int) (ν : Mm), (μ 13 l (μ 11 l 1) - s).toNat = q → 0 ≤ s → s ≤ μ 13 l (μ 11 l 1) → (∀ k l1 i, ¬ (l1 = l ∧ (k = 19 ∨ k = 20)) → ν k l1 i = μ k l1 i) → (∀ c, 0 ≤ c → c < μ 11 l 0 → ν 19 l c = (ct (fun t => μ 14 l t = c) (s).toNat : Int) ∧ (ct (fun t => μ 14 l t = c) (s).toNat ≠ 0 → (0 ≤ ν 20 l c ∧ ν 20 l c < s) ∧ μ 14 l (ν 20 l c) = c ∧ ∀ t, 0 ≤ t → t < s → μ 14 l t = c → μ 17 l (ν 20 l c) ≤ μ 17 l t)) → Ev mX2_findDoors 1 25 [some (vR 11 l), some (vI s), none] [] ν (fun r μ' => r = none ∧ (∀ k l1 i, ¬ (l1 = l ∧ (k = 19 ∨ k = 20)) → μ' k l1 i = μ k l1 i) ∧ (∀ c, 0 ≤ c → c < μ 11 l 0 → μ' 19 l c = (ct (fun t => μ 14 l t = c) (μ 13 l (μ 11 l 1)).toNat : Int) ∧ (ct (fun t => μ 14 l t = c) (μ 13 l (μ 11 l 1)).toNat ≠ 0 → (0 ≤ μ' 20 l c ∧ μ' 20 l c < μ 13 l (μ 11 l 1)) ∧ μ 14 l (μ' 20 l c) = c ∧ ∀ t, 0 ≤ t → t < μ 13 l (μ 11 l 1) → μ 14 l t = c → μ 17 l (μ' 20 l c) ≤ μ 17 l t))) := by
  intro q
  induction q using Nat.strongRecOn with
  | _ q ih =>
  intro s ν hq h0 h1 fr hI
  have hCc := capC_in l
  have hCp := capP_in l
  have hCe := capE_in l
  refine e_iload_n 1 (dec_at dX2_findDoors 15) rfl rfl ?_
  refine e_aload_n 0 (dec_at dX2_findDoors 16) rfl rfl ?_
  refine e_callVr (M' := mX2_steps) (dec_at dX2_findDoors 17) mlX2_53 ((c_steps (μ := ν) l (by rw [fr 11 l 1 (by omega)]; exact hP)).rt (r' := some (vI (μ 13 l (μ 11 l 1)))) (by rw [fr 11 l 1 (by omega), fr 13 l _ (by omega)]) rfl) oX2_steps iX2_steps rfl rfl rfl rfl (by decide) (by decide) (Nat.le_of_ble_eq_true rfl) ?_
  refine e_icmp_ge 92 (dec_at dX2_findDoors 18) (by decide) (by omega) (by omega) (fun h30 => ?_) (fun h30 => ?_)
  · refine e_return (dec_at dX2_findDoors 56) rfl ?_
    obtain rfl : s = μ 13 l (μ 11 l 1) := by omega
    exact ⟨rfl, fr, hI⟩
  · have hc := hr s h0 (by omega)
    have hIc := hI (μ 14 l s) hc.1 hc.2
    have hle := ct_le (p := fun t => μ 14 l t = μ 14 l s) s.toNat
    refine e_aload_n 0 (dec_at dX2_findDoors 19) rfl rfl ?_
    refine e_getr 5 (dec_at dX2_findDoors 20) flX2_18 rfl rfl ?_
    refine e_iload_n 1 (dec_at dX2_findDoors 21) rfl rfl ?_
    refine e_ialdv (μ 14 l s) (dec_at dX2_findDoors 22) rfl (by decide) (aLk_14 _) (by omega) (by exact fr 14 l s (by omega)) (fun r38 => ?_)
    refine e_is2 (dec_at dX2_findDoors 23) (by decide) rfl ?_
    refine e_aload_n 0 (dec_at dX2_findDoors 24) rfl rfl ?_
    refine e_getr 10 (dec_at dX2_findDoors 25) flX2_33 rfl rfl ?_
    refine e_iload_n 2 (dec_at dX2_findDoors 26) rfl rfl ?_
    refine e_ialdv ((ct (fun t => μ 14 l t = μ 14 l s) s.toNat : Int)) (dec_at dX2_findDoors 27) rfl (by decide) (aLk_19 _) (by omega) (by exact hIc.1) (fun r45 => ?_)
    refine e_if_eq 69 (dec_at dX2_findDoors 28) (by decide) (by omega) (fun h46 => ?_) (fun h46 => ?_)
    · have hk : ∀ t, 0 ≤ t → t < s → μ 14 l t = μ 14 l s → μ 17 l s ≤ μ 17 l t := fun t a b c => absurd c ((ct_zero (p := fun t => μ 14 l t = μ 14 l s) s.toNat).mp (by omega) t a (by omega))
      refine e_aload_n 0 (dec_at dX2_findDoors 41) rfl rfl ?_
      refine e_getr 11 (dec_at dX2_findDoors 42) flX2_36 rfl rfl ?_
      refine e_iload_n 2 (dec_at dX2_findDoors 43) rfl rfl ?_
      refine e_iload_n 1 (dec_at dX2_findDoors 44) rfl rfl ?_
      refine e_iast (dec_at dX2_findDoors 45) rfl (by decide) (aLk_20 _) (by omega) (by omega) ?_
      refine e_aload_n 0 (dec_at dX2_findDoors 46) rfl rfl ?_
      refine e_getr 10 (dec_at dX2_findDoors 47) flX2_33 rfl rfl ?_
      refine e_iload_n 2 (dec_at dX2_findDoors 48) rfl rfl ?_
      refine e_dup2 (dec_at dX2_findDoors 49) rfl rfl ?_
      refine e_ialdv ((ct (fun t => μ 14 l t = μ 14 l s) s.toNat : Int)) (dec_at dX2_findDoors 50) rfl (by decide) (aLk_19 _) (by omega) (by first | (rw [mset_k (by decide)]; exact hIc.1) | exact hIc.1) (fun r82 => ?_)
      refine e_iconst (dec_at dX2_findDoors 51) ?_
      refine e_iadd (dec_at dX2_findDoors 52) ?_
      refine e_iast (dec_at dX2_findDoors 53) rfl (by decide) (aLk_19 _) (by omega) (by omega) ?_
      refine e_ii1 (dec_at dX2_findDoors 54) (by decide) rfl ?_
      refine e_goto 25 (dec_at dX2_findDoors 55) (by decide) ?_
      refine e_le [some (vR 11 l), some (vI (s + 1)), none] (by simp [leL]) (ih _ (by omega) (s + 1) _ rfl (by omega) (by omega) (fr_set (fr_set fr (by omega)) (by omega)) (fun c a b => ?_))
      by_cases q : c = μ 14 l s
      · subst q
        rw [mset_eq, mset_k (by decide), mset_eq, (ct_i (p := fun t => μ 14 l t = μ 14 l s) h0).1 rfl]
        refine ⟨by omega, fun _ => ⟨by omega, rfl, fun t x y z => ?_⟩⟩
        by_cases w : t = s
        · subst w; omega
        · exact hk t x (by omega) z
      · have hIo := hI c a b
        rw [mset_i q, mset_k (by decide), mset_k (by decide), mset_i q, (ct_i (p := fun t => μ 14 l t = c) h0).2 (fun z => q z.symm)]
        refine ⟨hIo.1, fun y => ?_⟩
        have hz := hIo.2 y
        refine ⟨by omega, hz.2.1, fun t x y z => hz.2.2 t x ?_ z⟩
        by_cases w : t = s
        · subst w; exact absurd z.symm q
        · omega
    · have hdv := hIc.2 (by omega)
      refine e_aload_n 0 (dec_at dX2_findDoors 29) rfl rfl ?_
      refine e_getr 8 (dec_at dX2_findDoors 30) flX2_27 rfl rfl ?_
      refine e_iload_n 1 (dec_at dX2_findDoors 31) rfl rfl ?_
      refine e_ialdv (μ 17 l s) (dec_at dX2_findDoors 32) rfl (by decide) (aLk_17 _) (by omega) (by exact fr 17 l s (by omega)) (fun r54 => ?_)
      refine e_aload_n 0 (dec_at dX2_findDoors 33) rfl rfl ?_
      refine e_getr 8 (dec_at dX2_findDoors 34) flX2_27 rfl rfl ?_
      refine e_aload_n 0 (dec_at dX2_findDoors 35) rfl rfl ?_
      refine e_getr 11 (dec_at dX2_findDoors 36) flX2_36 rfl rfl ?_
      refine e_iload_n 2 (dec_at dX2_findDoors 37) rfl rfl ?_
      refine e_iald (dec_at dX2_findDoors 38) rfl (by decide) (aLk_20 _) (by omega) (fun r64 => ?_)
      refine e_ialdv (μ 17 l (ν 20 l (μ 14 l s))) (dec_at dX2_findDoors 39) rfl (by decide) (aLk_17 _) (by omega) (by exact fr 17 l _ (by omega)) (fun r65 => ?_)
      refine e_icmp_ge 76 (dec_at dX2_findDoors 40) (by decide) (by omega) (by omega) (fun h66 => ?_) (fun h66 => ?_)
      · have hj := h66
        refine e_aload_n 0 (dec_at dX2_findDoors 46) rfl rfl ?_
        refine e_getr 10 (dec_at dX2_findDoors 47) flX2_33 rfl rfl ?_
        refine e_iload_n 2 (dec_at dX2_findDoors 48) rfl rfl ?_
        refine e_dup2 (dec_at dX2_findDoors 49) rfl rfl ?_
        refine e_ialdv ((ct (fun t => μ 14 l t = μ 14 l s) s.toNat : Int)) (dec_at dX2_findDoors 50) rfl (by decide) (aLk_19 _) (by omega) (by first | (rw [mset_k (by decide)]; exact hIc.1) | exact hIc.1) (fun r82 => ?_)
        refine e_iconst (dec_at dX2_findDoors 51) ?_
        refine e_iadd (dec_at dX2_findDoors 52) ?_
        refine e_iast (dec_at dX2_findDoors 53) rfl (by decide) (aLk_19 _) (by omega) (by omega) ?_
        refine e_ii1 (dec_at dX2_findDoors 54) (by decide) rfl ?_
        refine e_goto 25 (dec_at dX2_findDoors 55) (by decide) ?_
        refine e_le [some (vR 11 l), some (vI (s + 1)), none] (by simp [leL]) (ih _ (by omega) (s + 1) _ rfl (by omega) (by omega) (fr_set fr (by omega)) (fun c a b => ?_))
        by_cases q : c = μ 14 l s
        · subst q
          rw [mset_eq, mset_k (by decide), (ct_i (p := fun t => μ 14 l t = μ 14 l s) h0).1 rfl]
          refine ⟨by omega, fun _ => ⟨by omega, hdv.2.1, fun t x y z => ?_⟩⟩
          by_cases w : t = s
          · subst w; exact hj
          · exact hdv.2.2 t x (by omega) z
        · have hIo := hI c a b
          rw [mset_i q, mset_k (by decide), (ct_i (p := fun t => μ 14 l t = c) h0).2 (fun z => q z.symm)]
          refine ⟨hIo.1, fun y => ?_⟩
          have hz := hIo.2 y
          refine ⟨by omega, hz.2.1, fun t x y z => hz.2.2 t x ?_ z⟩
          by_cases w : t = s
          · subst w; exact absurd z.symm q
          · omega
      · have hk : ∀ t, 0 ≤ t → t < s → μ 14 l t = μ 14 l s → μ 17 l s ≤ μ 17 l t := fun t a b c => by have := hdv.2.2 t a b c; omega
        refine e_aload_n 0 (dec_at dX2_findDoors 41) rfl rfl ?_
        refine e_getr 11 (dec_at dX2_findDoors 42) flX2_36 rfl rfl ?_
        refine e_iload_n 2 (dec_at dX2_findDoors 43) rfl rfl ?_
        refine e_iload_n 1 (dec_at dX2_findDoors 44) rfl rfl ?_
        refine e_iast (dec_at dX2_findDoors 45) rfl (by decide) (aLk_20 _) (by omega) (by omega) ?_
        refine e_aload_n 0 (dec_at dX2_findDoors 46) rfl rfl ?_
        refine e_getr 10 (dec_at dX2_findDoors 47) flX2_33 rfl rfl ?_
        refine e_iload_n 2 (dec_at dX2_findDoors 48) rfl rfl ?_
        refine e_dup2 (dec_at dX2_findDoors 49) rfl rfl ?_
        refine e_ialdv ((ct (fun t => μ 14 l t = μ 14 l s) s.toNat : Int)) (dec_at dX2_findDoors 50) rfl (by decide) (aLk_19 _) (by omega) (by first | (rw [mset_k (by decide)]; exact hIc.1) | exact hIc.1) (fun r82 => ?_)
        refine e_iconst (dec_at dX2_findDoors 51) ?_
        refine e_iadd (dec_at dX2_findDoors 52) ?_
        refine e_iast (dec_at dX2_findDoors 53) rfl (by decide) (aLk_19 _) (by omega) (by omega) ?_
        refine e_ii1 (dec_at dX2_findDoors 54) (by decide) rfl ?_
        refine e_goto 25 (dec_at dX2_findDoors 55) (by decide) ?_
        refine e_le [some (vR 11 l), some (vI (s + 1)), none] (by simp [leL]) (ih _ (by omega) (s + 1) _ rfl (by omega) (by omega) (fr_set (fr_set fr (by omega)) (by omega)) (fun c a b => ?_))
        by_cases q : c = μ 14 l s
        · subst q
          rw [mset_eq, mset_k (by decide), mset_eq, (ct_i (p := fun t => μ 14 l t = μ 14 l s) h0).1 rfl]
          refine ⟨by omega, fun _ => ⟨by omega, rfl, fun t x y z => ?_⟩⟩
          by_cases w : t = s
          · subst w; omega
          · exact hk t x (by omega) z
        · have hIo := hI c a b
          rw [mset_i q, mset_k (by decide), mset_k (by decide), mset_i q, (ct_i (p := fun t => μ 14 l t = c) h0).2 (fun z => q z.symm)]
          refine ⟨hIo.1, fun y => ?_⟩
          have hz := hIo.2 y
          refine ⟨by omega, hz.2.1, fun t x y z => hz.2.2 t x ?_ z⟩
          by_cases w : t = s
          · subst w; exact absurd z.symm q
          · omega

set_option maxRecDepth 100000 in
set_option maxHeartbeats 4000000 in
theorem l_findDoors1 {μ : Mm} {l : Int} (hC : 0 ≤ μ 11 l 0 ∧ μ 11 l 0 ≤ capC l) (hP : 0 ≤ μ 11 l 1 ∧ μ 11 l 1 ≤ capP l) (hn : 0 ≤ μ 13 l (μ 11 l 1) ∧ μ 13 l (μ 11 l 1) ≤ 2 * capE l) (hr : ∀ s, 0 ≤ s → s < μ 13 l (μ 11 l 1) → 0 ≤ μ 14 l s ∧ μ 14 l s < μ 11 l 0) : ∀ (q : Nat) (c : Int) (ν : Mm), (μ 11 l 0 - c).toNat = q → 0 ≤ c → c ≤ μ 11 l 0 → (∀ k l1 i, ¬ (l1 = l ∧ (k = 19 ∨ k = 20)) → ν k l1 i = μ k l1 i) → (∀ j, 0 ≤ j → j < c → ν 19 l j = 0) → Ev mX2_findDoors 1 2 [some (vR 11 l), some (vI c), none] [] ν (fun r μ' => r = none ∧ (∀ k l1 i, ¬ (l1 = l ∧ (k = 19 ∨ k = 20)) → μ' k l1 i = μ k l1 i) ∧ (∀ c, 0 ≤ c → c < μ 11 l 0 → μ' 19 l c = (ct (fun t => μ 14 l t = c) (μ 13 l (μ 11 l 1)).toNat : Int) ∧ (ct (fun t => μ 14 l t = c) (μ 13 l (μ 11 l 1)).toNat ≠ 0 → (0 ≤ μ' 20 l c ∧ μ' 20 l c < μ 13 l (μ 11 l 1)) ∧ μ 14 l (μ' 20 l c) = c ∧ ∀ t, 0 ≤ t → t < μ 13 l (μ 11 l 1) → μ 14 l t = c → μ 17 l (μ' 20 l c) ≤ μ 17 l t))) := by
  intro q
  induction q using Nat.strongRecOn with
  | _ q ih =>
  intro c ν hq h0 h1 fr hI
  have hCc := capC_in l
  have hCp := capP_in l
  have hCe := capE_in l
  refine e_iload_n 1 (dec_at dX2_findDoors 2) rfl rfl ?_
  refine e_aload_n 0 (dec_at dX2_findDoors 3) rfl rfl ?_
  refine e_getiv 0 0 (μ 11 l 0) (dec_at dX2_findDoors 4) flX2_39 rfl rfl rfl (by exact fr 11 l 0 (by omega)) (fun r4 => ?_)
  refine e_icmp_ge 23 (dec_at dX2_findDoors 5) (by decide) (by omega) (by omega) (fun h7 => ?_) (fun h7 => ?_)
  · refine e_iconst (dec_at dX2_findDoors 13) ?_
    refine e_is1 (dec_at dX2_findDoors 14) (by decide) rfl ?_
    refine l_findDoors2 hC hP hn hr _ 0 ν rfl (by omega) (by omega) fr (fun j a b => ⟨?_, fun z => absurd rfl z⟩)
    rw [hI j a (by omega)]
    rfl
  · refine e_aload_n 0 (dec_at dX2_findDoors 6) rfl rfl ?_
    refine e_getr 10 (dec_at dX2_findDoors 7) flX2_33 rfl rfl ?_
    refine e_iload_n 1 (dec_at dX2_findDoors 8) rfl rfl ?_
    refine e_iconst (dec_at dX2_findDoors 9) ?_
    refine e_iast (dec_at dX2_findDoors 10) rfl (by decide) (aLk_19 _) (by omega) (by omega) ?_
    refine e_ii1 (dec_at dX2_findDoors 11) (by decide) rfl ?_
    refine e_goto 2 (dec_at dX2_findDoors 12) (by decide) ?_
    refine ih _ (by omega) (c + 1) _ rfl (by omega) (by omega) (fr_set fr (by omega)) (fun j a b => ?_)
    by_cases q : j = c
    · subst q; rw [mset_eq]
    · rw [mset_i q]; exact hI j a (by omega)

set_option maxRecDepth 100000 in
set_option maxHeartbeats 4000000 in
theorem c_findDoors {μ : Mm} (l : Int) (hC : 0 ≤ μ 11 l 0 ∧ μ 11 l 0 ≤ capC l) (hP : 0 ≤ μ 11 l 1 ∧ μ 11 l 1 ≤ capP l) (hn : 0 ≤ μ 13 l (μ 11 l 1) ∧ μ 13 l (μ 11 l 1) ≤ 2 * capE l) (hr : ∀ s, 0 ≤ s → s < μ 13 l (μ 11 l 1) → 0 ≤ μ 14 l s ∧ μ 14 l s < μ 11 l 0) : Mc mX2_findDoors 1 [vR 11 l] μ (fun r μ' => r = none ∧ (∀ k l1 i, ¬ (l1 = l ∧ (k = 19 ∨ k = 20)) → μ' k l1 i = μ k l1 i) ∧ (∀ c, 0 ≤ c → c < μ 11 l 0 → μ' 19 l c = (ct (fun t => μ 14 l t = c) (μ 13 l (μ 11 l 1)).toNat : Int) ∧ (ct (fun t => μ 14 l t = c) (μ 13 l (μ 11 l 1)).toNat ≠ 0 → (0 ≤ μ' 20 l c ∧ μ' 20 l c < μ 13 l (μ 11 l 1)) ∧ μ 14 l (μ' 20 l c) = c ∧ ∀ t, 0 ≤ t → t < μ 13 l (μ 11 l 1) → μ 14 l t = c → μ 17 l (μ' 20 l c) ≤ μ 17 l t))) := by
  refine Mc.of (L := [some (vR 11 l), none, none]) (by decide +kernel) (by simp [leL, entA, isLong, mX2_findDoors]) (by simp [entA, isLong, mX2_findDoors]) ?_
  have hCc := capC_in l
  have hCp := capP_in l
  have hCe := capE_in l
  refine e_iconst (dec_at dX2_findDoors 0) ?_
  refine e_is1 (dec_at dX2_findDoors 1) (by decide) rfl ?_
  exact l_findDoors1 hC hP hn hr _ 0 μ rfl (by omega) (by omega) (fun _ _ _ _ => rfl) (fun j a b => by omega)
