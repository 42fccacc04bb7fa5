set_option maxRecDepth 100000 in
set_option maxHeartbeats 4000000 in
theorem c_addCorner {μ : Mm} (hC : 0 ≤ μ 11 0 0 ∧ μ 11 0 0 < 14) : Mc mX2_addCorner 0 [vR 11 0, vR 2 0] μ (fun r μ' => r = none ∧ (∀ k l1 i, ¬ (l1 = 0 ∧ (k = 12 ∧ 3 * μ 11 0 0 ≤ i ∧ i ≤ 3 * μ 11 0 0 + 2 ∨ k = 11 ∧ i = 0)) → μ' k l1 i = μ k l1 i) ∧ μ' 11 0 0 = μ 11 0 0 + 1 ∧ ∀ a, 0 ≤ a → a < 3 → μ' 12 0 (3 * μ 11 0 0 + a) = μ 2 0 a) := by
  refine Mc.of (L := [some (vR 11 0), some (vR 2 0), none]) (by decide +kernel) (by simp [leL, entA, isLong, mX2_addCorner]) (by simp [entA, isLong, mX2_addCorner]) ?_
  have e1 : capC 0 = 14 := rfl
  have e2 : capP 0 = 14 := rfl
  have e3 : capE 0 = 42 := rfl
  refine e_iconst (dec_at dX2_addCorner 0) ?_
  refine e_is2 (dec_at dX2_addCorner 1) (by decide) rfl ?_
  refine e_iload_n 2 (dec_at dX2_addCorner 2) rfl rfl ?_
  refine e_iconst (dec_at dX2_addCorner 3) ?_
  refine e_icmp_ge 29 (dec_at dX2_addCorner 4) (by decide) (by decide) (by decide) (fun h => absurd h (by decide)) (fun _ => ?_)
  refine e_aload_n 0 (dec_at dX2_addCorner 5) rfl rfl ?_
  refine e_getr 3 (dec_at dX2_addCorner 6) flX2_9 rfl rfl ?_
  refine e_iconst (dec_at dX2_addCorner 7) ?_
  refine e_aload_n 0 (dec_at dX2_addCorner 8) rfl rfl ?_
  refine e_getiv 0 0 (μ 11 0 0) (dec_at dX2_addCorner 9) flX2_39 rfl rfl rfl (by rfl) (fun r13 => ?_)
  refine e_imul (dec_at dX2_addCorner 10) ?_
  refine e_iload_n 2 (dec_at dX2_addCorner 11) rfl rfl ?_
  refine e_iadd (dec_at dX2_addCorner 12) ?_
  refine e_aload_n 1 (dec_at dX2_addCorner 13) rfl rfl ?_
  refine e_iload_n 2 (dec_at dX2_addCorner 14) rfl rfl ?_
  refine e_ialdv (μ 2 0 0) (dec_at dX2_addCorner 15) rfl (by decide) (aLk_2 _) (by omega) (by rfl) (fun r21 => ?_)
  refine e_iast (dec_at dX2_addCorner 16) rfl (by decide) (aLk_12 _) (by omega) (by omega) ?_
  refine e_ii2 (dec_at dX2_addCorner 17) (by decide) rfl ?_
  refine e_goto 2 (dec_at dX2_addCorner 18) (by decide) ?_
  refine e_iload_n 2 (dec_at dX2_addCorner 2) rfl rfl ?_
  refine e_iconst (dec_at dX2_addCorner 3) ?_
  refine e_icmp_ge 29 (dec_at dX2_addCorner 4) (by decide) (by decide) (by decide) (fun h => absurd h (by decide)) (fun _ => ?_)
  refine e_aload_n 0 (dec_at dX2_addCorner 5) rfl rfl ?_
  refine e_getr 3 (dec_at dX2_addCorner 6) flX2_9 rfl rfl ?_
  refine e_iconst (dec_at dX2_addCorner 7) ?_
  refine e_aload_n 0 (dec_at dX2_addCorner 8) rfl rfl ?_
  refine e_getiv 0 0 (μ 11 0 0) (dec_at dX2_addCorner 9) flX2_39 rfl rfl rfl (by rw [mset_k (by decide)]) (fun r13 => ?_)
  refine e_imul (dec_at dX2_addCorner 10) ?_
  refine e_iload_n 2 (dec_at dX2_addCorner 11) rfl rfl ?_
  refine e_iadd (dec_at dX2_addCorner 12) ?_
  refine e_aload_n 1 (dec_at dX2_addCorner 13) rfl rfl ?_
  refine e_iload_n 2 (dec_at dX2_addCorner 14) rfl rfl ?_
  refine e_ialdv (μ 2 0 (0 + 1)) (dec_at dX2_addCorner 15) rfl (by decide) (aLk_2 _) (by omega) (by rw [mset_k (by decide)]) (fun r21 => ?_)
  refine e_iast (dec_at dX2_addCorner 16) rfl (by decide) (aLk_12 _) (by omega) (by omega) ?_
  refine e_ii2 (dec_at dX2_addCorner 17) (by decide) rfl ?_
  refine e_goto 2 (dec_at dX2_addCorner 18) (by decide) ?_
  refine e_iload_n 2 (dec_at dX2_addCorner 2) rfl rfl ?_
  refine e_iconst (dec_at dX2_addCorner 3) ?_
  refine e_icmp_ge 29 (dec_at dX2_addCorner 4) (by decide) (by decide) (by decide) (fun h => absurd h (by decide)) (fun _ => ?_)
  refine e_aload_n 0 (dec_at dX2_addCorner 5) rfl rfl ?_
  refine e_getr 3 (dec_at dX2_addCorner 6) flX2_9 rfl rfl ?_
  refine e_iconst (dec_at dX2_addCorner 7) ?_
  refine e_aload_n 0 (dec_at dX2_addCorner 8) rfl rfl ?_
  refine e_getiv 0 0 (μ 11 0 0) (dec_at dX2_addCorner 9) flX2_39 rfl rfl rfl (by rw [mset_k (by decide), mset_k (by decide)]) (fun r13 => ?_)
  refine e_imul (dec_at dX2_addCorner 10) ?_
  refine e_iload_n 2 (dec_at dX2_addCorner 11) rfl rfl ?_
  refine e_iadd (dec_at dX2_addCorner 12) ?_
  refine e_aload_n 1 (dec_at dX2_addCorner 13) rfl rfl ?_
  refine e_iload_n 2 (dec_at dX2_addCorner 14) rfl rfl ?_
  refine e_ialdv (μ 2 0 (0 + 1 + 1)) (dec_at dX2_addCorner 15) rfl (by decide) (aLk_2 _) (by omega) (by rw [mset_k (by decide), mset_k (by decide)]) (fun r21 => ?_)
  refine e_iast (dec_at dX2_addCorner 16) rfl (by decide) (aLk_12 _) (by omega) (by omega) ?_
  refine e_ii2 (dec_at dX2_addCorner 17) (by decide) rfl ?_
  refine e_goto 2 (dec_at dX2_addCorner 18) (by decide) ?_
  refine e_iload_n 2 (dec_at dX2_addCorner 2) rfl rfl ?_
  refine e_iconst (dec_at dX2_addCorner 3) ?_
  refine e_icmp_ge 29 (dec_at dX2_addCorner 4) (by decide) (by decide) (by decide) (fun _ => ?_) (fun h => absurd h (by decide))
  refine e_aload_n 0 (dec_at dX2_addCorner 19) rfl rfl ?_
  refine e_dup (dec_at dX2_addCorner 20) rfl ?_
  refine e_getiv 0 0 (μ 11 0 0) (dec_at dX2_addCorner 21) flX2_39 rfl rfl rfl (by rw [mset_k (by decide), mset_k (by decide), mset_k (by decide)]) (fun r31 => ?_)
  refine e_iconst (dec_at dX2_addCorner 22) ?_
  refine e_iadd (dec_at dX2_addCorner 23) ?_
  refine e_put 0 0 (dec_at dX2_addCorner 24) flX2_39 fpX2_0 rfl rfl rfl (by omega) (fit_int _) ?_
  refine e_return (dec_at dX2_addCorner 25) rfl ?_
  refine ⟨rfl, fun k l1 i z => ?_, mset_eq, fun a a0 a1 => ?_⟩
  · rw [mset_ne (by omega), mset_ne (by omega), mset_ne (by omega), mset_ne (by omega)]
  · rw [mset_k (by decide)]
    rcases (show a = 0 ∨ a = 1 ∨ a = 2 by omega) with rfl | rfl | rfl
    · rw [mset_i (by omega), mset_i (by omega)]
      exact mset_eq
    · rw [mset_i (by omega)]
      exact mset_eq
    · exact mset_eq

set_option maxRecDepth 100000 in
set_option maxHeartbeats 4000000 in
theorem l_addPlate {μ : Mm} {m : Int} (hP : 0 ≤ μ 11 0 1 ∧ μ 11 0 1 < 14) (hn : 0 ≤ μ 13 0 (μ 11 0 1) ∧ μ 13 0 (μ 11 0 1) + m ≤ 84) (hm : 0 ≤ m ∧ m ≤ 6) : ∀ (q : Nat) (k : Int) (ν : Mm), (m - k).toNat = q → 0 ≤ k → k ≤ m → (∀ k l1 i, ¬ (l1 = 0 ∧ (k = 14 ∨ k = 15) ∧ μ 13 0 (μ 11 0 1) ≤ i ∧ i < μ 13 0 (μ 11 0 1) + m) → ν k l1 i = μ k l1 i) → (∀ j, 0 ≤ j → j < k → ν 14 0 (μ 13 0 (μ 11 0 1) + j) = μ 2 0 j ∧ ν 15 0 (μ 13 0 (μ 11 0 1) + j) = μ 11 0 1) → Ev mX2_addPlate 1 8 [some (vR 11 0), some (vR 2 0), some (vI m), some (vI (μ 13 0 (μ 11 0 1))), some (vI k)] [] ν (fun r μ' => r = none ∧ (∀ k l1 i, ¬ (l1 = 0 ∧ ((k = 14 ∨ k = 15) ∧ μ 13 0 (μ 11 0 1) ≤ i ∧ i < μ 13 0 (μ 11 0 1) + m ∨ k = 11 ∧ i = 1 ∨ k = 13 ∧ i = μ 11 0 1 + 1)) → μ' k l1 i = μ k l1 i) ∧ μ' 11 0 1 = μ 11 0 1 + 1 ∧ μ' 13 0 (μ 11 0 1 + 1) = μ 13 0 (μ 11 0 1) + m ∧ (∀ j, 0 ≤ j → j < m → μ' 14 0 (μ 13 0 (μ 11 0 1) + j) = μ 2 0 j ∧ μ' 15 0 (μ 13 0 (μ 11 0 1) + j) = μ 11 0 1)) := by
  intro q
  induction q using Nat.strongRecOn with
  | _ q ih =>
  intro k ν hq h0 h1 fr hi
  have e1 : capC 0 = 14 := rfl
  have e2 : capP 0 = 14 := rfl
  have e3 : capE 0 = 42 := rfl
  refine e_iload (dec_at dX2_addPlate 5) rfl ?_
  refine e_iload_n 2 (dec_at dX2_addPlate 6) rfl rfl ?_
  refine e_icmp_ge 46 (dec_at dX2_addPlate 7) (by decide) (by omega) (by omega) (fun h11 => ?_) (fun h11 => ?_)
  · refine e_aload_n 0 (dec_at dX2_addPlate 27) rfl rfl ?_
    refine e_iload_n 3 (dec_at dX2_addPlate 28) rfl rfl ?_
    refine e_iload_n 2 (dec_at dX2_addPlate 29) rfl rfl ?_
    refine e_iadd (dec_at dX2_addPlate 30) ?_
    refine e_callVv (M' := mX2_closePlate) (dec_at dX2_addPlate 31) mlX2_57 (c_closePlate (μ := ν) 0 _ (by rw [fr 11 0 1 (by omega)]; omega) (by omega)) oX2_closePlate iX2_closePlate rfl rfl rfl rfl (by decide) (by decide) (Nat.le_of_ble_eq_true rfl) ?_
    refine e_return (dec_at dX2_addPlate 32) rfl ?_
    obtain rfl : k = m := by omega
    have e11 : ν 11 0 1 = μ 11 0 1 := fr 11 0 1 (by omega)
    refine ⟨rfl, fun k1 l1 i z => ?_, ?_, ?_, fun j a b => ?_⟩
    · rw [e11, mset_ne (by omega), mset_ne (by omega)]; exact fr k1 l1 i (by omega)
    · rw [mset_k (by decide), mset_eq, e11]
    · rw [e11, mset_eq]
    · rw [mset_k (by decide), mset_k (by decide), mset_k (by decide), mset_k (by decide)]; exact hi j a b
  · refine e_aload_n 0 (dec_at dX2_addPlate 8) rfl rfl ?_
    refine e_getr 5 (dec_at dX2_addPlate 9) flX2_18 rfl rfl ?_
    refine e_iload_n 3 (dec_at dX2_addPlate 10) rfl rfl ?_
    refine e_iload (dec_at dX2_addPlate 11) rfl ?_
    refine e_iadd (dec_at dX2_addPlate 12) ?_
    refine e_aload_n 1 (dec_at dX2_addPlate 13) rfl rfl ?_
    refine e_iload (dec_at dX2_addPlate 14) rfl ?_
    refine e_ialdv (μ 2 0 k) (dec_at dX2_addPlate 15) rfl (by decide) (aLk_2 _) (by omega) (by exact fr 2 0 k (by omega)) (fun r25 => ?_)
    refine e_iast (dec_at dX2_addPlate 16) rfl (by decide) (aLk_14 _) (by omega) (by omega) ?_
    refine e_aload_n 0 (dec_at dX2_addPlate 17) rfl rfl ?_
    refine e_getr 6 (dec_at dX2_addPlate 18) flX2_21 rfl rfl ?_
    refine e_iload_n 3 (dec_at dX2_addPlate 19) rfl rfl ?_
    refine e_iload (dec_at dX2_addPlate 20) rfl ?_
    refine e_iadd (dec_at dX2_addPlate 21) ?_
    refine e_aload_n 0 (dec_at dX2_addPlate 22) rfl rfl ?_
    refine e_getiv 1 1 (μ 11 0 1) (dec_at dX2_addPlate 23) flX2_43 rfl rfl rfl (by rw [mset_k (by decide)]; exact fr 11 0 1 (by omega)) (fun r36 => ?_)
    refine e_iast (dec_at dX2_addPlate 24) rfl (by decide) (aLk_15 _) (by omega) (by omega) ?_
    refine e_ii4 (dec_at dX2_addPlate 25) (by decide) rfl ?_
    refine e_goto 8 (dec_at dX2_addPlate 26) (by decide) ?_
    refine ih _ (by omega) (k + 1) _ rfl (by omega) (by omega) (fr_set (fr_set fr (by omega)) (by omega)) (fun j a b => ?_)
    by_cases q : j = k
    · subst q; rw [mset_k (by decide), mset_eq, mset_eq]; exact ⟨rfl, rfl⟩
    · rw [mset_k (by decide), mset_i (by omega), mset_i (by omega), mset_k (by decide)]; exact hi j a (by omega)

set_option maxRecDepth 100000 in
set_option maxHeartbeats 4000000 in
theorem c_addPlate {μ : Mm} (m : Int) (hP : 0 ≤ μ 11 0 1 ∧ μ 11 0 1 < 14) (hn : 0 ≤ μ 13 0 (μ 11 0 1) ∧ μ 13 0 (μ 11 0 1) + m ≤ 84) (hm : 0 ≤ m ∧ m ≤ 6) : Mc mX2_addPlate 1 [vR 11 0, vR 2 0, vI m] μ (fun r μ' => r = none ∧ (∀ k l1 i, ¬ (l1 = 0 ∧ ((k = 14 ∨ k = 15) ∧ μ 13 0 (μ 11 0 1) ≤ i ∧ i < μ 13 0 (μ 11 0 1) + m ∨ k = 11 ∧ i = 1 ∨ k = 13 ∧ i = μ 11 0 1 + 1)) → μ' k l1 i = μ k l1 i) ∧ μ' 11 0 1 = μ 11 0 1 + 1 ∧ μ' 13 0 (μ 11 0 1 + 1) = μ 13 0 (μ 11 0 1) + m ∧ (∀ j, 0 ≤ j → j < m → μ' 14 0 (μ 13 0 (μ 11 0 1) + j) = μ 2 0 j ∧ μ' 15 0 (μ 13 0 (μ 11 0 1) + j) = μ 11 0 1)) := by
  refine Mc.of (L := [some (vR 11 0), some (vR 2 0), some (vI m), none, none]) (by decide +kernel) (by simp [leL, entA, isLong, mX2_addPlate]) (by simp [entA, isLong, mX2_addPlate]) ?_
  have e1 : capC 0 = 14 := rfl
  have e2 : capP 0 = 14 := rfl
  have e3 : capE 0 = 42 := rfl
  refine e_aload_n 0 (dec_at dX2_addPlate 0) rfl rfl ?_
  refine e_callVr (M' := mX2_steps) (dec_at dX2_addPlate 1) mlX2_53 (c_steps (μ := μ) 0 (by omega)) oX2_steps iX2_steps rfl rfl rfl rfl (by decide) (by decide) (Nat.le_of_ble_eq_true rfl) ?_
  refine e_is3 (dec_at dX2_addPlate 2) (by decide) rfl ?_
  refine e_iconst (dec_at dX2_addPlate 3) ?_
  refine e_is4 (dec_at dX2_addPlate 4) (by decide) rfl ?_
  exact l_addPlate hP hn hm _ 0 μ rfl (by omega) (by omega) (fun _ _ _ _ => rfl) (fun j a b => by omega)

set_option maxRecDepth 100000 in
set_option maxHeartbeats 4000000 in
theorem l_turn {μ : Mm} {f : Int} (hf : 0 ≤ f ∧ f < 14) (h0 : 0 ≤ μ 13 0 f) (h1 : μ 13 0 f + 3 ≤ μ 13 0 (f + 1)) (h2 : μ 13 0 (f + 1) ≤ 84) : ∀ (q : Nat) (t : Int) (ν : Mm), (μ 13 0 (f + 1) - 1 - (μ 13 0 f + 1) - t).toNat = q → 0 ≤ t → 2 * t ≤ μ 13 0 (f + 1) - 1 - (μ 13 0 f + 1) + 1 → (∀ k l1 i, ¬ (k = 14 ∧ l1 = 0 ∧ μ 13 0 f + 1 ≤ i ∧ i ≤ μ 13 0 (f + 1) - 1) → ν k l1 i = μ k l1 i) → (∀ i, μ 13 0 f + 1 + t ≤ i → i ≤ μ 13 0 (f + 1) - 1 - t → ν 14 0 i = μ 14 0 i) → (∀ i, μ 13 0 f + 1 ≤ i → i ≤ μ 13 0 (f + 1) - 1 → (i < μ 13 0 f + 1 + t ∨ μ 13 0 (f + 1) - 1 - t < i) → ν 14 0 i = μ 14 0 (μ 13 0 f + 1 + (μ 13 0 (f + 1) - 1) - i)) → Ev mX2_turnPlate 0 20 [some (vR 11 0), some (vI f), some (vI (μ 13 0 f + 1 + t)), some (vI (μ 13 0 (f + 1) - 1 - t)), none] [] ν (fun r μ' => r = none ∧ (∀ k l1 i, ¬ (k = 14 ∧ l1 = 0 ∧ μ 13 0 f + 1 ≤ i ∧ i ≤ μ 13 0 (f + 1) - 1) → μ' k l1 i = μ k l1 i) ∧ ∀ i, μ 13 0 f + 1 ≤ i → i ≤ μ 13 0 (f + 1) - 1 → μ' 14 0 i = μ 14 0 (μ 13 0 f + 1 + (μ 13 0 (f + 1) - 1) - i)) := by
  intro q
  induction q using Nat.strongRecOn with
  | _ q ih =>
  intro t ν hq t0 t1 fr ha hb
  have e1 : capC 0 = 14 := rfl
  have e2 : capP 0 = 14 := rfl
  have e3 : capE 0 = 42 := rfl
  refine e_iload_n 2 (dec_at dX2_turnPlate 16) rfl rfl ?_
  refine e_iload_n 3 (dec_at dX2_turnPlate 17) rfl rfl ?_
  refine e_icmp_ge 62 (dec_at dX2_turnPlate 18) (by decide) (by omega) (by omega) (fun h22 => ?_) (fun h22 => ?_)
  · refine e_return (dec_at dX2_turnPlate 40) rfl ?_
    refine ⟨rfl, fr, fun i a b => ?_⟩
    by_cases q : i < μ 13 0 f + 1 + t ∨ μ 13 0 (f + 1) - 1 - t < i
    · exact hb i a b q
    · rw [ha i (by omega) (by omega)]
      congr 1
      omega
  · refine e_aload_n 0 (dec_at dX2_turnPlate 19) rfl rfl ?_
    refine e_getr 5 (dec_at dX2_turnPlate 20) flX2_18 rfl rfl ?_
    refine e_iload_n 2 (dec_at dX2_turnPlate 21) rfl rfl ?_
    refine e_ialdv (μ 14 0 (μ 13 0 f + 1 + t)) (dec_at dX2_turnPlate 22) rfl (by decide) (aLk_14 _) (by omega) (by exact ha _ (by omega) (by omega)) (fun r30 => ?_)
    refine e_is4 (dec_at dX2_turnPlate 23) (by decide) rfl ?_
    refine e_aload_n 0 (dec_at dX2_turnPlate 24) rfl rfl ?_
    refine e_getr 5 (dec_at dX2_turnPlate 25) flX2_18 rfl rfl ?_
    refine e_iload_n 2 (dec_at dX2_turnPlate 26) rfl rfl ?_
    refine e_aload_n 0 (dec_at dX2_turnPlate 27) rfl rfl ?_
    refine e_getr 5 (dec_at dX2_turnPlate 28) flX2_18 rfl rfl ?_
    refine e_iload_n 3 (dec_at dX2_turnPlate 29) rfl rfl ?_
    refine e_ialdv (μ 14 0 (μ 13 0 (f + 1) - 1 - t)) (dec_at dX2_turnPlate 30) rfl (by decide) (aLk_14 _) (by omega) (by exact ha _ (by omega) (by omega)) (fun r43 => ?_)
    refine e_iast (dec_at dX2_turnPlate 31) rfl (by decide) (aLk_14 _) (by omega) (by omega) ?_
    refine e_aload_n 0 (dec_at dX2_turnPlate 32) rfl rfl ?_
    refine e_getr 5 (dec_at dX2_turnPlate 33) flX2_18 rfl rfl ?_
    refine e_iload_n 3 (dec_at dX2_turnPlate 34) rfl rfl ?_
    refine e_iload (dec_at dX2_turnPlate 35) rfl ?_
    refine e_iast (dec_at dX2_turnPlate 36) rfl (by decide) (aLk_14 _) (by omega) (by omega) ?_
    refine e_ii2 (dec_at dX2_turnPlate 37) (by decide) rfl ?_
    refine e_ii3 (dec_at dX2_turnPlate 38) (by decide) rfl ?_
    refine e_goto 20 (dec_at dX2_turnPlate 39) (by decide) ?_
    have e1 : μ 13 0 f + 1 + t + 1 = μ 13 0 f + 1 + (t + 1) := by omega
    have e2 : μ 13 0 (f + 1) - 1 - t + -1 = μ 13 0 (f + 1) - 1 - (t + 1) := by omega
    rw [e1, e2]
    refine e_le [some (vR 11 0), some (vI f), some (vI (μ 13 0 f + 1 + (t + 1))), some (vI (μ 13 0 (f + 1) - 1 - (t + 1))), none] (by simp [leL]) (ih _ (by omega) (t + 1) _ rfl (by omega) (by omega) (fr_set (fr_set fr (by omega)) (by omega)) (fun i a b => ?_) (fun i a b c => ?_))
    · rw [mset_i (by omega), mset_i (by omega)]; exact ha i (by omega) (by omega)
    · by_cases q1 : i = μ 13 0 (f + 1) - 1 - t
      · subst q1
        rw [mset_eq]
        congr 1
        omega
      · rw [mset_i q1]
        by_cases q2 : i = μ 13 0 f + 1 + t
        · subst q2
          rw [mset_eq]
          congr 1
          omega
        · rw [mset_i q2]; exact hb i a b (by omega)

set_option maxRecDepth 100000 in
set_option maxHeartbeats 4000000 in
theorem c_turnPlate {μ : Mm} (f : Int) (hf : 0 ≤ f ∧ f < 14) (h0 : 0 ≤ μ 13 0 f) (h1 : μ 13 0 f + 3 ≤ μ 13 0 (f + 1)) (h2 : μ 13 0 (f + 1) ≤ 84) : Mc mX2_turnPlate 0 [vR 11 0, vI f] μ (fun r μ' => r = none ∧ (∀ k l1 i, ¬ (k = 14 ∧ l1 = 0 ∧ μ 13 0 f + 1 ≤ i ∧ i ≤ μ 13 0 (f + 1) - 1) → μ' k l1 i = μ k l1 i) ∧ ∀ i, μ 13 0 f + 1 ≤ i → i ≤ μ 13 0 (f + 1) - 1 → μ' 14 0 i = μ 14 0 (μ 13 0 f + 1 + (μ 13 0 (f + 1) - 1) - i)) := by
  refine Mc.of (L := [some (vR 11 0), some (vI f), none, none, none]) (by decide +kernel) (by simp [leL, entA, isLong, mX2_turnPlate]) (by simp [entA, isLong, mX2_turnPlate]) ?_
  have e1 : capC 0 = 14 := rfl
  have e2 : capP 0 = 14 := rfl
  have e3 : capE 0 = 42 := rfl
  refine e_aload_n 0 (dec_at dX2_turnPlate 0) rfl rfl ?_
  refine e_getr 4 (dec_at dX2_turnPlate 1) flX2_15 rfl rfl ?_
  refine e_iload_n 1 (dec_at dX2_turnPlate 2) rfl rfl ?_
  refine e_iald (dec_at dX2_turnPlate 3) rfl (by decide) (aLk_13 _) (by omega) (fun r5 => ?_)
  refine e_iconst (dec_at dX2_turnPlate 4) ?_
  refine e_iadd (dec_at dX2_turnPlate 5) ?_
  refine e_is2 (dec_at dX2_turnPlate 6) (by decide) rfl ?_
  refine e_aload_n 0 (dec_at dX2_turnPlate 7) rfl rfl ?_
  refine e_getr 4 (dec_at dX2_turnPlate 8) flX2_15 rfl rfl ?_
  refine e_iload_n 1 (dec_at dX2_turnPlate 9) rfl rfl ?_
  refine e_iconst (dec_at dX2_turnPlate 10) ?_
  refine e_iadd (dec_at dX2_turnPlate 11) ?_
  refine e_iald (dec_at dX2_turnPlate 12) rfl (by decide) (aLk_13 _) (by omega) (fun r16 => ?_)
  refine e_iconst (dec_at dX2_turnPlate 13) ?_
  refine e_isub (dec_at dX2_turnPlate 14) ?_
  refine e_is3 (dec_at dX2_turnPlate 15) (by decide) rfl ?_
  have z := l_turn (μ := μ) (f := f) hf h0 h1 h2 _ 0 μ rfl (by omega) (by omega) (fun _ _ _ _ => rfl) (fun _ _ _ => rfl) (fun i a b c => by omega)
  rw [show μ 13 0 f + 1 + 0 = μ 13 0 f + 1 by omega, show μ 13 0 (f + 1) - 1 - 0 = μ 13 0 (f + 1) - 1 by omega] at z
  exact z
