/-- the moves as the class keeps them -/
def ky (μ : Mm) (i : Int) : Int := 10000 * μ 8 0 i + μ 9 0 i
def Mv (μ : Mm) : Prop := (0 ≤ μ 7 0 3 ∧ μ 7 0 3 ≤ 40) ∧ (∀ i, 0 ≤ i → i < μ 7 0 3 → (1 ≤ μ 8 0 i ∧ μ 8 0 i ≤ 3) ∧ (0 ≤ μ 9 0 i ∧ μ 9 0 i ≤ 1000) ∧ ∀ a, 0 ≤ a → a < 3 → -1000 ≤ μ 10 0 (3 * i + a) ∧ μ 10 0 (3 * i + a) ≤ 1000) ∧ (∀ i j, 0 ≤ i → i < j → j < μ 7 0 3 → ky μ i < ky μ j)

set_option maxRecDepth 100000 in
set_option maxHeartbeats 4000000 in
theorem l_rank {μ : Mm} {L c : Int} (h : Mv μ) (hL : 1 ≤ L ∧ L ≤ 3) (hc : 0 ≤ c ∧ c ≤ 1000) : ∀ (q : Nat) (m : Int), (μ 7 0 3 - m).toNat = q → 0 ≤ m → m ≤ μ 7 0 3 → (∀ i, 0 ≤ i → i < m → ky μ i < 10000 * L + c) → Ev mX1_rank 0 2 [some (vR 7 0), some (vI L), some (vI c), some (vI m)] [] μ (fun r μ' => μ' = μ ∧ ∃ v, r = some (vI v) ∧ (0 ≤ v ∧ v ≤ μ 7 0 3) ∧ (∀ i, 0 ≤ i → i < v → ky μ i < 10000 * L + c) ∧ (∀ i, v ≤ i → i < μ 7 0 3 → 10000 * L + c ≤ ky μ i)) := by
  intro q
  induction q using Nat.strongRecOn with
  | _ q ih =>
  intro m hq h0 h1 hi
  have hm := h.1
  refine e_iload_n 3 (dec_at dX1_rank 2) rfl rfl ?_
  refine e_aload_n 0 (dec_at dX1_rank 3) rfl rfl ?_
  refine e_geti 3 3 (dec_at dX1_rank 4) flX1_21 rfl rfl rfl (fun r4 => ?_)
  refine e_icmp_ge 46 (dec_at dX1_rank 5) (by decide) (by omega) (by omega) (fun h7 => ?_) (fun h7 => ?_)
  · refine e_iload_n 3 (dec_at dX1_rank 26) rfl rfl ?_
    refine e_ireturn (dec_at dX1_rank 27) rfl ?_
    refine ⟨rfl, m, rfl, ⟨h0, h1⟩, hi, fun i a b => ?_⟩
    have hk : 10000 * L + c ≤ ky μ m := by
      have hq2 := h.2.1 m h0 (by omega)
      unfold ky
      omega
    by_cases q : i = m
    · subst q; exact hk
    · have := h.2.2 m i h0 (by omega) b
      omega
  · have hq2 := h.2.1 m h0 (by omega)
    refine e_aload_n 0 (dec_at dX1_rank 6) rfl rfl ?_
    refine e_getr 0 (dec_at dX1_rank 7) flX1_9 rfl rfl ?_
    refine e_iload_n 3 (dec_at dX1_rank 8) rfl rfl ?_
    refine e_iald (dec_at dX1_rank 9) rfl (by decide) (aLk_8 _) (by omega) (fun r15 => ?_)
    refine e_iload_n 1 (dec_at dX1_rank 10) rfl rfl ?_
    refine e_icmp_lt 40 (dec_at dX1_rank 11) (by decide) (by omega) (by omega) (fun h17 => ?_) (fun h17 => ?_)
    · refine e_ii3 (dec_at dX1_rank 24) (by decide) rfl ?_
      refine e_goto 2 (dec_at dX1_rank 25) (by decide) ?_
      refine ih _ (by omega) (m + 1) rfl (by omega) (by omega) (fun i a b => ?_)
      by_cases q : i = m
      · subst q
        unfold ky
        omega
      · exact hi i a (by omega)
    · refine e_aload_n 0 (dec_at dX1_rank 12) rfl rfl ?_
      refine e_getr 0 (dec_at dX1_rank 13) flX1_9 rfl rfl ?_
      refine e_iload_n 3 (dec_at dX1_rank 14) rfl rfl ?_
      refine e_iald (dec_at dX1_rank 15) rfl (by decide) (aLk_8 _) (by omega) (fun r25 => ?_)
      refine e_iload_n 1 (dec_at dX1_rank 16) rfl rfl ?_
      refine e_icmp_ne 46 (dec_at dX1_rank 17) (by decide) (by omega) (by omega) (fun h27 => ?_) (fun h27 => ?_)
      · refine e_iload_n 3 (dec_at dX1_rank 26) rfl rfl ?_
        refine e_ireturn (dec_at dX1_rank 27) rfl ?_
        refine ⟨rfl, m, rfl, ⟨h0, h1⟩, hi, fun i a b => ?_⟩
        have hk : 10000 * L + c ≤ ky μ m := by
          have hq2 := h.2.1 m h0 (by omega)
          unfold ky
          omega
        by_cases q : i = m
        · subst q; exact hk
        · have := h.2.2 m i h0 (by omega) b
          omega
      · refine e_aload_n 0 (dec_at dX1_rank 18) rfl rfl ?_
        refine e_getr 1 (dec_at dX1_rank 19) flX1_15 rfl rfl ?_
        refine e_iload_n 3 (dec_at dX1_rank 20) rfl rfl ?_
        refine e_iald (dec_at dX1_rank 21) rfl (by decide) (aLk_9 _) (by omega) (fun r35 => ?_)
        refine e_iload_n 2 (dec_at dX1_rank 22) rfl rfl ?_
        refine e_icmp_ge 46 (dec_at dX1_rank 23) (by decide) (by omega) (by omega) (fun h37 => ?_) (fun h37 => ?_)
        · refine e_iload_n 3 (dec_at dX1_rank 26) rfl rfl ?_
          refine e_ireturn (dec_at dX1_rank 27) rfl ?_
          refine ⟨rfl, m, rfl, ⟨h0, h1⟩, hi, fun i a b => ?_⟩
          have hk : 10000 * L + c ≤ ky μ m := by
            have hq2 := h.2.1 m h0 (by omega)
            unfold ky
            omega
          by_cases q : i = m
          · subst q; exact hk
          · have := h.2.2 m i h0 (by omega) b
            omega
        · refine e_ii3 (dec_at dX1_rank 24) (by decide) rfl ?_
          refine e_goto 2 (dec_at dX1_rank 25) (by decide) ?_
          refine ih _ (by omega) (m + 1) rfl (by omega) (by omega) (fun i a b => ?_)
          by_cases q : i = m
          · subst q
            unfold ky
            omega
          · exact hi i a (by omega)

set_option maxRecDepth 100000 in
set_option maxHeartbeats 4000000 in
theorem c_rank {μ : Mm} (L c : Int) (h : Mv μ) (hL : 1 ≤ L ∧ L ≤ 3) (hc : 0 ≤ c ∧ c ≤ 1000) : Mc mX1_rank 0 [vR 7 0, vI L, vI c] μ (fun r μ' => μ' = μ ∧ ∃ v, r = some (vI v) ∧ (0 ≤ v ∧ v ≤ μ 7 0 3) ∧ (∀ i, 0 ≤ i → i < v → ky μ i < 10000 * L + c) ∧ (∀ i, v ≤ i → i < μ 7 0 3 → 10000 * L + c ≤ ky μ i)) := by
  refine Mc.of (L := [some (vR 7 0), some (vI L), some (vI c), none]) (by decide +kernel) (by simp [leL, entA, isLong, mX1_rank]) (by simp [entA, isLong, mX1_rank]) ?_
  have hm := h.1
  refine e_iconst (dec_at dX1_rank 0) ?_
  refine e_is3 (dec_at dX1_rank 1) (by decide) rfl ?_
  exact l_rank h hL hc _ 0 rfl (by omega) (by omega) (fun i a b => by omega)

set_option maxRecDepth 100000 in
set_option maxHeartbeats 4000000 in
theorem c_find {μ : Mm} (L c : Int) (h : Mv μ) (hL : 1 ≤ L ∧ L ≤ 3) (hc : 0 ≤ c ∧ c ≤ 1000) : Mc mX1_find 1 [vR 7 0, vI L, vI c] μ (fun r μ' => μ' = μ ∧ ∃ v, r = some (vI v) ∧ (((0 ≤ v ∧ v < μ 7 0 3) ∧ μ 8 0 v = L ∧ μ 9 0 v = c) ∨ (v = -1 ∧ ∀ i, 0 ≤ i → i < μ 7 0 3 → ¬ (μ 8 0 i = L ∧ μ 9 0 i = c)))) := by
  refine Mc.of (L := [some (vR 7 0), some (vI L), some (vI c), none]) (by decide +kernel) (by simp [leL, entA, isLong, mX1_find]) (by simp [entA, isLong, mX1_find]) ?_
  have hm := h.1
  refine e_aload_n 0 (dec_at dX1_find 0) rfl rfl ?_
  refine e_iload_n 1 (dec_at dX1_find 1) rfl rfl ?_
  refine e_iload_n 2 (dec_at dX1_find 2) rfl rfl ?_
  refine e_callV (M' := mX1_rank) (dec_at dX1_find 3) mlX1_25 (c_rank (μ := μ) L c h hL hc) oX1_rank iX1_rank rfl rfl rfl rfl (by decide) (by decide) (Nat.le_of_ble_eq_true rfl) (fun r μ1 hQ => ?_)
  obtain ⟨rfl, v, rfl, v1, v2, v3⟩ := hQ
  show Ev mX1_find 1 6 _ [vI v] μ1 _
  refine e_is3 (dec_at dX1_find 4) (by decide) rfl ?_
  refine e_iload_n 3 (dec_at dX1_find 5) rfl rfl ?_
  refine e_aload_n 0 (dec_at dX1_find 6) rfl rfl ?_
  refine e_geti 3 3 (dec_at dX1_find 7) flX1_21 rfl rfl rfl (fun r9 => ?_)
  refine e_icmp_ge 39 (dec_at dX1_find 8) (by decide) (by omega) (by omega) (fun h12 => ?_) (fun h12 => ?_)
  · refine e_iconst (dec_at dX1_find 23) ?_
    refine e_ireturn (dec_at dX1_find 24) rfl ?_
    refine ⟨rfl, -1, rfl, Or.inr ⟨rfl, fun i a b z => ?_⟩⟩
    by_cases q : i < v
    · have := v2 i a q
      unfold ky at this
      omega
    · have y := v3 v (by omega) (by omega)
      have hq2 := h.2.1 v v1.1 (by omega)
      by_cases w : i = v
      · subst w; omega
      · have := h.2.2 v i v1.1 (by omega) b
        unfold ky at this y
        omega
  · have hq1 := h.2.1 v v1.1 (by omega)
    refine e_aload_n 0 (dec_at dX1_find 9) rfl rfl ?_
    refine e_getr 0 (dec_at dX1_find 10) flX1_9 rfl rfl ?_
    refine e_iload_n 3 (dec_at dX1_find 11) rfl rfl ?_
    refine e_iald (dec_at dX1_find 12) rfl (by decide) (aLk_8 _) (by omega) (fun r20 => ?_)
    refine e_iload_n 1 (dec_at dX1_find 13) rfl rfl ?_
    refine e_icmp_ne 39 (dec_at dX1_find 14) (by decide) (by omega) (by omega) (fun h22 => ?_) (fun h22 => ?_)
    · refine e_iconst (dec_at dX1_find 23) ?_
      refine e_ireturn (dec_at dX1_find 24) rfl ?_
      refine ⟨rfl, -1, rfl, Or.inr ⟨rfl, fun i a b z => ?_⟩⟩
      by_cases q : i < v
      · have := v2 i a q
        unfold ky at this
        omega
      · have y := v3 v (by omega) (by omega)
        have hq2 := h.2.1 v v1.1 (by omega)
        by_cases w : i = v
        · subst w; omega
        · have := h.2.2 v i v1.1 (by omega) b
          unfold ky at this y
          omega
    · refine e_aload_n 0 (dec_at dX1_find 15) rfl rfl ?_
      refine e_getr 1 (dec_at dX1_find 16) flX1_15 rfl rfl ?_
      refine e_iload_n 3 (dec_at dX1_find 17) rfl rfl ?_
      refine e_iald (dec_at dX1_find 18) rfl (by decide) (aLk_9 _) (by omega) (fun r30 => ?_)
      refine e_iload_n 2 (dec_at dX1_find 19) rfl rfl ?_
      refine e_icmp_ne 39 (dec_at dX1_find 20) (by decide) (by omega) (by omega) (fun h32 => ?_) (fun h32 => ?_)
      · refine e_iconst (dec_at dX1_find 23) ?_
        refine e_ireturn (dec_at dX1_find 24) rfl ?_
        refine ⟨rfl, -1, rfl, Or.inr ⟨rfl, fun i a b z => ?_⟩⟩
        by_cases q : i < v
        · have := v2 i a q
          unfold ky at this
          omega
        · have y := v3 v (by omega) (by omega)
          have hq2 := h.2.1 v v1.1 (by omega)
          by_cases w : i = v
          · subst w; omega
          · have := h.2.2 v i v1.1 (by omega) b
            unfold ky at this y
            omega
      · refine e_iload_n 3 (dec_at dX1_find 21) rfl rfl ?_
        refine e_goto 40 (dec_at dX1_find 22) (by decide) ?_
        refine e_ireturn (dec_at dX1_find 24) rfl ?_
        exact ⟨rfl, v, rfl, Or.inl ⟨⟨v1.1, by omega⟩, by omega, by omega⟩⟩

set_option maxRecDepth 100000 in
set_option maxHeartbeats 4000000 in
theorem c_shift {μ : Mm} (f t : Int) (hf : 0 ≤ f ∧ f < 40) (ht : 0 ≤ t ∧ t < 40) (hn : f ≠ t) : Mc mX1_shift 0 [vR 7 0, vI f, vI t] μ (fun r μ' => r = none ∧ (∀ k l1 i, ¬ (k = 8 ∧ i = t ∨ k = 9 ∧ i = t ∨ k = 10 ∧ 3 * t ≤ i ∧ i ≤ 3 * t + 2) → μ' k l1 i = μ k l1 i) ∧ μ' 8 0 t = μ 8 0 f ∧ μ' 9 0 t = μ 9 0 f ∧ ∀ a, 0 ≤ a → a < 3 → μ' 10 0 (3 * t + a) = μ 10 0 (3 * f + a)) := by
  refine Mc.of (L := [some (vR 7 0), some (vI f), some (vI t), none]) (by decide +kernel) (by simp [leL, entA, isLong, mX1_shift]) (by simp [entA, isLong, mX1_shift]) ?_
  refine e_aload_n 0 (dec_at dX1_shift 0) rfl rfl ?_
  refine e_getr 0 (dec_at dX1_shift 1) flX1_9 rfl rfl ?_
  refine e_iload_n 2 (dec_at dX1_shift 2) rfl rfl ?_
  refine e_aload_n 0 (dec_at dX1_shift 3) rfl rfl ?_
  refine e_getr 0 (dec_at dX1_shift 4) flX1_9 rfl rfl ?_
  refine e_iload_n 1 (dec_at dX1_shift 5) rfl rfl ?_
  refine e_iald (dec_at dX1_shift 6) rfl (by decide) (aLk_8 _) (by omega) (fun r10 => ?_)
  refine e_iast (dec_at dX1_shift 7) rfl (by decide) (aLk_8 _) (by omega) (by omega) ?_
  refine e_aload_n 0 (dec_at dX1_shift 8) rfl rfl ?_
  refine e_getr 1 (dec_at dX1_shift 9) flX1_15 rfl rfl ?_
  refine e_iload_n 2 (dec_at dX1_shift 10) rfl rfl ?_
  refine e_aload_n 0 (dec_at dX1_shift 11) rfl rfl ?_
  refine e_getr 1 (dec_at dX1_shift 12) flX1_15 rfl rfl ?_
  refine e_iload_n 1 (dec_at dX1_shift 13) rfl rfl ?_
  refine e_ialdv (μ 9 0 f) (dec_at dX1_shift 14) rfl (by decide) (aLk_9 _) (by omega) (by rw [mset_k (by decide)]) (fun r22 => ?_)
  refine e_iast (dec_at dX1_shift 15) rfl (by decide) (aLk_9 _) (by omega) (by omega) ?_
  refine e_iconst (dec_at dX1_shift 16) ?_
  refine e_is3 (dec_at dX1_shift 17) (by decide) rfl ?_
  refine e_iload_n 3 (dec_at dX1_shift 18) rfl rfl ?_
  refine e_iconst (dec_at dX1_shift 19) ?_
  refine e_icmp_ge 57 (dec_at dX1_shift 20) (by decide) (by decide) (by decide) (fun h => absurd h (by decide)) (fun _ => ?_)
  refine e_aload_n 0 (dec_at dX1_shift 21) rfl rfl ?_
  refine e_getr 2 (dec_at dX1_shift 22) flX1_18 rfl rfl ?_
  refine e_iconst (dec_at dX1_shift 23) ?_
  refine e_iload_n 2 (dec_at dX1_shift 24) rfl rfl ?_
  refine e_imul (dec_at dX1_shift 25) ?_
  refine e_iload_n 3 (dec_at dX1_shift 26) rfl rfl ?_
  refine e_iadd (dec_at dX1_shift 27) ?_
  refine e_aload_n 0 (dec_at dX1_shift 28) rfl rfl ?_
  refine e_getr 2 (dec_at dX1_shift 29) flX1_18 rfl rfl ?_
  refine e_iconst (dec_at dX1_shift 30) ?_
  refine e_iload_n 1 (dec_at dX1_shift 31) rfl rfl ?_
  refine e_imul (dec_at dX1_shift 32) ?_
  refine e_iload_n 3 (dec_at dX1_shift 33) rfl rfl ?_
  refine e_iadd (dec_at dX1_shift 34) ?_
  refine e_ialdv (μ 10 0 (3 * f + 0)) (dec_at dX1_shift 35) rfl (by decide) (aLk_10 _) (by omega) (by rw [mset_k (by decide), mset_k (by decide)]) (fun r49 => ?_)
  refine e_iast (dec_at dX1_shift 36) rfl (by decide) (aLk_10 _) (by omega) (by omega) ?_
  refine e_ii3 (dec_at dX1_shift 37) (by decide) rfl ?_
  refine e_goto 26 (dec_at dX1_shift 38) (by decide) ?_
  refine e_iload_n 3 (dec_at dX1_shift 18) rfl rfl ?_
  refine e_iconst (dec_at dX1_shift 19) ?_
  refine e_icmp_ge 57 (dec_at dX1_shift 20) (by decide) (by decide) (by decide) (fun h => absurd h (by decide)) (fun _ => ?_)
  refine e_aload_n 0 (dec_at dX1_shift 21) rfl rfl ?_
  refine e_getr 2 (dec_at dX1_shift 22) flX1_18 rfl rfl ?_
  refine e_iconst (dec_at dX1_shift 23) ?_
  refine e_iload_n 2 (dec_at dX1_shift 24) rfl rfl ?_
  refine e_imul (dec_at dX1_shift 25) ?_
  refine e_iload_n 3 (dec_at dX1_shift 26) rfl rfl ?_
  refine e_iadd (dec_at dX1_shift 27) ?_
  refine e_aload_n 0 (dec_at dX1_shift 28) rfl rfl ?_
  refine e_getr 2 (dec_at dX1_shift 29) flX1_18 rfl rfl ?_
  refine e_iconst (dec_at dX1_shift 30) ?_
  refine e_iload_n 1 (dec_at dX1_shift 31) rfl rfl ?_
  refine e_imul (dec_at dX1_shift 32) ?_
  refine e_iload_n 3 (dec_at dX1_shift 33) rfl rfl ?_
  refine e_iadd (dec_at dX1_shift 34) ?_
  refine e_ialdv (μ 10 0 (3 * f + (0 + 1))) (dec_at dX1_shift 35) rfl (by decide) (aLk_10 _) (by omega) (by rw [mset_i (by omega), mset_k (by decide), mset_k (by decide)]) (fun r49 => ?_)
  refine e_iast (dec_at dX1_shift 36) rfl (by decide) (aLk_10 _) (by omega) (by omega) ?_
  refine e_ii3 (dec_at dX1_shift 37) (by decide) rfl ?_
  refine e_goto 26 (dec_at dX1_shift 38) (by decide) ?_
  refine e_iload_n 3 (dec_at dX1_shift 18) rfl rfl ?_
  refine e_iconst (dec_at dX1_shift 19) ?_
  refine e_icmp_ge 57 (dec_at dX1_shift 20) (by decide) (by decide) (by decide) (fun h => absurd h (by decide)) (fun _ => ?_)
  refine e_aload_n 0 (dec_at dX1_shift 21) rfl rfl ?_
  refine e_getr 2 (dec_at dX1_shift 22) flX1_18 rfl rfl ?_
  refine e_iconst (dec_at dX1_shift 23) ?_
  refine e_iload_n 2 (dec_at dX1_shift 24) rfl rfl ?_
  refine e_imul (dec_at dX1_shift 25) ?_
  refine e_iload_n 3 (dec_at dX1_shift 26) rfl rfl ?_
  refine e_iadd (dec_at dX1_shift 27) ?_
  refine e_aload_n 0 (dec_at dX1_shift 28) rfl rfl ?_
  refine e_getr 2 (dec_at dX1_shift 29) flX1_18 rfl rfl ?_
  refine e_iconst (dec_at dX1_shift 30) ?_
  refine e_iload_n 1 (dec_at dX1_shift 31) rfl rfl ?_
  refine e_imul (dec_at dX1_shift 32) ?_
  refine e_iload_n 3 (dec_at dX1_shift 33) rfl rfl ?_
  refine e_iadd (dec_at dX1_shift 34) ?_
  refine e_ialdv (μ 10 0 (3 * f + (0 + 1 + 1))) (dec_at dX1_shift 35) rfl (by decide) (aLk_10 _) (by omega) (by rw [mset_i (by omega), mset_i (by omega), mset_k (by decide), mset_k (by decide)]) (fun r49 => ?_)
  refine e_iast (dec_at dX1_shift 36) rfl (by decide) (aLk_10 _) (by omega) (by omega) ?_
  refine e_ii3 (dec_at dX1_shift 37) (by decide) rfl ?_
  refine e_goto 26 (dec_at dX1_shift 38) (by decide) ?_
  refine e_iload_n 3 (dec_at dX1_shift 18) rfl rfl ?_
  refine e_iconst (dec_at dX1_shift 19) ?_
  refine e_icmp_ge 57 (dec_at dX1_shift 20) (by decide) (by decide) (by decide) (fun _ => ?_) (fun h => absurd h (by decide))
  refine e_return (dec_at dX1_shift 39) rfl ?_
  refine ⟨rfl, fun k l1 i z => ?_, ?_, ?_, fun a a0 a1 => ?_⟩
  · rw [mset_ne (by omega), mset_ne (by omega), mset_ne (by omega), mset_ne (by omega), mset_ne (by omega)]
  · rw [mset_k (by decide), mset_k (by decide), mset_k (by decide), mset_k (by decide), mset_eq]
  · rw [mset_k (by decide), mset_k (by decide), mset_k (by decide), mset_eq]
  · rcases (show a = 0 ∨ a = 1 ∨ a = 2 by omega) with rfl | rfl | rfl
    · rw [mset_i (by omega), mset_i (by omega)]
      exact mset_eq
    · rw [mset_i (by omega)]
      exact mset_eq
    · exact mset_eq

set_option maxRecDepth 100000 in
set_option maxHeartbeats 4000000 in
theorem c_mwrite {μ : Mm} (m x y z : Int) (hm : 0 ≤ m ∧ m < 40) (hx : inR x) (hy : inR y) (hz : inR z) : Mc mX1_write 0 [vR 7 0, vI m, vI x, vI y, vI z] μ (Rt none (mset (mset (mset μ 10 0 (3 * m) x) 10 0 (3 * m + 1) y) 10 0 (3 * m + 2) z)) := by
  refine Mc.of (L := [some (vR 7 0), some (vI m), some (vI x), some (vI y), some (vI z)]) (by decide +kernel) (by simp [leL, entA, isLong, mX1_write]) (by simp [entA, isLong, mX1_write]) ?_
  refine e_aload_n 0 (dec_at dX1_write 0) rfl rfl ?_
  refine e_getr 2 (dec_at dX1_write 1) flX1_18 rfl rfl ?_
  refine e_iconst (dec_at dX1_write 2) ?_
  refine e_iload_n 1 (dec_at dX1_write 3) rfl rfl ?_
  refine e_imul (dec_at dX1_write 4) ?_
  refine e_iload_n 2 (dec_at dX1_write 5) rfl rfl ?_
  refine e_iast (dec_at dX1_write 6) rfl (by decide) (aLk_10 _) (by omega) (by omega) ?_
  refine e_aload_n 0 (dec_at dX1_write 7) rfl rfl ?_
  refine e_getr 2 (dec_at dX1_write 8) flX1_18 rfl rfl ?_
  refine e_iconst (dec_at dX1_write 9) ?_
  refine e_iload_n 1 (dec_at dX1_write 10) rfl rfl ?_
  refine e_imul (dec_at dX1_write 11) ?_
  refine e_iconst (dec_at dX1_write 12) ?_
  refine e_iadd (dec_at dX1_write 13) ?_
  refine e_iload_n 3 (dec_at dX1_write 14) rfl rfl ?_
  refine e_iast (dec_at dX1_write 15) rfl (by decide) (aLk_10 _) (by omega) (by omega) ?_
  refine e_aload_n 0 (dec_at dX1_write 16) rfl rfl ?_
  refine e_getr 2 (dec_at dX1_write 17) flX1_18 rfl rfl ?_
  refine e_iconst (dec_at dX1_write 18) ?_
  refine e_iload_n 1 (dec_at dX1_write 19) rfl rfl ?_
  refine e_imul (dec_at dX1_write 20) ?_
  refine e_iconst (dec_at dX1_write 21) ?_
  refine e_iadd (dec_at dX1_write 22) ?_
  refine e_iload (dec_at dX1_write 23) rfl ?_
  refine e_iast (dec_at dX1_write 24) rfl (by decide) (aLk_10 _) (by omega) (by omega) ?_
  refine e_return (dec_at dX1_write 25) rfl ?_
  exact ⟨rfl, rfl⟩

set_option maxRecDepth 100000 in
set_option maxHeartbeats 4000000 in
theorem l_open2 {μ : Mm} {L c v : Int} (h : Mv μ) (hL : 1 ≤ L ∧ L ≤ 3) (hc : 0 ≤ c ∧ c ≤ 1000) (hn : ∀ i, 0 ≤ i → i < μ 7 0 3 → ¬ (μ 8 0 i = L ∧ μ 9 0 i = c)) (hM : μ 7 0 3 < 40) (v1 : 0 ≤ v ∧ v ≤ μ 7 0 3) (v2 : ∀ i, 0 ≤ i → i < v → ky μ i < 10000 * L + c) (v3 : ∀ i, v ≤ i → i < μ 7 0 3 → 10000 * L + c ≤ ky μ i) : ∀ (q : Nat) (i : Int) (ν : Mm), (i - v).toNat = q → v ≤ i → i ≤ μ 7 0 3 → (∀ k l1 i, ¬ (k = 8 ∨ k = 9 ∨ k = 10) → ν k l1 i = μ k l1 i) → (∀ j, 0 ≤ j → j < i → ν 8 0 (j) = μ 8 0 (j) ∧ ν 9 0 (j) = μ 9 0 (j) ∧ ∀ a, 0 ≤ a → a < 3 → ν 10 0 (3 * (j) + a) = μ 10 0 (3 * (j) + a)) → (∀ j, i < j → j ≤ μ 7 0 3 → ν 8 0 (j) = μ 8 0 (j - 1) ∧ ν 9 0 (j) = μ 9 0 (j - 1) ∧ ∀ a, 0 ≤ a → a < 3 → ν 10 0 (3 * (j) + a) = μ 10 0 (3 * (j - 1) + a)) → Ev mX1_open 2 38 [some (vR 7 0), some (vI L), some (vI c), some (vI v), some (vI i)] [] ν (fun r μ' => ∃ v, r = some (vI v) ∧ ((μ' = μ ∧ (0 ≤ v ∧ v < μ 7 0 3) ∧ μ 8 0 v = L ∧ μ 9 0 v = c) ∨ ((∀ i, 0 ≤ i → i < μ 7 0 3 → ¬ (μ 8 0 i = L ∧ μ 9 0 i = c)) ∧ ((μ' = μ ∧ v = -1 ∧ 40 ≤ μ 7 0 3) ∨ (μ 7 0 3 < 40 ∧ (0 ≤ v ∧ v ≤ μ 7 0 3) ∧ (∀ i, 0 ≤ i → i < v → ky μ i < 10000 * L + c) ∧ (∀ i, v ≤ i → i < μ 7 0 3 → 10000 * L + c ≤ ky μ i) ∧ (∀ k l1 i, ¬ (k = 8 ∨ k = 9 ∨ k = 10 ∨ k = 7 ∧ i = 3) → μ' k l1 i = μ k l1 i) ∧ μ' 7 0 3 = μ 7 0 3 + 1 ∧ (∀ i, 0 ≤ i → i < v → μ' 8 0 (i) = μ 8 0 (i) ∧ μ' 9 0 (i) = μ 9 0 (i) ∧ ∀ a, 0 ≤ a → a < 3 → μ' 10 0 (3 * (i) + a) = μ 10 0 (3 * (i) + a)) ∧ (μ' 8 0 v = L ∧ μ' 9 0 v = c) ∧ (∀ i, v < i → i ≤ μ 7 0 3 → μ' 8 0 (i) = μ 8 0 (i - 1) ∧ μ' 9 0 (i) = μ 9 0 (i - 1) ∧ ∀ a, 0 ≤ a → a < 3 → μ' 10 0 (3 * (i) + a) = μ 10 0 (3 * (i - 1) + a))))))) := by
  intro q
  induction q using Nat.strongRecOn with
  | _ q ih =>
  intro i ν hq h0 h1 fr ha hb
  have hm := h.1
  refine e_iload (dec_at dX1_open 24) rfl ?_
  refine e_iload_n 3 (dec_at dX1_open 25) rfl rfl ?_
  refine e_icmp_le 60 (dec_at dX1_open 26) (by decide) (by omega) (by omega) (fun h41 => ?_) (fun h41 => ?_)
  · refine e_aload_n 0 (dec_at dX1_open 35) rfl rfl ?_
    refine e_getr 0 (dec_at dX1_open 36) flX1_9 rfl rfl ?_
    refine e_iload_n 3 (dec_at dX1_open 37) rfl rfl ?_
    refine e_iload_n 1 (dec_at dX1_open 38) rfl rfl ?_
    refine e_iast (dec_at dX1_open 39) rfl (by decide) (aLk_8 _) (by omega) (by omega) ?_
    refine e_aload_n 0 (dec_at dX1_open 40) rfl rfl ?_
    refine e_getr 1 (dec_at dX1_open 41) flX1_15 rfl rfl ?_
    refine e_iload_n 3 (dec_at dX1_open 42) rfl rfl ?_
    refine e_iload_n 2 (dec_at dX1_open 43) rfl rfl ?_
    refine e_iast (dec_at dX1_open 44) rfl (by decide) (aLk_9 _) (by omega) (by omega) ?_
    refine e_aload_n 0 (dec_at dX1_open 45) rfl rfl ?_
    refine e_dup (dec_at dX1_open 46) rfl ?_
    refine e_getiv 3 3 (μ 7 0 3) (dec_at dX1_open 47) flX1_21 rfl rfl rfl (by rw [mset_k (by decide), mset_k (by decide)]; exact fr 7 0 3 (by omega)) (fun r76 => ?_)
    refine e_iconst (dec_at dX1_open 48) ?_
    refine e_iadd (dec_at dX1_open 49) ?_
    refine e_put 3 3 (dec_at dX1_open 50) flX1_21 fpX1_3 rfl rfl rfl (by omega) (fit_int _) ?_
    refine e_iload_n 3 (dec_at dX1_open 51) rfl rfl ?_
    refine e_ireturn (dec_at dX1_open 52) rfl ?_
    obtain rfl : i = v := by omega
    refine ⟨i, rfl, Or.inr ⟨hn, Or.inr ⟨hM, v1, v2, v3, fun k l1 j z => ?_, mset_eq, fun j a b => ?_, ⟨?_, ?_⟩, fun j a b => ?_⟩⟩⟩
    · rw [mset_ne (by omega), mset_ne (by omega), mset_ne (by omega)]; exact fr k l1 j (by omega)
    · rw [mset_k (by decide), mset_k (by decide), mset_i (by omega), mset_k (by decide), mset_i (by omega), mset_k (by decide)]
      refine ⟨(ha j a b).1, (ha j a b).2.1, fun x x0 x1 => ?_⟩
      rw [mset_k (by decide), mset_k (by decide), mset_k (by decide)]
      exact (ha j a b).2.2 x x0 x1
    · rw [mset_k (by decide), mset_k (by decide), mset_eq]
    · rw [mset_k (by decide), mset_eq]
    · rw [mset_k (by decide), mset_k (by decide), mset_i (by omega), mset_k (by decide), mset_i (by omega), mset_k (by decide)]
      refine ⟨(hb j a b).1, (hb j a b).2.1, fun x x0 x1 => ?_⟩
      rw [mset_k (by decide), mset_k (by decide), mset_k (by decide)]
      exact (hb j a b).2.2 x x0 x1
  · refine e_aload_n 0 (dec_at dX1_open 27) rfl rfl ?_
    refine e_iload (dec_at dX1_open 28) rfl ?_
    refine e_iconst (dec_at dX1_open 29) ?_
    refine e_isub (dec_at dX1_open 30) ?_
    refine e_iload (dec_at dX1_open 31) rfl ?_
    refine e_callV (M' := mX1_shift) (dec_at dX1_open 32) mlX1_32 (c_shift (μ := ν) (i - 1) i (by omega) (by omega) (by omega)) oX1_shift iX1_shift rfl rfl rfl rfl (by decide) (by decide) (Nat.le_of_ble_eq_true rfl) (fun r ν1 hQ => ?_)
    obtain ⟨rfl, f1, f2, f3, f4⟩ := hQ
    show Ev mX1_open 2 54 _ [] ν1 _
    refine e_ii4 (dec_at dX1_open 33) (by decide) rfl ?_
    refine e_goto 38 (dec_at dX1_open 34) (by decide) ?_
    refine ih _ (by omega) (i + -1) ν1 rfl (by omega) (by omega) (fun k l1 j z => ?_) (fun j a b => ?_) (fun j a b => ?_)
    · rw [f1 k l1 j (by omega)]; exact fr k l1 j z
    · have z := ha j a (by omega)
      refine ⟨by rw [f1 8 0 j (by omega)]; exact z.1, by rw [f1 9 0 j (by omega)]; exact z.2.1, fun x x0 x1 => ?_⟩
      rw [f1 10 0 _ (by omega)]; exact z.2.2 x x0 x1
    · by_cases q : j = i
      · subst q
        have z := ha (j - 1) (by omega) (by omega)
        refine ⟨f2.trans z.1, f3.trans z.2.1, fun x x0 x1 => (f4 x x0 x1).trans (z.2.2 x x0 x1)⟩
      · have z := hb j (by omega) b
        refine ⟨by rw [f1 8 0 j (by omega)]; exact z.1, by rw [f1 9 0 j (by omega)]; exact z.2.1, fun x x0 x1 => ?_⟩
        rw [f1 10 0 _ (by omega)]; exact z.2.2 x x0 x1

set_option maxRecDepth 100000 in
set_option maxHeartbeats 4000000 in
theorem c_mopen {μ : Mm} (L c : Int) (h : Mv μ) (hL : 1 ≤ L ∧ L ≤ 3) (hc : 0 ≤ c ∧ c ≤ 1000) : Mc mX1_open 2 [vR 7 0, vI L, vI c] μ (fun r μ' => ∃ v, r = some (vI v) ∧ ((μ' = μ ∧ (0 ≤ v ∧ v < μ 7 0 3) ∧ μ 8 0 v = L ∧ μ 9 0 v = c) ∨ ((∀ i, 0 ≤ i → i < μ 7 0 3 → ¬ (μ 8 0 i = L ∧ μ 9 0 i = c)) ∧ ((μ' = μ ∧ v = -1 ∧ 40 ≤ μ 7 0 3) ∨ (μ 7 0 3 < 40 ∧ (0 ≤ v ∧ v ≤ μ 7 0 3) ∧ (∀ i, 0 ≤ i → i < v → ky μ i < 10000 * L + c) ∧ (∀ i, v ≤ i → i < μ 7 0 3 → 10000 * L + c ≤ ky μ i) ∧ (∀ k l1 i, ¬ (k = 8 ∨ k = 9 ∨ k = 10 ∨ k = 7 ∧ i = 3) → μ' k l1 i = μ k l1 i) ∧ μ' 7 0 3 = μ 7 0 3 + 1 ∧ (∀ i, 0 ≤ i → i < v → μ' 8 0 (i) = μ 8 0 (i) ∧ μ' 9 0 (i) = μ 9 0 (i) ∧ ∀ a, 0 ≤ a → a < 3 → μ' 10 0 (3 * (i) + a) = μ 10 0 (3 * (i) + a)) ∧ (μ' 8 0 v = L ∧ μ' 9 0 v = c) ∧ (∀ i, v < i → i ≤ μ 7 0 3 → μ' 8 0 (i) = μ 8 0 (i - 1) ∧ μ' 9 0 (i) = μ 9 0 (i - 1) ∧ ∀ a, 0 ≤ a → a < 3 → μ' 10 0 (3 * (i) + a) = μ 10 0 (3 * (i - 1) + a))))))) := by
  refine Mc.of (L := [some (vR 7 0), some (vI L), some (vI c), none, none]) (by decide +kernel) (by simp [leL, entA, isLong, mX1_open]) (by simp [entA, isLong, mX1_open]) ?_
  have hm := h.1
  refine e_aload_n 0 (dec_at dX1_open 0) rfl rfl ?_
  refine e_iload_n 1 (dec_at dX1_open 1) rfl rfl ?_
  refine e_iload_n 2 (dec_at dX1_open 2) rfl rfl ?_
  refine e_callV (M' := mX1_find) (dec_at dX1_open 3) mlX1_29 (c_find (μ := μ) L c h hL hc) oX1_find iX1_find rfl rfl rfl rfl (by decide) (by decide) (Nat.le_of_ble_eq_true rfl) (fun r μ1 hQ => ?_)
  obtain ⟨rfl, w, rfl, hw⟩ := hQ
  have hwr : inR w := by rcases hw with q | q <;> omega
  show Ev mX1_open 2 6 _ [vI w] μ1 _
  refine e_is3 (dec_at dX1_open 4) (by decide) rfl ?_
  refine e_iload_n 3 (dec_at dX1_open 5) rfl rfl ?_
  refine e_iconst (dec_at dX1_open 6) ?_
  refine e_icmp_eq 14 (dec_at dX1_open 7) (by decide) (by omega) (by omega) (fun h9 => ?_) (fun h9 => ?_)
  · have hno := hw.resolve_left (fun q => by omega)
    refine e_aload_n 0 (dec_at dX1_open 10) rfl rfl ?_
    refine e_geti 3 3 (dec_at dX1_open 11) flX1_21 rfl rfl rfl (fun r15 => ?_)
    refine e_bipush (dec_at dX1_open 12) (by decide) ?_
    refine e_icmp_lt 25 (dec_at dX1_open 13) (by decide) (by omega) (by omega) (fun h20 => ?_) (fun h20 => ?_)
    · refine e_aload_n 0 (dec_at dX1_open 16) rfl rfl ?_
      refine e_iload_n 1 (dec_at dX1_open 17) rfl rfl ?_
      refine e_iload_n 2 (dec_at dX1_open 18) rfl rfl ?_
      refine e_callV (M' := mX1_rank) (dec_at dX1_open 19) mlX1_25 (c_rank (μ := μ1) L c h hL hc) oX1_rank iX1_rank rfl rfl rfl rfl (by decide) (by decide) (Nat.le_of_ble_eq_true rfl) (fun r μ2 hQ => ?_)
      obtain ⟨rfl, v, rfl, v1, v2, v3⟩ := hQ
      show Ev mX1_open 2 31 _ [vI v] μ2 _
      refine e_is3 (dec_at dX1_open 20) (by decide) rfl ?_
      refine e_aload_n 0 (dec_at dX1_open 21) rfl rfl ?_
      refine e_geti 3 3 (dec_at dX1_open 22) flX1_21 rfl rfl rfl (fun r33 => ?_)
      refine e_is4 (dec_at dX1_open 23) (by decide) rfl ?_
      exact l_open2 h hL hc hno.2 (by omega) v1 v2 v3 _ _ μ2 rfl (by omega) (by omega) (fun _ _ _ _ => rfl) (fun j a b => ⟨rfl, rfl, fun _ _ _ => rfl⟩) (fun j a b => by omega)
    · refine e_iconst (dec_at dX1_open 14) ?_
      refine e_ireturn (dec_at dX1_open 15) rfl ?_
      exact ⟨-1, rfl, Or.inr ⟨hno.2, Or.inl ⟨rfl, rfl, by omega⟩⟩⟩
  · refine e_iload_n 3 (dec_at dX1_open 8) rfl rfl ?_
    refine e_ireturn (dec_at dX1_open 9) rfl ?_
    rcases hw with q | q
    · exact ⟨w, rfl, Or.inl ⟨rfl, q⟩⟩
    · exact absurd q.1 h9

set_option maxRecDepth 100000 in
set_option maxHeartbeats 4000000 in
theorem l_drop {μ : Mm} {L c v : Int} (h : Mv μ) (v1 : 0 ≤ v ∧ v < μ 7 0 3) (v2 : μ 8 0 v = L ∧ μ 9 0 v = c) : ∀ (q : Nat) (i : Int) (ν : Mm), (μ 7 0 3 - i).toNat = q → v ≤ i → i ≤ μ 7 0 3 - 1 → (∀ k l1 i, ¬ (k = 8 ∨ k = 9 ∨ k = 10 ∨ k = 7 ∧ i = 3) → ν k l1 i = μ k l1 i) → ν 7 0 3 = μ 7 0 3 - 1 → (∀ j, 0 ≤ j → j < v → ν 8 0 (j) = μ 8 0 (j) ∧ ν 9 0 (j) = μ 9 0 (j) ∧ ∀ a, 0 ≤ a → a < 3 → ν 10 0 (3 * (j) + a) = μ 10 0 (3 * (j) + a)) → (∀ j, v ≤ j → j < i → ν 8 0 (j) = μ 8 0 (j + 1) ∧ ν 9 0 (j) = μ 9 0 (j + 1) ∧ ∀ a, 0 ≤ a → a < 3 → ν 10 0 (3 * (j) + a) = μ 10 0 (3 * (j + 1) + a)) → (∀ j, i ≤ j → j < μ 7 0 3 → ν 8 0 (j) = μ 8 0 (j) ∧ ν 9 0 (j) = μ 9 0 (j) ∧ ∀ a, 0 ≤ a → a < 3 → ν 10 0 (3 * (j) + a) = μ 10 0 (3 * (j) + a)) → Ev mX1_drop 2 26 [some (vR 7 0), some (vI L), some (vI c), some (vI v), some (vI i)] [] ν (fun r μ' => r = none ∧ ((μ' = μ ∧ ∀ i, 0 ≤ i → i < μ 7 0 3 → ¬ (μ 8 0 i = L ∧ μ 9 0 i = c)) ∨ ∃ v, (0 ≤ v ∧ v < μ 7 0 3) ∧ (μ 8 0 v = L ∧ μ 9 0 v = c) ∧ (∀ k l1 i, ¬ (k = 8 ∨ k = 9 ∨ k = 10 ∨ k = 7 ∧ i = 3) → μ' k l1 i = μ k l1 i) ∧ μ' 7 0 3 = μ 7 0 3 - 1 ∧ (∀ i, 0 ≤ i → i < v → μ' 8 0 (i) = μ 8 0 (i) ∧ μ' 9 0 (i) = μ 9 0 (i) ∧ ∀ a, 0 ≤ a → a < 3 → μ' 10 0 (3 * (i) + a) = μ 10 0 (3 * (i) + a)) ∧ (∀ i, v ≤ i → i < μ 7 0 3 - 1 → μ' 8 0 (i) = μ 8 0 (i + 1) ∧ μ' 9 0 (i) = μ 9 0 (i + 1) ∧ ∀ a, 0 ≤ a → a < 3 → μ' 10 0 (3 * (i) + a) = μ 10 0 (3 * (i + 1) + a)))) := by
  intro q
  induction q using Nat.strongRecOn with
  | _ q ih =>
  intro i ν hq h0 h1 fr hm1 ha hb hc
  have hm := h.1
  refine e_iload (dec_at dX1_drop 17) rfl ?_
  refine e_aload_n 0 (dec_at dX1_drop 18) rfl rfl ?_
  refine e_getiv 3 3 (μ 7 0 3 - 1) (dec_at dX1_drop 19) flX1_21 rfl rfl rfl (by exact hm1) (fun r29 => ?_)
  refine e_icmp_ge 51 (dec_at dX1_drop 20) (by decide) (by omega) (by omega) (fun h32 => ?_) (fun h32 => ?_)
  · refine e_return (dec_at dX1_drop 29) rfl ?_
    obtain rfl : i = μ 7 0 3 - 1 := by omega
    exact ⟨rfl, Or.inr ⟨v, v1, v2, fr, hm1, ha, hb⟩⟩
  · refine e_aload_n 0 (dec_at dX1_drop 21) rfl rfl ?_
    refine e_iload (dec_at dX1_drop 22) rfl ?_
    refine e_iconst (dec_at dX1_drop 23) ?_
    refine e_iadd (dec_at dX1_drop 24) ?_
    refine e_iload (dec_at dX1_drop 25) rfl ?_
    refine e_callV (M' := mX1_shift) (dec_at dX1_drop 26) mlX1_32 (c_shift (μ := ν) (i + 1) i (by omega) (by omega) (by omega)) oX1_shift iX1_shift rfl rfl rfl rfl (by decide) (by decide) (Nat.le_of_ble_eq_true rfl) (fun r ν1 hQ => ?_)
    obtain ⟨rfl, f1, f2, f3, f4⟩ := hQ
    show Ev mX1_drop 2 45 _ [] ν1 _
    refine e_ii4 (dec_at dX1_drop 27) (by decide) rfl ?_
    refine e_goto 26 (dec_at dX1_drop 28) (by decide) ?_
    have go : ∀ j jo, j ≠ i → (ν 8 0 (j) = μ 8 0 (jo) ∧ ν 9 0 (j) = μ 9 0 (jo) ∧ ∀ a, 0 ≤ a → a < 3 → ν 10 0 (3 * (j) + a) = μ 10 0 (3 * (jo) + a)) → (ν1 8 0 (j) = μ 8 0 (jo) ∧ ν1 9 0 (j) = μ 9 0 (jo) ∧ ∀ a, 0 ≤ a → a < 3 → ν1 10 0 (3 * (j) + a) = μ 10 0 (3 * (jo) + a)) := fun j jo q z => by
      refine ⟨by rw [f1 8 0 j (by omega)]; exact z.1, by rw [f1 9 0 j (by omega)]; exact z.2.1, fun x x0 x1 => ?_⟩
      rw [f1 10 0 _ (by omega)]; exact z.2.2 x x0 x1
    refine ih _ (by omega) (i + 1) ν1 rfl (by omega) (by omega) (fun k l1 j z => ?_) (by rw [f1 7 0 3 (by omega)]; exact hm1) (fun j a b => go j j (by omega) (ha j a b)) (fun j a b => ?_) (fun j a b => go j j (by omega) (hc j (by omega) b))
    · rw [f1 k l1 j (by omega)]; exact fr k l1 j z
    · by_cases q : j = i
      · subst q
        have z := hc (j + 1) (by omega) (by omega)
        exact ⟨f2.trans z.1, f3.trans z.2.1, fun x x0 x1 => (f4 x x0 x1).trans (z.2.2 x x0 x1)⟩
      · exact go j (j + 1) q (hb j a (by omega))

set_option maxRecDepth 100000 in
set_option maxHeartbeats 4000000 in
theorem c_drop {μ : Mm} (L c : Int) (h : Mv μ) (hL : 1 ≤ L ∧ L ≤ 3) (hc : 0 ≤ c ∧ c ≤ 1000) : Mc mX1_drop 2 [vR 7 0, vI L, vI c] μ (fun r μ' => r = none ∧ ((μ' = μ ∧ ∀ i, 0 ≤ i → i < μ 7 0 3 → ¬ (μ 8 0 i = L ∧ μ 9 0 i = c)) ∨ ∃ v, (0 ≤ v ∧ v < μ 7 0 3) ∧ (μ 8 0 v = L ∧ μ 9 0 v = c) ∧ (∀ k l1 i, ¬ (k = 8 ∨ k = 9 ∨ k = 10 ∨ k = 7 ∧ i = 3) → μ' k l1 i = μ k l1 i) ∧ μ' 7 0 3 = μ 7 0 3 - 1 ∧ (∀ i, 0 ≤ i → i < v → μ' 8 0 (i) = μ 8 0 (i) ∧ μ' 9 0 (i) = μ 9 0 (i) ∧ ∀ a, 0 ≤ a → a < 3 → μ' 10 0 (3 * (i) + a) = μ 10 0 (3 * (i) + a)) ∧ (∀ i, v ≤ i → i < μ 7 0 3 - 1 → μ' 8 0 (i) = μ 8 0 (i + 1) ∧ μ' 9 0 (i) = μ 9 0 (i + 1) ∧ ∀ a, 0 ≤ a → a < 3 → μ' 10 0 (3 * (i) + a) = μ 10 0 (3 * (i + 1) + a)))) := by
  refine Mc.of (L := [some (vR 7 0), some (vI L), some (vI c), none, none]) (by decide +kernel) (by simp [leL, entA, isLong, mX1_drop]) (by simp [entA, isLong, mX1_drop]) ?_
  have hm := h.1
  refine e_aload_n 0 (dec_at dX1_drop 0) rfl rfl ?_
  refine e_iload_n 1 (dec_at dX1_drop 1) rfl rfl ?_
  refine e_iload_n 2 (dec_at dX1_drop 2) rfl rfl ?_
  refine e_callV (M' := mX1_find) (dec_at dX1_drop 3) mlX1_29 (c_find (μ := μ) L c h hL hc) oX1_find iX1_find rfl rfl rfl rfl (by decide) (by decide) (Nat.le_of_ble_eq_true rfl) (fun r μ1 hQ => ?_)
  obtain ⟨rfl, w, rfl, hw⟩ := hQ
  have hwr : inR w := by rcases hw with q | q <;> omega
  show Ev mX1_drop 2 6 _ [vI w] μ1 _
  refine e_is3 (dec_at dX1_drop 4) (by decide) rfl ?_
  refine e_iload_n 3 (dec_at dX1_drop 5) rfl rfl ?_
  refine e_iconst (dec_at dX1_drop 6) ?_
  refine e_icmp_ne 13 (dec_at dX1_drop 7) (by decide) (by omega) (by omega) (fun h9 => ?_) (fun h9 => ?_)
  · have hw1 := hw.resolve_right (fun q => h9 q.1)
    refine e_aload_n 0 (dec_at dX1_drop 9) rfl rfl ?_
    refine e_dup (dec_at dX1_drop 10) rfl ?_
    refine e_geti 3 3 (dec_at dX1_drop 11) flX1_21 rfl rfl rfl (fun r15 => ?_)
    refine e_iconst (dec_at dX1_drop 12) ?_
    refine e_isub (dec_at dX1_drop 13) ?_
    refine e_put 3 3 (dec_at dX1_drop 14) flX1_21 fpX1_3 rfl rfl rfl (by omega) (fit_int _) ?_
    refine e_iload_n 3 (dec_at dX1_drop 15) rfl rfl ?_
    refine e_is4 (dec_at dX1_drop 16) (by decide) rfl ?_
    refine l_drop h hw1.1 hw1.2 _ _ _ rfl (by omega) (by omega) (fr_set (fun _ _ _ _ => rfl) (by omega)) mset_eq (fun j a b => ?_) (fun j a b => by omega) (fun j a b => ?_)
    · exact ⟨mset_k (by decide), mset_k (by decide), fun _ _ _ => mset_k (by decide)⟩
    · exact ⟨mset_k (by decide), mset_k (by decide), fun _ _ _ => mset_k (by decide)⟩
  · refine e_return (dec_at dX1_drop 8) rfl ?_
    exact ⟨rfl, Or.inl ⟨rfl, (hw.resolve_left (fun q => by omega)).2⟩⟩

set_option maxRecDepth 100000 in
set_option maxHeartbeats 4000000 in
theorem l_mixAll {μ : Mm} (h : Mv μ) : ∀ (q : Nat) (m : Int) (a : Int), (μ 7 0 3 - m).toNat = q → 0 ≤ m → m ≤ μ 7 0 3 → Ev mX1_mixAll 1 2 [some (vR 7 0), some (vL a), none, some (vI m), none] [] μ (Rt (some (vL (flo (fun m a => 31 * (31 * (31 * (31 * a + μ 9 0 m) + μ 10 0 (3 * m + 0)) + μ 10 0 (3 * m + (0 + 1))) + μ 10 0 (3 * m + (0 + 1 + 1))) m (μ 7 0 3) a))) μ) := by
  intro q
  induction q using Nat.strongRecOn with
  | _ q ih =>
  intro m a hq h0 h1
  have hm := h.1
  refine e_iload_n 3 (dec_at dX1_mixAll 2) rfl rfl ?_
  refine e_aload_n 0 (dec_at dX1_mixAll 3) rfl rfl ?_
  refine e_geti 3 3 (dec_at dX1_mixAll 4) flX1_21 rfl rfl rfl (fun r4 => ?_)
  refine e_icmp_ge 58 (dec_at dX1_mixAll 5) (by decide) (by omega) (by omega) (fun h7 => ?_) (fun h7 => ?_)
  · refine e_lload_n 1 (dec_at dX1_mixAll 33) rfl rfl ?_
    refine e_lreturn (dec_at dX1_mixAll 34) rfl ?_
    exact ⟨by rw [flo_stop (by omega)], rfl⟩
  · refine e_lload_n 1 (dec_at dX1_mixAll 6) rfl rfl ?_
    refine e_aload_n 0 (dec_at dX1_mixAll 7) rfl rfl ?_
    refine e_getr 1 (dec_at dX1_mixAll 8) flX1_15 rfl rfl ?_
    refine e_iload_n 3 (dec_at dX1_mixAll 9) rfl rfl ?_
    refine e_iald (dec_at dX1_mixAll 10) rfl (by decide) (aLk_9 _) (by omega) (fun r16 => ?_)
    refine e_callNr (M' := mX5_mix) (dec_at dX1_mixAll 11) (fun s h => h.2) (c_mix a _ r16) oX5_mix sX5_mix rfl rfl (by decide) (by decide) (Nat.le_of_ble_eq_true rfl) ?_
    refine e_ls1 (dec_at dX1_mixAll 12) (by decide) rfl ?_
    refine e_iconst (dec_at dX1_mixAll 13) ?_
    refine e_is4 (dec_at dX1_mixAll 14) (by decide) rfl ?_
    refine e_iload (dec_at dX1_mixAll 15) rfl ?_
    refine e_iconst (dec_at dX1_mixAll 16) ?_
    refine e_icmp_ge 52 (dec_at dX1_mixAll 17) (by decide) (by decide) (by decide) (fun h => absurd h (by decide)) (fun _ => ?_)
    refine e_lload_n 1 (dec_at dX1_mixAll 18) rfl rfl ?_
    refine e_aload_n 0 (dec_at dX1_mixAll 19) rfl rfl ?_
    refine e_getr 2 (dec_at dX1_mixAll 20) flX1_18 rfl rfl ?_
    refine e_iconst (dec_at dX1_mixAll 21) ?_
    refine e_iload_n 3 (dec_at dX1_mixAll 22) rfl rfl ?_
    refine e_imul (dec_at dX1_mixAll 23) ?_
    refine e_iload (dec_at dX1_mixAll 24) rfl ?_
    refine e_iadd (dec_at dX1_mixAll 25) ?_
    refine e_iald (dec_at dX1_mixAll 26) rfl (by decide) (aLk_10 _) (by omega) (fun r41 => ?_)
    refine e_callNr (M' := mX5_mix) (dec_at dX1_mixAll 27) (fun s h => h.2) (c_mix _ _ r41) oX5_mix sX5_mix rfl rfl (by decide) (by decide) (Nat.le_of_ble_eq_true rfl) ?_
    refine e_ls1 (dec_at dX1_mixAll 28) (by decide) rfl ?_
    refine e_ii4 (dec_at dX1_mixAll 29) (by decide) rfl ?_
    refine e_goto 24 (dec_at dX1_mixAll 30) (by decide) ?_
    refine e_iload (dec_at dX1_mixAll 15) rfl ?_
    refine e_iconst (dec_at dX1_mixAll 16) ?_
    refine e_icmp_ge 52 (dec_at dX1_mixAll 17) (by decide) (by decide) (by decide) (fun h => absurd h (by decide)) (fun _ => ?_)
    refine e_lload_n 1 (dec_at dX1_mixAll 18) rfl rfl ?_
    refine e_aload_n 0 (dec_at dX1_mixAll 19) rfl rfl ?_
    refine e_getr 2 (dec_at dX1_mixAll 20) flX1_18 rfl rfl ?_
    refine e_iconst (dec_at dX1_mixAll 21) ?_
    refine e_iload_n 3 (dec_at dX1_mixAll 22) rfl rfl ?_
    refine e_imul (dec_at dX1_mixAll 23) ?_
    refine e_iload (dec_at dX1_mixAll 24) rfl ?_
    refine e_iadd (dec_at dX1_mixAll 25) ?_
    refine e_iald (dec_at dX1_mixAll 26) rfl (by decide) (aLk_10 _) (by omega) (fun r41 => ?_)
    refine e_callNr (M' := mX5_mix) (dec_at dX1_mixAll 27) (fun s h => h.2) (c_mix _ _ r41) oX5_mix sX5_mix rfl rfl (by decide) (by decide) (Nat.le_of_ble_eq_true rfl) ?_
    refine e_ls1 (dec_at dX1_mixAll 28) (by decide) rfl ?_
    refine e_ii4 (dec_at dX1_mixAll 29) (by decide) rfl ?_
    refine e_goto 24 (dec_at dX1_mixAll 30) (by decide) ?_
    refine e_iload (dec_at dX1_mixAll 15) rfl ?_
    refine e_iconst (dec_at dX1_mixAll 16) ?_
    refine e_icmp_ge 52 (dec_at dX1_mixAll 17) (by decide) (by decide) (by decide) (fun h => absurd h (by decide)) (fun _ => ?_)
    refine e_lload_n 1 (dec_at dX1_mixAll 18) rfl rfl ?_
    refine e_aload_n 0 (dec_at dX1_mixAll 19) rfl rfl ?_
    refine e_getr 2 (dec_at dX1_mixAll 20) flX1_18 rfl rfl ?_
    refine e_iconst (dec_at dX1_mixAll 21) ?_
    refine e_iload_n 3 (dec_at dX1_mixAll 22) rfl rfl ?_
    refine e_imul (dec_at dX1_mixAll 23) ?_
    refine e_iload (dec_at dX1_mixAll 24) rfl ?_
    refine e_iadd (dec_at dX1_mixAll 25) ?_
    refine e_iald (dec_at dX1_mixAll 26) rfl (by decide) (aLk_10 _) (by omega) (fun r41 => ?_)
    refine e_callNr (M' := mX5_mix) (dec_at dX1_mixAll 27) (fun s h => h.2) (c_mix _ _ r41) oX5_mix sX5_mix rfl rfl (by decide) (by decide) (Nat.le_of_ble_eq_true rfl) ?_
    refine e_ls1 (dec_at dX1_mixAll 28) (by decide) rfl ?_
    refine e_ii4 (dec_at dX1_mixAll 29) (by decide) rfl ?_
    refine e_goto 24 (dec_at dX1_mixAll 30) (by decide) ?_
    refine e_iload (dec_at dX1_mixAll 15) rfl ?_
    refine e_iconst (dec_at dX1_mixAll 16) ?_
    refine e_icmp_ge 52 (dec_at dX1_mixAll 17) (by decide) (by decide) (by decide) (fun _ => ?_) (fun h => absurd h (by decide))
    refine e_ii3 (dec_at dX1_mixAll 31) (by decide) rfl ?_
    refine e_goto 2 (dec_at dX1_mixAll 32) (by decide) ?_
    rw [flo_step (by omega)]
    exact e_le [some (vR 7 0), some (vL _), none, some (vI (m + 1)), none] (by simp [leL]) (ih _ (by omega) (m + 1) _ rfl (by omega) (by omega))

set_option maxRecDepth 100000 in
set_option maxHeartbeats 4000000 in
theorem c_mixAll {μ : Mm} (a : Int) (h : Mv μ) : Mc mX1_mixAll 1 [vR 7 0, vL a] μ (Rt (some (vL (flo (fun m a => 31 * (31 * (31 * (31 * a + μ 9 0 m) + μ 10 0 (3 * m + 0)) + μ 10 0 (3 * m + (0 + 1))) + μ 10 0 (3 * m + (0 + 1 + 1))) 0 (μ 7 0 3) a))) μ) := by
  refine Mc.of (L := [some (vR 7 0), some (vL a), none, none, none]) (by decide +kernel) (by simp [leL, entA, isLong, mX1_mixAll]) (by simp [entA, isLong, mX1_mixAll]) ?_
  have hm := h.1
  refine e_iconst (dec_at dX1_mixAll 0) ?_
  refine e_is3 (dec_at dX1_mixAll 1) (by decide) rfl ?_
  exact l_mixAll h _ _ _ rfl (by omega) (by omega)
