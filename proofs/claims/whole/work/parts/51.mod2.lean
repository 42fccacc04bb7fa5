set_option maxRecDepth 100000 in
set_option maxHeartbeats 4000000 in
theorem m_row {μ : Mm} (a n : Int) (ha : inR a) (hn : inR n) : Mc mX6_row 6 [vR 21 0, vI a, vI n] μ (fun r ν => ((¬ (0 ≤ a ∧ a ≤ 2) ∨ 8 < n) ∧ r = some (vI (-102)) ∧ ν = μ) ∨ (((0 ≤ a ∧ a ≤ 2) ∧ n < 0) ∧ r = some (vI (-10 - 3)) ∧ ν = mset μ 21 0 0 3) ∨ (((0 ≤ a ∧ a ≤ 2) ∧ 0 ≤ n ∧ n ≤ 8) ∧ r = some (vI (n)) ∧ (∀ k l1 i, ¬ (k = 21 ∧ l1 = 0 ∧ (i = 1 ∨ i = 2) ∨ k = 22) → ν k l1 i = μ k l1 i) ∧ ν 21 0 1 = a ∧ ν 21 0 2 = n ∧ ∀ j, 0 ≤ j → j < 8 → ν 22 0 j = 0)) := by
  refine Mc.of (L := [some (vR 21 0), some (vI a), some (vI n), none]) (by decide +kernel) (by simp [leL, entA, isLong, mX6_row]) (by simp [entA, isLong, mX6_row]) ?_
  refine e_iload_n 1 (dec_at dX6_row 0) rfl rfl ?_
  refine e_i2l (dec_at dX6_row 1) (by omega) ?_
  refine e_lconst 0 (dec_at dX6_row 2) rfl ?_
  refine e_ldc2 2 (dec_at dX6_row 3) klX6_57 (by decide) ?_
  refine e_callSr (M' := mX6_in) (dec_at dX6_row 4) mlX6_59 (m_in (a) (0) (2) (by omega) (by omega) (by omega)) oX6_in sX6_in rfl rfl (by decide) (by decide) (Nat.le_of_ble_eq_true rfl) ?_
  refine e_beq 18 (dec_at dX6_row 5) (by decide) (fun h9 => ?_) (fun h9 => ?_)
  · refine e_bipush (dec_at dX6_row 9) (by decide) ?_
    refine e_ireturn (dec_at dX6_row 10) rfl ?_
    exact Or.inl (⟨by omega, rfl, rfl⟩)
  · refine e_iload_n 2 (dec_at dX6_row 6) rfl rfl ?_
    refine e_bipush (dec_at dX6_row 7) (by decide) ?_
    refine e_icmp_le 21 (dec_at dX6_row 8) (by decide) (by omega) (by omega) (fun h15 => ?_) (fun h15 => ?_)
    · refine e_iload_n 2 (dec_at dX6_row 11) rfl rfl ?_
      refine e_if_ge 31 (dec_at dX6_row 12) (by decide) (by omega) (fun h22 => ?_) (fun h22 => ?_)
      · refine e_aload_n 0 (dec_at dX6_row 17) rfl rfl ?_
        refine e_iload_n 1 (dec_at dX6_row 18) rfl rfl ?_
        refine e_put 1 1 (dec_at dX6_row 19) flX6_46 fpX6_1 rfl rfl rfl (by omega) (fit_int _) ?_
        refine e_aload_n 0 (dec_at dX6_row 20) rfl rfl ?_
        refine e_iload_n 2 (dec_at dX6_row 21) rfl rfl ?_
        refine e_put 2 2 (dec_at dX6_row 22) flX6_67 fpX6_2 rfl rfl rfl (by omega) (fit_int _) ?_
        refine e_iconst (dec_at dX6_row 23) ?_
        refine e_is3 (dec_at dX6_row 24) (by decide) rfl ?_
        refine e_iload_n 3 (dec_at dX6_row 25) rfl rfl ?_
        refine e_bipush (dec_at dX6_row 26) (by decide) ?_
        refine e_icmp_ge 62 (dec_at dX6_row 27) (by decide) (by decide) (by decide) (fun h => absurd h (by decide)) (fun _ => ?_)
        refine e_aload_n 0 (dec_at dX6_row 28) rfl rfl ?_
        refine e_getr 3 (dec_at dX6_row 29) flX6_7 rfl rfl ?_
        refine e_iload_n 3 (dec_at dX6_row 30) rfl rfl ?_
        refine e_iconst (dec_at dX6_row 31) ?_
        refine e_iast (dec_at dX6_row 32) rfl (by decide) (aLk_22 _) (by omega) (by omega) ?_
        refine e_ii3 (dec_at dX6_row 33) (by decide) rfl ?_
        refine e_goto 43 (dec_at dX6_row 34) (by decide) ?_
        refine e_iload_n 3 (dec_at dX6_row 25) rfl rfl ?_
        refine e_bipush (dec_at dX6_row 26) (by decide) ?_
        refine e_icmp_ge 62 (dec_at dX6_row 27) (by decide) (by decide) (by decide) (fun h => absurd h (by decide)) (fun _ => ?_)
        refine e_aload_n 0 (dec_at dX6_row 28) rfl rfl ?_
        refine e_getr 3 (dec_at dX6_row 29) flX6_7 rfl rfl ?_
        refine e_iload_n 3 (dec_at dX6_row 30) rfl rfl ?_
        refine e_iconst (dec_at dX6_row 31) ?_
        refine e_iast (dec_at dX6_row 32) rfl (by decide) (aLk_22 _) (by omega) (by omega) ?_
        refine e_ii3 (dec_at dX6_row 33) (by decide) rfl ?_
        refine e_goto 43 (dec_at dX6_row 34) (by decide) ?_
        refine e_iload_n 3 (dec_at dX6_row 25) rfl rfl ?_
        refine e_bipush (dec_at dX6_row 26) (by decide) ?_
        refine e_icmp_ge 62 (dec_at dX6_row 27) (by decide) (by decide) (by decide) (fun h => absurd h (by decide)) (fun _ => ?_)
        refine e_aload_n 0 (dec_at dX6_row 28) rfl rfl ?_
        refine e_getr 3 (dec_at dX6_row 29) flX6_7 rfl rfl ?_
        refine e_iload_n 3 (dec_at dX6_row 30) rfl rfl ?_
        refine e_iconst (dec_at dX6_row 31) ?_
        refine e_iast (dec_at dX6_row 32) rfl (by decide) (aLk_22 _) (by omega) (by omega) ?_
        refine e_ii3 (dec_at dX6_row 33) (by decide) rfl ?_
        refine e_goto 43 (dec_at dX6_row 34) (by decide) ?_
        refine e_iload_n 3 (dec_at dX6_row 25) rfl rfl ?_
        refine e_bipush (dec_at dX6_row 26) (by decide) ?_
        refine e_icmp_ge 62 (dec_at dX6_row 27) (by decide) (by decide) (by decide) (fun h => absurd h (by decide)) (fun _ => ?_)
        refine e_aload_n 0 (dec_at dX6_row 28) rfl rfl ?_
        refine e_getr 3 (dec_at dX6_row 29) flX6_7 rfl rfl ?_
        refine e_iload_n 3 (dec_at dX6_row 30) rfl rfl ?_
        refine e_iconst (dec_at dX6_row 31) ?_
        refine e_iast (dec_at dX6_row 32) rfl (by decide) (aLk_22 _) (by omega) (by omega) ?_
        refine e_ii3 (dec_at dX6_row 33) (by decide) rfl ?_
        refine e_goto 43 (dec_at dX6_row 34) (by decide) ?_
        refine e_iload_n 3 (dec_at dX6_row 25) rfl rfl ?_
        refine e_bipush (dec_at dX6_row 26) (by decide) ?_
        refine e_icmp_ge 62 (dec_at dX6_row 27) (by decide) (by decide) (by decide) (fun h => absurd h (by decide)) (fun _ => ?_)
        refine e_aload_n 0 (dec_at dX6_row 28) rfl rfl ?_
        refine e_getr 3 (dec_at dX6_row 29) flX6_7 rfl rfl ?_
        refine e_iload_n 3 (dec_at dX6_row 30) rfl rfl ?_
        refine e_iconst (dec_at dX6_row 31) ?_
        refine e_iast (dec_at dX6_row 32) rfl (by decide) (aLk_22 _) (by omega) (by omega) ?_
        refine e_ii3 (dec_at dX6_row 33) (by decide) rfl ?_
        refine e_goto 43 (dec_at dX6_row 34) (by decide) ?_
        refine e_iload_n 3 (dec_at dX6_row 25) rfl rfl ?_
        refine e_bipush (dec_at dX6_row 26) (by decide) ?_
        refine e_icmp_ge 62 (dec_at dX6_row 27) (by decide) (by decide) (by decide) (fun h => absurd h (by decide)) (fun _ => ?_)
        refine e_aload_n 0 (dec_at dX6_row 28) rfl rfl ?_
        refine e_getr 3 (dec_at dX6_row 29) flX6_7 rfl rfl ?_
        refine e_iload_n 3 (dec_at dX6_row 30) rfl rfl ?_
        refine e_iconst (dec_at dX6_row 31) ?_
        refine e_iast (dec_at dX6_row 32) rfl (by decide) (aLk_22 _) (by omega) (by omega) ?_
        refine e_ii3 (dec_at dX6_row 33) (by decide) rfl ?_
        refine e_goto 43 (dec_at dX6_row 34) (by decide) ?_
        refine e_iload_n 3 (dec_at dX6_row 25) rfl rfl ?_
        refine e_bipush (dec_at dX6_row 26) (by decide) ?_
        refine e_icmp_ge 62 (dec_at dX6_row 27) (by decide) (by decide) (by decide) (fun h => absurd h (by decide)) (fun _ => ?_)
        refine e_aload_n 0 (dec_at dX6_row 28) rfl rfl ?_
        refine e_getr 3 (dec_at dX6_row 29) flX6_7 rfl rfl ?_
        refine e_iload_n 3 (dec_at dX6_row 30) rfl rfl ?_
        refine e_iconst (dec_at dX6_row 31) ?_
        refine e_iast (dec_at dX6_row 32) rfl (by decide) (aLk_22 _) (by omega) (by omega) ?_
        refine e_ii3 (dec_at dX6_row 33) (by decide) rfl ?_
        refine e_goto 43 (dec_at dX6_row 34) (by decide) ?_
        refine e_iload_n 3 (dec_at dX6_row 25) rfl rfl ?_
        refine e_bipush (dec_at dX6_row 26) (by decide) ?_
        refine e_icmp_ge 62 (dec_at dX6_row 27) (by decide) (by decide) (by decide) (fun h => absurd h (by decide)) (fun _ => ?_)
        refine e_aload_n 0 (dec_at dX6_row 28) rfl rfl ?_
        refine e_getr 3 (dec_at dX6_row 29) flX6_7 rfl rfl ?_
        refine e_iload_n 3 (dec_at dX6_row 30) rfl rfl ?_
        refine e_iconst (dec_at dX6_row 31) ?_
        refine e_iast (dec_at dX6_row 32) rfl (by decide) (aLk_22 _) (by omega) (by omega) ?_
        refine e_ii3 (dec_at dX6_row 33) (by decide) rfl ?_
        refine e_goto 43 (dec_at dX6_row 34) (by decide) ?_
        refine e_iload_n 3 (dec_at dX6_row 25) rfl rfl ?_
        refine e_bipush (dec_at dX6_row 26) (by decide) ?_
        refine e_icmp_ge 62 (dec_at dX6_row 27) (by decide) (by decide) (by decide) (fun _ => ?_) (fun h => absurd h (by decide))
        refine e_iload_n 2 (dec_at dX6_row 35) rfl rfl ?_
        refine e_ireturn (dec_at dX6_row 36) rfl ?_
        refine Or.inr (Or.inr ⟨by omega, rfl, fun k l1 i z => ?_, ?_, ?_, fun j j0 j1 => ?_⟩)
        · rw [mset_ne (by omega), mset_ne (by omega), mset_ne (by omega), mset_ne (by omega), mset_ne (by omega), mset_ne (by omega), mset_ne (by omega), mset_ne (by omega), mset_ne (by omega), mset_ne (by omega)]
        · rw [mset_k (by decide), mset_k (by decide), mset_k (by decide), mset_k (by decide), mset_k (by decide), mset_k (by decide), mset_k (by decide), mset_k (by decide), mset_i (by decide)]; exact mset_eq
        · rw [mset_k (by decide), mset_k (by decide), mset_k (by decide), mset_k (by decide), mset_k (by decide), mset_k (by decide), mset_k (by decide), mset_k (by decide)]; exact mset_eq
        · rcases (show j = 0 ∨ j = 1 ∨ j = 2 ∨ j = 3 ∨ j = 4 ∨ j = 5 ∨ j = 6 ∨ j = 7 by omega) with rfl | rfl | rfl | rfl | rfl | rfl | rfl | rfl <;> simp [mset]
      · refine e_aload_n 0 (dec_at dX6_row 13) rfl rfl ?_
        refine e_iconst (dec_at dX6_row 14) ?_
        refine e_callVr (M' := mX6_meets) (dec_at dX6_row 15) mlX6_63 (m_meets 3 (by decide)) oX6_meets iX6_meets rfl rfl rfl rfl (by decide) (by decide) (Nat.le_of_ble_eq_true rfl) ?_
        refine e_ireturn (dec_at dX6_row 16) rfl ?_
        exact Or.inr (Or.inl (⟨by omega, rfl, rfl⟩))
    · refine e_bipush (dec_at dX6_row 9) (by decide) ?_
      refine e_ireturn (dec_at dX6_row 10) rfl ?_
      exact Or.inl (⟨by omega, rfl, rfl⟩)

set_option maxRecDepth 100000 in
set_option maxHeartbeats 4000000 in
theorem m_put {μ : Mm} (a i v : Int) (ha : inR a) (hi : inR i) (hv : inR v) (hz : 0 ≤ μ 21 0 2 ∧ μ 21 0 2 ≤ 8) : Mc mX6_put 6 [vR 21 0, vI a, vI i, vI v] μ (fun r ν => (¬ (0 ≤ a ∧ a ≤ 2) ∧ r = some (vI (-102)) ∧ ν = μ) ∨ (((0 ≤ a ∧ a ≤ 2) ∧ μ 21 0 1 = -1) ∧ r = some (vI (-10 - 1)) ∧ ν = mset μ 21 0 0 1) ∨ (((0 ≤ a ∧ a ≤ 2) ∧ μ 21 0 1 ≠ -1 ∧ a ≠ μ 21 0 1) ∧ r = some (vI (-10 - 4)) ∧ ν = mset μ 21 0 0 4) ∨ (((0 ≤ a ∧ a ≤ 2) ∧ μ 21 0 1 ≠ -1 ∧ a = μ 21 0 1 ∧ ¬ (0 ≤ i ∧ i < μ 21 0 2)) ∧ r = some (vI (-10 - 2)) ∧ ν = mset μ 21 0 0 2) ∨ (((0 ≤ a ∧ a ≤ 2) ∧ μ 21 0 1 ≠ -1 ∧ a = μ 21 0 1 ∧ (0 ≤ i ∧ i < μ 21 0 2)) ∧ r = some (vI (1)) ∧ ν = mset μ 22 0 i (lc a v))) := by
  refine Mc.of (L := [some (vR 21 0), some (vI a), some (vI i), some (vI v)]) (by decide +kernel) (by simp [leL, entA, isLong, mX6_put]) (by simp [entA, isLong, mX6_put]) ?_
  refine e_iload_n 1 (dec_at dX6_put 0) rfl rfl ?_
  refine e_i2l (dec_at dX6_put 1) (by omega) ?_
  refine e_lconst 0 (dec_at dX6_put 2) rfl ?_
  refine e_ldc2 2 (dec_at dX6_put 3) klX6_57 (by decide) ?_
  refine e_callSr (M' := mX6_in) (dec_at dX6_put 4) mlX6_59 (m_in (a) (0) (2) (by omega) (by omega) (by omega)) oX6_in sX6_in rfl rfl (by decide) (by decide) (Nat.le_of_ble_eq_true rfl) ?_
  refine e_bne 15 (dec_at dX6_put 5) (by decide) (fun h9 => ?_) (fun h9 => ?_)
  · refine e_aload_n 0 (dec_at dX6_put 8) rfl rfl ?_
    refine e_geti 1 1 (dec_at dX6_put 9) flX6_46 rfl rfl rfl (fun r16 => ?_)
    refine e_iconst (dec_at dX6_put 10) ?_
    refine e_icmp_ne 29 (dec_at dX6_put 11) (by decide) (by omega) (by omega) (fun h20 => ?_) (fun h20 => ?_)
    · refine e_aload_n 0 (dec_at dX6_put 16) rfl rfl ?_
      refine e_geti 1 1 (dec_at dX6_put 17) flX6_46 rfl rfl rfl (fun r30 => ?_)
      refine e_iload_n 1 (dec_at dX6_put 18) rfl rfl ?_
      refine e_icmp_eq 43 (dec_at dX6_put 19) (by decide) (by omega) (by omega) (fun h34 => ?_) (fun h34 => ?_)
      · refine e_iload_n 2 (dec_at dX6_put 24) rfl rfl ?_
        refine e_i2l (dec_at dX6_put 25) (by omega) ?_
        refine e_lconst 0 (dec_at dX6_put 26) rfl ?_
        refine e_aload_n 0 (dec_at dX6_put 27) rfl rfl ?_
        refine e_geti 2 2 (dec_at dX6_put 28) flX6_67 rfl rfl rfl (fun r47 => ?_)
        refine e_iconst (dec_at dX6_put 29) ?_
        refine e_isub (dec_at dX6_put 30) ?_
        refine e_i2l (dec_at dX6_put 31) (by omega) ?_
        refine e_callSr (M' := mX6_in) (dec_at dX6_put 32) mlX6_59 (m_in (i) (0) (μ 21 0 2 - 1) (by omega) (by omega) (by omega)) oX6_in sX6_in rfl rfl (by decide) (by decide) (Nat.le_of_ble_eq_true rfl) ?_
        refine e_bne 65 (dec_at dX6_put 33) (by decide) (fun h56 => ?_) (fun h56 => ?_)
        · refine e_aload_n 0 (dec_at dX6_put 38) rfl rfl ?_
          refine e_getr 3 (dec_at dX6_put 39) flX6_7 rfl rfl ?_
          refine e_iload_n 2 (dec_at dX6_put 40) rfl rfl ?_
          refine e_iload_n 1 (dec_at dX6_put 41) rfl rfl ?_
          refine e_if_ne 79 (dec_at dX6_put 42) (by decide) (by omega) (fun h71 => ?_) (fun h71 => ?_)
          · refine e_iload_n 1 (dec_at dX6_put 46) rfl rfl ?_
            refine e_iconst (dec_at dX6_put 47) ?_
            refine e_icmp_ne 89 (dec_at dX6_put 48) (by decide) (by omega) (by omega) (fun h81 => ?_) (fun h81 => ?_)
            · refine e_iload_n 3 (dec_at dX6_put 52) rfl rfl ?_
              refine e_iast (dec_at dX6_put 53) rfl (by decide) (aLk_22 _) (by omega) (by first | exact (bmod_in v).1 | exact (bmod_in v).2 | omega) ?_
              refine e_iconst (dec_at dX6_put 54) ?_
              refine e_ireturn (dec_at dX6_put 55) rfl ?_
              exact Or.inr (Or.inr (Or.inr (Or.inr (⟨by omega, rfl, by unfold lc; first | rw [if_pos (by omega)] | rw [if_neg (by omega), if_pos (by omega)] | rw [if_neg (by omega), if_neg (by omega)]⟩))))
            · refine e_iload_n 3 (dec_at dX6_put 49) rfl rfl ?_
              refine e_i2s (dec_at dX6_put 50) ?_
              refine e_goto 90 (dec_at dX6_put 51) (by decide) ?_
              refine e_iast (dec_at dX6_put 53) rfl (by decide) (aLk_22 _) (by omega) (by first | exact (bmod_in v).1 | exact (bmod_in v).2 | omega) ?_
              refine e_iconst (dec_at dX6_put 54) ?_
              refine e_ireturn (dec_at dX6_put 55) rfl ?_
              exact Or.inr (Or.inr (Or.inr (Or.inr (⟨by omega, rfl, by unfold lc; first | rw [if_pos (by omega)] | rw [if_neg (by omega), if_pos (by omega)] | rw [if_neg (by omega), if_neg (by omega)]⟩))))
          · refine e_iload_n 3 (dec_at dX6_put 43) rfl rfl ?_
            refine e_i2b (dec_at dX6_put 44) ?_
            refine e_goto 90 (dec_at dX6_put 45) (by decide) ?_
            refine e_iast (dec_at dX6_put 53) rfl (by decide) (aLk_22 _) (by omega) (by first | exact (bmod_in v).1 | exact (bmod_in v).2 | omega) ?_
            refine e_iconst (dec_at dX6_put 54) ?_
            refine e_ireturn (dec_at dX6_put 55) rfl ?_
            exact Or.inr (Or.inr (Or.inr (Or.inr (⟨by omega, rfl, by unfold lc; first | rw [if_pos (by omega)] | rw [if_neg (by omega), if_pos (by omega)] | rw [if_neg (by omega), if_neg (by omega)]⟩))))
        · refine e_aload_n 0 (dec_at dX6_put 34) rfl rfl ?_
          refine e_iconst (dec_at dX6_put 35) ?_
          refine e_callVr (M' := mX6_meets) (dec_at dX6_put 36) mlX6_63 (m_meets 2 (by decide)) oX6_meets iX6_meets rfl rfl rfl rfl (by decide) (by decide) (Nat.le_of_ble_eq_true rfl) ?_
          refine e_ireturn (dec_at dX6_put 37) rfl ?_
          exact Or.inr (Or.inr (Or.inr (Or.inl (⟨by omega, rfl, rfl⟩))))
      · refine e_aload_n 0 (dec_at dX6_put 20) rfl rfl ?_
        refine e_iconst (dec_at dX6_put 21) ?_
        refine e_callVr (M' := mX6_meets) (dec_at dX6_put 22) mlX6_63 (m_meets 4 (by decide)) oX6_meets iX6_meets rfl rfl rfl rfl (by decide) (by decide) (Nat.le_of_ble_eq_true rfl) ?_
        refine e_ireturn (dec_at dX6_put 23) rfl ?_
        exact Or.inr (Or.inr (Or.inl (⟨by omega, rfl, rfl⟩)))
    · refine e_aload_n 0 (dec_at dX6_put 12) rfl rfl ?_
      refine e_iconst (dec_at dX6_put 13) ?_
      refine e_callVr (M' := mX6_meets) (dec_at dX6_put 14) mlX6_63 (m_meets 1 (by decide)) oX6_meets iX6_meets rfl rfl rfl rfl (by decide) (by decide) (Nat.le_of_ble_eq_true rfl) ?_
      refine e_ireturn (dec_at dX6_put 15) rfl ?_
      exact Or.inr (Or.inl (⟨by omega, rfl, rfl⟩))
  · refine e_bipush (dec_at dX6_put 6) (by decide) ?_
    refine e_ireturn (dec_at dX6_put 7) rfl ?_
    exact Or.inl (⟨by omega, rfl, rfl⟩)

set_option maxRecDepth 100000 in
set_option maxHeartbeats 4000000 in
theorem m_lose {μ : Mm} : Mc mX6_lose 6 [vR 21 0] μ (fun r ν => (μ 21 0 1 = -1 ∧ r = some (vI (-10 - 1)) ∧ ν = mset μ 21 0 0 1) ∨ (μ 21 0 1 ≠ -1 ∧ r = some (vI (1)) ∧ ν = mset μ 21 0 1 (-1))) := by
  refine Mc.of (L := [some (vR 21 0)]) (by decide +kernel) (by simp [leL, entA, isLong, mX6_lose]) (by simp [entA, isLong, mX6_lose]) ?_
  refine e_aload_n 0 (dec_at dX6_lose 0) rfl rfl ?_
  refine e_geti 1 1 (dec_at dX6_lose 1) flX6_46 rfl rfl rfl (fun r1 => ?_)
  refine e_iconst (dec_at dX6_lose 2) ?_
  refine e_icmp_ne 14 (dec_at dX6_lose 3) (by decide) (by omega) (by omega) (fun h5 => ?_) (fun h5 => ?_)
  · refine e_aload_n 0 (dec_at dX6_lose 8) rfl rfl ?_
    refine e_iconst (dec_at dX6_lose 9) ?_
    refine e_put 1 1 (dec_at dX6_lose 10) flX6_46 fpX6_1 rfl rfl rfl (by omega) (fit_int _) ?_
    refine e_iconst (dec_at dX6_lose 11) ?_
    refine e_ireturn (dec_at dX6_lose 12) rfl ?_
    exact Or.inr (⟨by omega, rfl, rfl⟩)
  · refine e_aload_n 0 (dec_at dX6_lose 4) rfl rfl ?_
    refine e_iconst (dec_at dX6_lose 5) ?_
    refine e_callVr (M' := mX6_meets) (dec_at dX6_lose 6) mlX6_63 (m_meets 1 (by decide)) oX6_meets iX6_meets rfl rfl rfl rfl (by decide) (by decide) (Nat.le_of_ble_eq_true rfl) ?_
    refine e_ireturn (dec_at dX6_lose 7) rfl ?_
    exact Or.inl (⟨by omega, rfl, rfl⟩)

set_option maxRecDepth 100000 in
set_option maxHeartbeats 4000000 in
theorem m_corner {μ : Mm} (hC : 0 ≤ μ 23 0 0 ∧ μ 23 0 0 ≤ 14) : Mc mX6_corner 6 [vR 21 0] μ (fun r ν => (μ 21 0 1 = -1 ∧ r = some (vI (-10 - 1)) ∧ ν = mset μ 21 0 0 1) ∨ ((μ 21 0 1 ≠ -1 ∧ μ 21 0 2 < 3) ∧ r = some (vI (-10 - 2)) ∧ ν = mset μ 21 0 0 2) ∨ ((μ 21 0 1 ≠ -1 ∧ 3 ≤ μ 21 0 2 ∧ ¬ (∀ j, 0 ≤ j → j < 3 → -1000 ≤ μ 22 0 j ∧ μ 22 0 j ≤ 1000)) ∧ r = some (vI (-102)) ∧ ν = μ) ∨ ((μ 21 0 1 ≠ -1 ∧ 3 ≤ μ 21 0 2 ∧ (∀ j, 0 ≤ j → j < 3 → -1000 ≤ μ 22 0 j ∧ μ 22 0 j ≤ 1000) ∧ μ 23 0 0 = 14) ∧ r = some (vI (-104)) ∧ ν = μ) ∨ ((μ 21 0 1 ≠ -1 ∧ 3 ≤ μ 21 0 2 ∧ (∀ j, 0 ≤ j → j < 3 → -1000 ≤ μ 22 0 j ∧ μ 22 0 j ≤ 1000) ∧ μ 23 0 0 < 14) ∧ r = some (vI (μ 23 0 0)) ∧ (∀ k l1 i, ¬ (l1 = 0 ∧ (k = 26 ∧ 3 * μ 23 0 0 ≤ i ∧ i ≤ 3 * μ 23 0 0 + 2 ∨ k = 23 ∧ i = 0 ∨ k = 21 ∧ i = 4)) → ν k l1 i = μ k l1 i) ∧ ν 23 0 0 = μ 23 0 0 + 1 ∧ ν 21 0 4 = 1 ∧ (∀ a, 0 ≤ a → a < 3 → ν 26 0 (3 * μ 23 0 0 + a) = μ 22 0 a))) := by
  refine Mc.of (L := [some (vR 21 0), none]) (by decide +kernel) (by simp [leL, entA, isLong, mX6_corner]) (by simp [entA, isLong, mX6_corner]) ?_
  refine e_aload_n 0 (dec_at dX6_corner 0) rfl rfl ?_
  refine e_geti 1 1 (dec_at dX6_corner 1) flX6_46 rfl rfl rfl (fun r1 => ?_)
  refine e_iconst (dec_at dX6_corner 2) ?_
  refine e_icmp_ne 14 (dec_at dX6_corner 3) (by decide) (by omega) (by omega) (fun h5 => ?_) (fun h5 => ?_)
  · refine e_aload_n 0 (dec_at dX6_corner 8) rfl rfl ?_
    refine e_geti 2 2 (dec_at dX6_corner 9) flX6_67 rfl rfl rfl (fun r15 => ?_)
    refine e_iconst (dec_at dX6_corner 10) ?_
    refine e_icmp_ge 28 (dec_at dX6_corner 11) (by decide) (by omega) (by omega) (fun h19 => ?_) (fun h19 => ?_)
    · refine e_iconst (dec_at dX6_corner 16) ?_
      refine e_is1 (dec_at dX6_corner 17) (by decide) rfl ?_
      refine e_iload_n 1 (dec_at dX6_corner 18) rfl rfl ?_
      refine e_iconst (dec_at dX6_corner 19) ?_
      refine e_icmp_ge 63 (dec_at dX6_corner 20) (by decide) (by decide) (by decide) (fun h => absurd h (by decide)) (fun _ => ?_)
      refine e_aload_n 0 (dec_at dX6_corner 21) rfl rfl ?_
      refine e_getr 3 (dec_at dX6_corner 22) flX6_7 rfl rfl ?_
      refine e_iload_n 1 (dec_at dX6_corner 23) rfl rfl ?_
      refine e_ialdv (μ 22 0 0) (dec_at dX6_corner 24) rfl (by decide) (aLk_22 _) (by omega) (by rfl) (fun r40 => ?_)
      refine e_i2l (dec_at dX6_corner 25) (by omega) ?_
      refine e_ldc2 (-1000) (dec_at dX6_corner 26) klX6_78 (by decide) ?_
      refine e_ldc2 1000 (dec_at dX6_corner 27) klX6_80 (by decide) ?_
      refine e_callSr (M' := mX6_in) (dec_at dX6_corner 28) mlX6_59 (m_in _ (-1000) 1000 (by omega) (by omega) (by omega)) oX6_in sX6_in rfl rfl (by decide) (by decide) (Nat.le_of_ble_eq_true rfl) ?_
      refine e_bne 57 (dec_at dX6_corner 29) (by decide) (fun h51 => ?_) (fun h51 => ?_)
      · refine e_ii1 (dec_at dX6_corner 32) (by decide) rfl ?_
        refine e_goto 30 (dec_at dX6_corner 33) (by decide) ?_
        refine e_iload_n 1 (dec_at dX6_corner 18) rfl rfl ?_
        refine e_iconst (dec_at dX6_corner 19) ?_
        refine e_icmp_ge 63 (dec_at dX6_corner 20) (by decide) (by decide) (by decide) (fun h => absurd h (by decide)) (fun _ => ?_)
        refine e_aload_n 0 (dec_at dX6_corner 21) rfl rfl ?_
        refine e_getr 3 (dec_at dX6_corner 22) flX6_7 rfl rfl ?_
        refine e_iload_n 1 (dec_at dX6_corner 23) rfl rfl ?_
        refine e_ialdv (μ 22 0 1) (dec_at dX6_corner 24) rfl (by decide) (aLk_22 _) (by omega) (by rfl) (fun r40 => ?_)
        refine e_i2l (dec_at dX6_corner 25) (by omega) ?_
        refine e_ldc2 (-1000) (dec_at dX6_corner 26) klX6_78 (by decide) ?_
        refine e_ldc2 1000 (dec_at dX6_corner 27) klX6_80 (by decide) ?_
        refine e_callSr (M' := mX6_in) (dec_at dX6_corner 28) mlX6_59 (m_in _ (-1000) 1000 (by omega) (by omega) (by omega)) oX6_in sX6_in rfl rfl (by decide) (by decide) (Nat.le_of_ble_eq_true rfl) ?_
        refine e_bne 57 (dec_at dX6_corner 29) (by decide) (fun h51 => ?_) (fun h51 => ?_)
        · refine e_ii1 (dec_at dX6_corner 32) (by decide) rfl ?_
          refine e_goto 30 (dec_at dX6_corner 33) (by decide) ?_
          refine e_iload_n 1 (dec_at dX6_corner 18) rfl rfl ?_
          refine e_iconst (dec_at dX6_corner 19) ?_
          refine e_icmp_ge 63 (dec_at dX6_corner 20) (by decide) (by decide) (by decide) (fun h => absurd h (by decide)) (fun _ => ?_)
          refine e_aload_n 0 (dec_at dX6_corner 21) rfl rfl ?_
          refine e_getr 3 (dec_at dX6_corner 22) flX6_7 rfl rfl ?_
          refine e_iload_n 1 (dec_at dX6_corner 23) rfl rfl ?_
          refine e_ialdv (μ 22 0 2) (dec_at dX6_corner 24) rfl (by decide) (aLk_22 _) (by omega) (by rfl) (fun r40 => ?_)
          refine e_i2l (dec_at dX6_corner 25) (by omega) ?_
          refine e_ldc2 (-1000) (dec_at dX6_corner 26) klX6_78 (by decide) ?_
          refine e_ldc2 1000 (dec_at dX6_corner 27) klX6_80 (by decide) ?_
          refine e_callSr (M' := mX6_in) (dec_at dX6_corner 28) mlX6_59 (m_in _ (-1000) 1000 (by omega) (by omega) (by omega)) oX6_in sX6_in rfl rfl (by decide) (by decide) (Nat.le_of_ble_eq_true rfl) ?_
          refine e_bne 57 (dec_at dX6_corner 29) (by decide) (fun h51 => ?_) (fun h51 => ?_)
          · refine e_ii1 (dec_at dX6_corner 32) (by decide) rfl ?_
            refine e_goto 30 (dec_at dX6_corner 33) (by decide) ?_
            refine e_iload_n 1 (dec_at dX6_corner 18) rfl rfl ?_
            refine e_iconst (dec_at dX6_corner 19) ?_
            refine e_icmp_ge 63 (dec_at dX6_corner 20) (by decide) (by decide) (by decide) (fun _ => ?_) (fun h => absurd h (by decide))
            have hco : ∀ j, 0 ≤ j → j < 3 → -1000 ≤ μ 22 0 j ∧ μ 22 0 j ≤ 1000 := fun j j0 j1 => by
              rcases (show j = 0 ∨ j = 1 ∨ j = 2 by omega) with rfl | rfl | rfl <;> omega
            refine e_aload_n 0 (dec_at dX6_corner 34) rfl rfl ?_
            refine e_getr 7 (dec_at dX6_corner 35) flX6_13 rfl rfl ?_
            refine e_iconst (dec_at dX6_corner 36) ?_
            refine e_iald (dec_at dX6_corner 37) rfl (by decide) (aLk_23 _) (by omega) (fun r68 => ?_)
            refine e_bipush (dec_at dX6_corner 38) (by decide) ?_
            refine e_icmp_ne 77 (dec_at dX6_corner 39) (by decide) (by omega) (by omega) (fun h71 => ?_) (fun h71 => ?_)
            · refine e_iconst (dec_at dX6_corner 42) ?_
              refine e_is1 (dec_at dX6_corner 43) (by decide) rfl ?_
              refine e_iload_n 1 (dec_at dX6_corner 44) rfl rfl ?_
              refine e_iconst (dec_at dX6_corner 45) ?_
              refine e_icmp_ge 111 (dec_at dX6_corner 46) (by decide) (by decide) (by decide) (fun h => absurd h (by decide)) (fun _ => ?_)
              refine e_aload_n 0 (dec_at dX6_corner 47) rfl rfl ?_
              refine e_getr 10 (dec_at dX6_corner 48) flX6_22 rfl rfl ?_
              refine e_iconst (dec_at dX6_corner 49) ?_
              refine e_aload_n 0 (dec_at dX6_corner 50) rfl rfl ?_
              refine e_getr 7 (dec_at dX6_corner 51) flX6_13 rfl rfl ?_
              refine e_iconst (dec_at dX6_corner 52) ?_
              refine e_ialdv (μ 23 0 0) (dec_at dX6_corner 53) rfl (by decide) (aLk_23 _) (by omega) (by rfl) (fun r94 => ?_)
              refine e_imul (dec_at dX6_corner 54) ?_
              refine e_iload_n 1 (dec_at dX6_corner 55) rfl rfl ?_
              refine e_iadd (dec_at dX6_corner 56) ?_
              refine e_aload_n 0 (dec_at dX6_corner 57) rfl rfl ?_
              refine e_getr 3 (dec_at dX6_corner 58) flX6_7 rfl rfl ?_
              refine e_iload_n 1 (dec_at dX6_corner 59) rfl rfl ?_
              refine e_ialdv (μ 22 0 0) (dec_at dX6_corner 60) rfl (by decide) (aLk_22 _) (by omega) (by rfl) (fun r103 => ?_)
              refine e_iast (dec_at dX6_corner 61) rfl (by decide) (aLk_26 _) (by omega) (by omega) ?_
              refine e_ii1 (dec_at dX6_corner 62) (by decide) rfl ?_
              refine e_goto 79 (dec_at dX6_corner 63) (by decide) ?_
              refine e_iload_n 1 (dec_at dX6_corner 44) rfl rfl ?_
              refine e_iconst (dec_at dX6_corner 45) ?_
              refine e_icmp_ge 111 (dec_at dX6_corner 46) (by decide) (by decide) (by decide) (fun h => absurd h (by decide)) (fun _ => ?_)
              refine e_aload_n 0 (dec_at dX6_corner 47) rfl rfl ?_
              refine e_getr 10 (dec_at dX6_corner 48) flX6_22 rfl rfl ?_
              refine e_iconst (dec_at dX6_corner 49) ?_
              refine e_aload_n 0 (dec_at dX6_corner 50) rfl rfl ?_
              refine e_getr 7 (dec_at dX6_corner 51) flX6_13 rfl rfl ?_
              refine e_iconst (dec_at dX6_corner 52) ?_
              refine e_ialdv (μ 23 0 0) (dec_at dX6_corner 53) rfl (by decide) (aLk_23 _) (by omega) (by rw [mset_k (by decide)]) (fun r94 => ?_)
              refine e_imul (dec_at dX6_corner 54) ?_
              refine e_iload_n 1 (dec_at dX6_corner 55) rfl rfl ?_
              refine e_iadd (dec_at dX6_corner 56) ?_
              refine e_aload_n 0 (dec_at dX6_corner 57) rfl rfl ?_
              refine e_getr 3 (dec_at dX6_corner 58) flX6_7 rfl rfl ?_
              refine e_iload_n 1 (dec_at dX6_corner 59) rfl rfl ?_
              refine e_ialdv (μ 22 0 1) (dec_at dX6_corner 60) rfl (by decide) (aLk_22 _) (by omega) (by rw [mset_k (by decide), show (0 : Int) + 1 = 1 from rfl]) (fun r103 => ?_)
              refine e_iast (dec_at dX6_corner 61) rfl (by decide) (aLk_26 _) (by omega) (by omega) ?_
              refine e_ii1 (dec_at dX6_corner 62) (by decide) rfl ?_
              refine e_goto 79 (dec_at dX6_corner 63) (by decide) ?_
              refine e_iload_n 1 (dec_at dX6_corner 44) rfl rfl ?_
              refine e_iconst (dec_at dX6_corner 45) ?_
              refine e_icmp_ge 111 (dec_at dX6_corner 46) (by decide) (by decide) (by decide) (fun h => absurd h (by decide)) (fun _ => ?_)
              refine e_aload_n 0 (dec_at dX6_corner 47) rfl rfl ?_
              refine e_getr 10 (dec_at dX6_corner 48) flX6_22 rfl rfl ?_
              refine e_iconst (dec_at dX6_corner 49) ?_
              refine e_aload_n 0 (dec_at dX6_corner 50) rfl rfl ?_
              refine e_getr 7 (dec_at dX6_corner 51) flX6_13 rfl rfl ?_
              refine e_iconst (dec_at dX6_corner 52) ?_
              refine e_ialdv (μ 23 0 0) (dec_at dX6_corner 53) rfl (by decide) (aLk_23 _) (by omega) (by rw [mset_k (by decide), mset_k (by decide)]) (fun r94 => ?_)
              refine e_imul (dec_at dX6_corner 54) ?_
              refine e_iload_n 1 (dec_at dX6_corner 55) rfl rfl ?_
              refine e_iadd (dec_at dX6_corner 56) ?_
              refine e_aload_n 0 (dec_at dX6_corner 57) rfl rfl ?_
              refine e_getr 3 (dec_at dX6_corner 58) flX6_7 rfl rfl ?_
              refine e_iload_n 1 (dec_at dX6_corner 59) rfl rfl ?_
              refine e_ialdv (μ 22 0 2) (dec_at dX6_corner 60) rfl (by decide) (aLk_22 _) (by omega) (by rw [mset_k (by decide), mset_k (by decide), show (0 : Int) + 1 + 1 = 2 from rfl]) (fun r103 => ?_)
              refine e_iast (dec_at dX6_corner 61) rfl (by decide) (aLk_26 _) (by omega) (by omega) ?_
              refine e_ii1 (dec_at dX6_corner 62) (by decide) rfl ?_
              refine e_goto 79 (dec_at dX6_corner 63) (by decide) ?_
              refine e_iload_n 1 (dec_at dX6_corner 44) rfl rfl ?_
              refine e_iconst (dec_at dX6_corner 45) ?_
              refine e_icmp_ge 111 (dec_at dX6_corner 46) (by decide) (by decide) (by decide) (fun _ => ?_) (fun h => absurd h (by decide))
              refine e_aload_n 0 (dec_at dX6_corner 64) rfl rfl ?_
              refine e_getr 7 (dec_at dX6_corner 65) flX6_13 rfl rfl ?_
              refine e_iconst (dec_at dX6_corner 66) ?_
              refine e_dup2 (dec_at dX6_corner 67) rfl rfl ?_
              refine e_ialdv (μ 23 0 0) (dec_at dX6_corner 68) rfl (by decide) (aLk_23 _) (by omega) (by rw [mset_k (by decide), mset_k (by decide), mset_k (by decide)]) (fun r117 => ?_)
              refine e_iconst (dec_at dX6_corner 69) ?_
              refine e_iadd (dec_at dX6_corner 70) ?_
              refine e_iast (dec_at dX6_corner 71) rfl (by decide) (aLk_23 _) (by omega) (by omega) ?_
              refine e_aload_n 0 (dec_at dX6_corner 72) rfl rfl ?_
              refine e_iconst (dec_at dX6_corner 73) ?_
              refine e_put 4 4 (dec_at dX6_corner 74) flX6_50 fpX6_4 rfl rfl rfl (by omega) (fit_bool (by first | exact Or.inl rfl | exact Or.inr rfl)) ?_
              refine e_aload_n 0 (dec_at dX6_corner 75) rfl rfl ?_
              refine e_getr 7 (dec_at dX6_corner 76) flX6_13 rfl rfl ?_
              refine e_iconst (dec_at dX6_corner 77) ?_
              refine e_ialdv (μ 23 0 0 + 1) (dec_at dX6_corner 78) rfl (by decide) (aLk_23 _) (by omega) (by rw [mset_k (by decide)]; exact mset_eq) (fun r131 => ?_)
              refine e_iconst (dec_at dX6_corner 79) ?_
              refine e_isub (dec_at dX6_corner 80) ?_
              refine e_ireturn (dec_at dX6_corner 81) rfl ?_
              refine Or.inr (Or.inr (Or.inr (Or.inr ⟨⟨by omega, by omega, hco, by omega⟩, by rw [show μ 23 0 0 + 1 - 1 = μ 23 0 0 by omega], fun k l1 i z => ?_, ?_, mset_eq, fun a a0 a1 => ?_⟩)))
              · rw [mset_ne (by omega), mset_ne (by omega), mset_ne (by omega), mset_ne (by omega), mset_ne (by omega)]
              · rw [mset_k (by decide)]; exact mset_eq
              · rw [mset_k (by decide), mset_k (by decide)]
                rcases (show a = 0 ∨ a = 1 ∨ a = 2 by omega) with rfl | rfl | rfl
                · rw [mset_i (by omega), mset_i (by omega)]; exact mset_eq
                · rw [mset_i (by omega)]; exact mset_eq
                · exact mset_eq
            · refine e_bipush (dec_at dX6_corner 40) (by decide) ?_
              refine e_ireturn (dec_at dX6_corner 41) rfl ?_
              exact Or.inr (Or.inr (Or.inr (Or.inl (⟨⟨by omega, by omega, hco, by omega⟩, rfl, rfl⟩))))
          · refine e_bipush (dec_at dX6_corner 30) (by decide) ?_
            refine e_ireturn (dec_at dX6_corner 31) rfl ?_
            exact Or.inr (Or.inr (Or.inl (⟨⟨by omega, by omega, fun q => by have q0 := q 0 (by omega) (by omega); have q1 := q 1 (by omega) (by omega); have q2 := q 2 (by omega) (by omega); omega⟩, rfl, rfl⟩)))
        · refine e_bipush (dec_at dX6_corner 30) (by decide) ?_
          refine e_ireturn (dec_at dX6_corner 31) rfl ?_
          exact Or.inr (Or.inr (Or.inl (⟨⟨by omega, by omega, fun q => by have q0 := q 0 (by omega) (by omega); have q1 := q 1 (by omega) (by omega); have q2 := q 2 (by omega) (by omega); omega⟩, rfl, rfl⟩)))
      · refine e_bipush (dec_at dX6_corner 30) (by decide) ?_
        refine e_ireturn (dec_at dX6_corner 31) rfl ?_
        exact Or.inr (Or.inr (Or.inl (⟨⟨by omega, by omega, fun q => by have q0 := q 0 (by omega) (by omega); have q1 := q 1 (by omega) (by omega); have q2 := q 2 (by omega) (by omega); omega⟩, rfl, rfl⟩)))
    · refine e_aload_n 0 (dec_at dX6_corner 12) rfl rfl ?_
      refine e_iconst (dec_at dX6_corner 13) ?_
      refine e_callVr (M' := mX6_meets) (dec_at dX6_corner 14) mlX6_63 (m_meets 2 (by decide)) oX6_meets iX6_meets rfl rfl rfl rfl (by decide) (by decide) (Nat.le_of_ble_eq_true rfl) ?_
      refine e_ireturn (dec_at dX6_corner 15) rfl ?_
      exact Or.inr (Or.inl (⟨by omega, rfl, rfl⟩))
  · refine e_aload_n 0 (dec_at dX6_corner 4) rfl rfl ?_
    refine e_iconst (dec_at dX6_corner 5) ?_
    refine e_callVr (M' := mX6_meets) (dec_at dX6_corner 6) mlX6_63 (m_meets 1 (by decide)) oX6_meets iX6_meets rfl rfl rfl rfl (by decide) (by decide) (Nat.le_of_ble_eq_true rfl) ?_
    refine e_ireturn (dec_at dX6_corner 7) rfl ?_
    exact Or.inl (⟨by omega, rfl, rfl⟩)

set_option maxRecDepth 100000 in
set_option maxHeartbeats 4000000 in
theorem m_place {μ : Mm} (c a v : Int) (hc : inR c) (ha : inR a) (hv : inR v) (hC : 0 ≤ μ 23 0 0 ∧ μ 23 0 0 ≤ 14) : Mc mX6_place 6 [vR 21 0, vI c, vI a, vI v] μ (fun r ν => (¬ ((0 ≤ c ∧ c < μ 23 0 0) ∧ (0 ≤ a ∧ a ≤ 2)) ∧ r = some (vI (-101)) ∧ ν = μ) ∨ ((((0 ≤ c ∧ c < μ 23 0 0) ∧ (0 ≤ a ∧ a ≤ 2)) ∧ ¬ (-1000 ≤ v ∧ v ≤ 1000)) ∧ r = some (vI (-102)) ∧ ν = μ) ∨ ((((0 ≤ c ∧ c < μ 23 0 0) ∧ (0 ≤ a ∧ a ≤ 2)) ∧ (-1000 ≤ v ∧ v ≤ 1000)) ∧ r = some (vI (μ 26 0 (3 * c + a))) ∧ ν = mset (mset μ 26 0 (3 * c + a) v) 21 0 4 1)) := by
  refine Mc.of (L := [some (vR 21 0), some (vI c), some (vI a), some (vI v), none]) (by decide +kernel) (by simp [leL, entA, isLong, mX6_place]) (by simp [entA, isLong, mX6_place]) ?_
  refine e_iload_n 1 (dec_at dX6_place 0) rfl rfl ?_
  refine e_i2l (dec_at dX6_place 1) (by omega) ?_
  refine e_lconst 0 (dec_at dX6_place 2) rfl ?_
  refine e_aload_n 0 (dec_at dX6_place 3) rfl rfl ?_
  refine e_getr 7 (dec_at dX6_place 4) flX6_13 rfl rfl ?_
  refine e_iconst (dec_at dX6_place 5) ?_
  refine e_iald (dec_at dX6_place 6) rfl (by decide) (aLk_23 _) (by omega) (fun r8 => ?_)
  refine e_iconst (dec_at dX6_place 7) ?_
  refine e_isub (dec_at dX6_place 8) ?_
  refine e_i2l (dec_at dX6_place 9) (by omega) ?_
  refine e_callSr (M' := mX6_in) (dec_at dX6_place 10) mlX6_59 (m_in (c) (0) (μ 23 0 0 - 1) (by omega) (by omega) (by omega)) oX6_in sX6_in rfl rfl (by decide) (by decide) (Nat.le_of_ble_eq_true rfl) ?_
  refine e_beq 30 (dec_at dX6_place 11) (by decide) (fun h15 => ?_) (fun h15 => ?_)
  · refine e_bipush (dec_at dX6_place 18) (by decide) ?_
    refine e_ireturn (dec_at dX6_place 19) rfl ?_
    exact Or.inl (⟨by omega, rfl, rfl⟩)
  · refine e_iload_n 2 (dec_at dX6_place 12) rfl rfl ?_
    refine e_i2l (dec_at dX6_place 13) (by omega) ?_
    refine e_lconst 0 (dec_at dX6_place 14) rfl ?_
    refine e_ldc2 2 (dec_at dX6_place 15) klX6_57 (by decide) ?_
    refine e_callSr (M' := mX6_in) (dec_at dX6_place 16) mlX6_59 (m_in (a) (0) (2) (by omega) (by omega) (by omega)) oX6_in sX6_in rfl rfl (by decide) (by decide) (Nat.le_of_ble_eq_true rfl) ?_
    refine e_bne 33 (dec_at dX6_place 17) (by decide) (fun h27 => ?_) (fun h27 => ?_)
    · refine e_iload_n 3 (dec_at dX6_place 20) rfl rfl ?_
      refine e_i2l (dec_at dX6_place 21) (by omega) ?_
      refine e_ldc2 (-1000) (dec_at dX6_place 22) klX6_78 (by decide) ?_
      refine e_ldc2 1000 (dec_at dX6_place 23) klX6_80 (by decide) ?_
      refine e_callSr (M' := mX6_in) (dec_at dX6_place 24) mlX6_59 (m_in (v) (-1000) (1000) (by omega) (by omega) (by omega)) oX6_in sX6_in rfl rfl (by decide) (by decide) (Nat.le_of_ble_eq_true rfl) ?_
      refine e_bne 50 (dec_at dX6_place 25) (by decide) (fun h44 => ?_) (fun h44 => ?_)
      · refine e_aload_n 0 (dec_at dX6_place 28) rfl rfl ?_
        refine e_getr 10 (dec_at dX6_place 29) flX6_22 rfl rfl ?_
        refine e_iconst (dec_at dX6_place 30) ?_
        refine e_iload_n 1 (dec_at dX6_place 31) rfl rfl ?_
        refine e_imul (dec_at dX6_place 32) ?_
        refine e_iload_n 2 (dec_at dX6_place 33) rfl rfl ?_
        refine e_iadd (dec_at dX6_place 34) ?_
        refine e_iald (dec_at dX6_place 35) rfl (by decide) (aLk_26 _) (by omega) (fun r59 => ?_)
        refine e_is4 (dec_at dX6_place 36) (by decide) rfl ?_
        refine e_aload_n 0 (dec_at dX6_place 37) rfl rfl ?_
        refine e_getr 10 (dec_at dX6_place 38) flX6_22 rfl rfl ?_
        refine e_iconst (dec_at dX6_place 39) ?_
        refine e_iload_n 1 (dec_at dX6_place 40) rfl rfl ?_
        refine e_imul (dec_at dX6_place 41) ?_
        refine e_iload_n 2 (dec_at dX6_place 42) rfl rfl ?_
        refine e_iadd (dec_at dX6_place 43) ?_
        refine e_iload_n 3 (dec_at dX6_place 44) rfl rfl ?_
        refine e_iast (dec_at dX6_place 45) rfl (by decide) (aLk_26 _) (by omega) (by omega) ?_
        refine e_aload_n 0 (dec_at dX6_place 46) rfl rfl ?_
        refine e_iconst (dec_at dX6_place 47) ?_
        refine e_put 4 4 (dec_at dX6_place 48) flX6_50 fpX6_4 rfl rfl rfl (by omega) (fit_bool (by first | exact Or.inl rfl | exact Or.inr rfl)) ?_
        refine e_iload (dec_at dX6_place 49) rfl ?_
        refine e_ireturn (dec_at dX6_place 50) rfl ?_
        exact Or.inr (Or.inr (⟨by omega, rfl, rfl⟩))
      · refine e_bipush (dec_at dX6_place 26) (by decide) ?_
        refine e_ireturn (dec_at dX6_place 27) rfl ?_
        exact Or.inr (Or.inl (⟨by omega, rfl, rfl⟩))
    · refine e_bipush (dec_at dX6_place 18) (by decide) ?_
      refine e_ireturn (dec_at dX6_place 19) rfl ?_
      exact Or.inl (⟨by omega, rfl, rfl⟩)

set_option maxRecDepth 100000 in
set_option maxHeartbeats 4000000 in
theorem m_undo {μ : Mm} (hP : 0 ≤ μ 24 0 0 ∧ μ 24 0 0 ≤ 14) : Mc mX6_undo 6 [vR 21 0] μ (fun r ν => (μ 24 0 0 = 0 ∧ r = some (vI (-103)) ∧ ν = μ) ∨ (μ 24 0 0 ≠ 0 ∧ r = some (vI (μ 24 0 0 - 1)) ∧ ν = mset (mset μ 24 0 0 (μ 24 0 0 - 1)) 21 0 4 1)) := by
  refine Mc.of (L := [some (vR 21 0)]) (by decide +kernel) (by simp [leL, entA, isLong, mX6_undo]) (by simp [entA, isLong, mX6_undo]) ?_
  refine e_aload_n 0 (dec_at dX6_undo 0) rfl rfl ?_
  refine e_getr 8 (dec_at dX6_undo 1) flX6_16 rfl rfl ?_
  refine e_iconst (dec_at dX6_undo 2) ?_
  refine e_iald (dec_at dX6_undo 3) rfl (by decide) (aLk_24 _) (by omega) (fun r5 => ?_)
  refine e_if_ne 12 (dec_at dX6_undo 4) (by decide) (by omega) (fun h6 => ?_) (fun h6 => ?_)
  · refine e_aload_n 0 (dec_at dX6_undo 7) rfl rfl ?_
    refine e_getr 8 (dec_at dX6_undo 8) flX6_16 rfl rfl ?_
    refine e_iconst (dec_at dX6_undo 9) ?_
    refine e_dup2 (dec_at dX6_undo 10) rfl rfl ?_
    refine e_iald (dec_at dX6_undo 11) rfl (by decide) (aLk_24 _) (by omega) (fun r18 => ?_)
    refine e_iconst (dec_at dX6_undo 12) ?_
    refine e_isub (dec_at dX6_undo 13) ?_
    refine e_iast (dec_at dX6_undo 14) rfl (by decide) (aLk_24 _) (by omega) (by omega) ?_
    refine e_aload_n 0 (dec_at dX6_undo 15) rfl rfl ?_
    refine e_iconst (dec_at dX6_undo 16) ?_
    refine e_put 4 4 (dec_at dX6_undo 17) flX6_50 fpX6_4 rfl rfl rfl (by omega) (fit_bool (by first | exact Or.inl rfl | exact Or.inr rfl)) ?_
    refine e_aload_n 0 (dec_at dX6_undo 18) rfl rfl ?_
    refine e_getr 8 (dec_at dX6_undo 19) flX6_16 rfl rfl ?_
    refine e_iconst (dec_at dX6_undo 20) ?_
    refine e_ialdv (μ 24 0 0 - 1) (dec_at dX6_undo 21) rfl (by decide) (aLk_24 _) (by omega) (by rw [mset_k (by decide)]; exact mset_eq) (fun r32 => ?_)
    refine e_ireturn (dec_at dX6_undo 22) rfl ?_
    exact Or.inr (⟨by omega, rfl, rfl⟩)
  · refine e_bipush (dec_at dX6_undo 5) (by decide) ?_
    refine e_ireturn (dec_at dX6_undo 6) rfl ?_
    exact Or.inl (⟨by omega, rfl, rfl⟩)

set_option maxRecDepth 100000 in
set_option maxHeartbeats 4000000 in
theorem m_clear {μ : Mm} : Mc mX6_clear 6 [vR 21 0] μ (Rt (some (vI (μ 23 0 0))) (mset (mset (mset (mset μ 23 0 0 0) 24 0 0 0) 21 0 18 0) 21 0 4 1)) := by
  refine Mc.of (L := [some (vR 21 0), none]) (by decide +kernel) (by simp [leL, entA, isLong, mX6_clear]) (by simp [entA, isLong, mX6_clear]) ?_
  refine e_aload_n 0 (dec_at dX6_clear 0) rfl rfl ?_
  refine e_getr 7 (dec_at dX6_clear 1) flX6_13 rfl rfl ?_
  refine e_iconst (dec_at dX6_clear 2) ?_
  refine e_iald (dec_at dX6_clear 3) rfl (by decide) (aLk_23 _) (by omega) (fun r5 => ?_)
  refine e_is1 (dec_at dX6_clear 4) (by decide) rfl ?_
  refine e_aload_n 0 (dec_at dX6_clear 5) rfl rfl ?_
  refine e_getr 7 (dec_at dX6_clear 6) flX6_13 rfl rfl ?_
  refine e_iconst (dec_at dX6_clear 7) ?_
  refine e_iconst (dec_at dX6_clear 8) ?_
  refine e_iast (dec_at dX6_clear 9) rfl (by decide) (aLk_23 _) (by omega) (by omega) ?_
  refine e_aload_n 0 (dec_at dX6_clear 10) rfl rfl ?_
  refine e_getr 8 (dec_at dX6_clear 11) flX6_16 rfl rfl ?_
  refine e_iconst (dec_at dX6_clear 12) ?_
  refine e_iconst (dec_at dX6_clear 13) ?_
  refine e_iast (dec_at dX6_clear 14) rfl (by decide) (aLk_24 _) (by omega) (by omega) ?_
  refine e_aload_n 0 (dec_at dX6_clear 15) rfl rfl ?_
  refine e_iconst (dec_at dX6_clear 16) ?_
  refine e_put 18 18 (dec_at dX6_clear 17) flX6_86 fpX6_18 rfl rfl rfl (by omega) (fit_int _) ?_
  refine e_aload_n 0 (dec_at dX6_clear 18) rfl rfl ?_
  refine e_iconst (dec_at dX6_clear 19) ?_
  refine e_put 4 4 (dec_at dX6_clear 20) flX6_50 fpX6_4 rfl rfl rfl (by omega) (fit_bool (by first | exact Or.inl rfl | exact Or.inr rfl)) ?_
  refine e_iload_n 1 (dec_at dX6_clear 21) rfl rfl ?_
  refine e_ireturn (dec_at dX6_clear 22) rfl ?_
  exact ⟨rfl, rfl⟩

set_option maxRecDepth 100000 in
set_option maxHeartbeats 4000000 in
theorem l_mturn {μ : Mm} {g : Int} (hP : 0 ≤ μ 24 0 0 ∧ μ 24 0 0 ≤ 14) (hF : ∀ f, 0 ≤ f → f < μ 24 0 0 → 0 ≤ μ 27 0 f ∧ 3 ≤ μ 28 0 f ∧ μ 27 0 f + μ 28 0 f ≤ 84) (hg : 0 ≤ g ∧ g < μ 24 0 0) : ∀ (q : Nat) (t : Int) (ν : Mm), (μ 27 0 g + μ 28 0 g - 1 - (μ 27 0 g + 1) - t).toNat = q → 0 ≤ t → 2 * t ≤ μ 27 0 g + μ 28 0 g - 1 - (μ 27 0 g + 1) + 1 → (∀ k l1 i, ¬ (k = 29 ∧ l1 = 0 ∧ μ 27 0 g + 1 ≤ i ∧ i ≤ μ 27 0 g + μ 28 0 g - 1) → ν k l1 i = μ k l1 i) → (∀ i, μ 27 0 g + 1 + t ≤ i → i ≤ μ 27 0 g + μ 28 0 g - 1 - t → ν 29 0 i = μ 29 0 i) → (∀ i, μ 27 0 g + 1 ≤ i → i ≤ μ 27 0 g + μ 28 0 g - 1 → (i < μ 27 0 g + 1 + t ∨ μ 27 0 g + μ 28 0 g - 1 - t < i) → ν 29 0 i = μ 29 0 (μ 27 0 g + 1 + (μ 27 0 g + μ 28 0 g - 1) - i)) → Ev mX6_turn 6 30 [some (vR 21 0), some (vI g), some (vI (μ 28 0 g)), some (vI (1 + t)), none] [] ν (fun r ν => (¬ (0 ≤ g ∧ g < μ 24 0 0) ∧ r = some (vI (-101)) ∧ ν = μ) ∨ ((0 ≤ g ∧ g < μ 24 0 0) ∧ r = some (vI (1)) ∧ (∀ k l1 i, ¬ (k = 29 ∧ l1 = 0 ∧ μ 27 0 g + 1 ≤ i ∧ i ≤ μ 27 0 g + μ 28 0 g - 1 ∨ k = 21 ∧ l1 = 0 ∧ i = 4) → ν k l1 i = μ k l1 i) ∧ ν 21 0 4 = 1 ∧ ∀ i, μ 27 0 g + 1 ≤ i → i ≤ μ 27 0 g + μ 28 0 g - 1 → ν 29 0 i = μ 29 0 (μ 27 0 g + 1 + (μ 27 0 g + μ 28 0 g - 1) - i))) := by
  intro q
  induction q using Nat.strongRecOn with
  | _ q ih =>
  intro t ν hq t0 t1 fr ha hb
  have hf := hF g hg.1 hg.2
  refine e_iload_n 3 (dec_at dX6_turn 21) rfl rfl ?_
  refine e_iload_n 2 (dec_at dX6_turn 22) rfl rfl ?_
  refine e_iload_n 3 (dec_at dX6_turn 23) rfl rfl ?_
  refine e_isub (dec_at dX6_turn 24) ?_
  refine e_icmp_ge 103 (dec_at dX6_turn 25) (by decide) (by omega) (by omega) (fun h34 => ?_) (fun h34 => ?_)
  · refine e_aload_n 0 (dec_at dX6_turn 70) rfl rfl ?_
    refine e_iconst (dec_at dX6_turn 71) ?_
    refine e_put 4 4 (dec_at dX6_turn 72) flX6_50 fpX6_4 rfl rfl rfl (by omega) (fit_bool (by first | exact Or.inl rfl | exact Or.inr rfl)) ?_
    refine e_iconst (dec_at dX6_turn 73) ?_
    refine e_ireturn (dec_at dX6_turn 74) rfl ?_
    refine Or.inr ⟨hg, rfl, fun k l1 i z => ?_, mset_eq, fun i a b => ?_⟩
    · rw [mset_ne (by omega)]; exact fr k l1 i (by omega)
    · rw [mset_k (by decide)]
      by_cases q : i < μ 27 0 g + 1 + t ∨ μ 27 0 g + μ 28 0 g - 1 - t < i
      · exact hb i a b q
      · rw [ha i (by omega) (by omega)]
        congr 1
        omega
  · refine e_aload_n 0 (dec_at dX6_turn 26) rfl rfl ?_
    refine e_getr 13 (dec_at dX6_turn 27) flX6_31 rfl rfl ?_
    refine e_aload_n 0 (dec_at dX6_turn 28) rfl rfl ?_
    refine e_getr 11 (dec_at dX6_turn 29) flX6_25 rfl rfl ?_
    refine e_iload_n 1 (dec_at dX6_turn 30) rfl rfl ?_
    refine e_ialdv (μ 27 0 g) (dec_at dX6_turn 31) rfl (by decide) (aLk_27 _) (by omega) (by exact fr 27 0 g (by omega)) (fun r46 => ?_)
    refine e_iload_n 3 (dec_at dX6_turn 32) rfl rfl ?_
    refine e_iadd (dec_at dX6_turn 33) ?_
    refine e_ialdv (μ 29 0 (μ 27 0 g + 1 + t)) (dec_at dX6_turn 34) rfl (by decide) (aLk_29 _) (by omega) (by rw [show μ 27 0 g + (1 + t) = μ 27 0 g + 1 + t by omega]; exact ha _ (by omega) (by omega)) (fun r49 => ?_)
    refine e_is4 (dec_at dX6_turn 35) (by decide) rfl ?_
    refine e_aload_n 0 (dec_at dX6_turn 36) rfl rfl ?_
    refine e_getr 13 (dec_at dX6_turn 37) flX6_31 rfl rfl ?_
    refine e_aload_n 0 (dec_at dX6_turn 38) rfl rfl ?_
    refine e_getr 11 (dec_at dX6_turn 39) flX6_25 rfl rfl ?_
    refine e_iload_n 1 (dec_at dX6_turn 40) rfl rfl ?_
    refine e_ialdv (μ 27 0 g) (dec_at dX6_turn 41) rfl (by decide) (aLk_27 _) (by omega) (by exact fr 27 0 g (by omega)) (fun r61 => ?_)
    refine e_iload_n 3 (dec_at dX6_turn 42) rfl rfl ?_
    refine e_iadd (dec_at dX6_turn 43) ?_
    refine e_aload_n 0 (dec_at dX6_turn 44) rfl rfl ?_
    refine e_getr 13 (dec_at dX6_turn 45) flX6_31 rfl rfl ?_
    refine e_aload_n 0 (dec_at dX6_turn 46) rfl rfl ?_
    refine e_getr 11 (dec_at dX6_turn 47) flX6_25 rfl rfl ?_
    refine e_iload_n 1 (dec_at dX6_turn 48) rfl rfl ?_
    refine e_ialdv (μ 27 0 g) (dec_at dX6_turn 49) rfl (by decide) (aLk_27 _) (by omega) (by exact fr 27 0 g (by omega)) (fun r73 => ?_)
    refine e_iload_n 2 (dec_at dX6_turn 50) rfl rfl ?_
    refine e_iadd (dec_at dX6_turn 51) ?_
    refine e_iload_n 3 (dec_at dX6_turn 52) rfl rfl ?_
    refine e_isub (dec_at dX6_turn 53) ?_
    refine e_ialdv (μ 29 0 (μ 27 0 g + μ 28 0 g - 1 - t)) (dec_at dX6_turn 54) rfl (by decide) (aLk_29 _) (by omega) (by rw [show μ 27 0 g + μ 28 0 g - (1 + t) = μ 27 0 g + μ 28 0 g - 1 - t by omega]; exact ha _ (by omega) (by omega)) (fun r78 => ?_)
    refine e_iast (dec_at dX6_turn 55) rfl (by decide) (aLk_29 _) (by omega) (by omega) ?_
    refine e_aload_n 0 (dec_at dX6_turn 56) rfl rfl ?_
    refine e_getr 13 (dec_at dX6_turn 57) flX6_31 rfl rfl ?_
    refine e_aload_n 0 (dec_at dX6_turn 58) rfl rfl ?_
    refine e_getr 11 (dec_at dX6_turn 59) flX6_25 rfl rfl ?_
    refine e_iload_n 1 (dec_at dX6_turn 60) rfl rfl ?_
    refine e_ialdv (μ 27 0 g) (dec_at dX6_turn 61) rfl (by decide) (aLk_27 _) (by omega) (by rw [mset_k (by decide)]; exact fr 27 0 g (by omega)) (fun r89 => ?_)
    refine e_iload_n 2 (dec_at dX6_turn 62) rfl rfl ?_
    refine e_iadd (dec_at dX6_turn 63) ?_
    refine e_iload_n 3 (dec_at dX6_turn 64) rfl rfl ?_
    refine e_isub (dec_at dX6_turn 65) ?_
    refine e_iload (dec_at dX6_turn 66) rfl ?_
    refine e_iast (dec_at dX6_turn 67) rfl (by decide) (aLk_29 _) (by omega) (by omega) ?_
    refine e_ii3 (dec_at dX6_turn 68) (by decide) rfl ?_
    refine e_goto 30 (dec_at dX6_turn 69) (by decide) ?_
    have e1 : 1 + t + 1 = 1 + (t + 1) := by omega
    rw [e1]
    refine e_le [some (vR 21 0), some (vI g), some (vI (μ 28 0 g)), some (vI (1 + (t + 1))), none] (by simp [leL]) (ih _ (by omega) (t + 1) _ rfl (by omega) (by omega) (fr_set (fr_set fr (by omega)) (by omega)) (fun i a b => ?_) (fun i a b c => ?_))
    · rw [mset_i (by omega), mset_i (by omega)]; exact ha i (by omega) (by omega)
    · by_cases q1 : i = μ 27 0 g + μ 28 0 g - 1 - t
      · rw [show μ 27 0 g + μ 28 0 g - (1 + t) = i by omega, mset_eq]
        congr 1
        omega
      · rw [mset_i (by omega)]
        by_cases q2 : i = μ 27 0 g + 1 + t
        · rw [show μ 27 0 g + (1 + t) = i by omega, mset_eq]
          congr 1
          omega
        · rw [mset_i (by omega)]; exact hb i a b (by omega)

set_option maxRecDepth 100000 in
set_option maxHeartbeats 4000000 in
theorem m_turn {μ : Mm} (g : Int) (hi : inR g) (hP : 0 ≤ μ 24 0 0 ∧ μ 24 0 0 ≤ 14) (hF : ∀ f, 0 ≤ f → f < μ 24 0 0 → 0 ≤ μ 27 0 f ∧ 3 ≤ μ 28 0 f ∧ μ 27 0 f + μ 28 0 f ≤ 84) : Mc mX6_turn 6 [vR 21 0, vI g] μ (fun r ν => (¬ (0 ≤ g ∧ g < μ 24 0 0) ∧ r = some (vI (-101)) ∧ ν = μ) ∨ ((0 ≤ g ∧ g < μ 24 0 0) ∧ r = some (vI (1)) ∧ (∀ k l1 i, ¬ (k = 29 ∧ l1 = 0 ∧ μ 27 0 g + 1 ≤ i ∧ i ≤ μ 27 0 g + μ 28 0 g - 1 ∨ k = 21 ∧ l1 = 0 ∧ i = 4) → ν k l1 i = μ k l1 i) ∧ ν 21 0 4 = 1 ∧ ∀ i, μ 27 0 g + 1 ≤ i → i ≤ μ 27 0 g + μ 28 0 g - 1 → ν 29 0 i = μ 29 0 (μ 27 0 g + 1 + (μ 27 0 g + μ 28 0 g - 1) - i))) := by
  refine Mc.of (L := [some (vR 21 0), some (vI g), none, none, none]) (by decide +kernel) (by simp [leL, entA, isLong, mX6_turn]) (by simp [entA, isLong, mX6_turn]) ?_
  refine e_iload_n 1 (dec_at dX6_turn 0) rfl rfl ?_
  refine e_i2l (dec_at dX6_turn 1) (by omega) ?_
  refine e_lconst 0 (dec_at dX6_turn 2) rfl ?_
  refine e_aload_n 0 (dec_at dX6_turn 3) rfl rfl ?_
  refine e_getr 8 (dec_at dX6_turn 4) flX6_16 rfl rfl ?_
  refine e_iconst (dec_at dX6_turn 5) ?_
  refine e_iald (dec_at dX6_turn 6) rfl (by decide) (aLk_24 _) (by omega) (fun r8 => ?_)
  refine e_iconst (dec_at dX6_turn 7) ?_
  refine e_isub (dec_at dX6_turn 8) ?_
  refine e_i2l (dec_at dX6_turn 9) (by omega) ?_
  refine e_callSr (M' := mX6_in) (dec_at dX6_turn 10) mlX6_59 (m_in (g) (0) (μ 24 0 0 - 1) (by omega) (by omega) (by omega)) oX6_in sX6_in rfl rfl (by decide) (by decide) (Nat.le_of_ble_eq_true rfl) ?_
  refine e_bne 21 (dec_at dX6_turn 11) (by decide) (fun h15 => ?_) (fun h15 => ?_)
  · have hf := hF g (by omega) (by omega)
    refine e_aload_n 0 (dec_at dX6_turn 14) rfl rfl ?_
    refine e_getr 12 (dec_at dX6_turn 15) flX6_28 rfl rfl ?_
    refine e_iload_n 1 (dec_at dX6_turn 16) rfl rfl ?_
    refine e_iald (dec_at dX6_turn 17) rfl (by decide) (aLk_28 _) (by omega) (fun r26 => ?_)
    refine e_is2 (dec_at dX6_turn 18) (by decide) rfl ?_
    refine e_iconst (dec_at dX6_turn 19) ?_
    refine e_is3 (dec_at dX6_turn 20) (by decide) rfl ?_
    have z := l_mturn (μ := μ) (g := g) hP hF (by omega) _ 0 μ rfl (by omega) (by omega) (fun _ _ _ _ => rfl) (fun _ _ _ => rfl) (fun i a b c => by omega)
    exact z
  · refine e_bipush (dec_at dX6_turn 12) (by decide) ?_
    refine e_ireturn (dec_at dX6_turn 13) rfl ?_
    exact Or.inl (⟨by omega, rfl, rfl⟩)

set_option maxRecDepth 100000 in
set_option maxHeartbeats 4000000 in
theorem l_mface1 {μ : Mm} {n n0 : Int} (hC : 0 ≤ μ 23 0 0 ∧ μ 23 0 0 ≤ 14) (hP : 0 ≤ μ 24 0 0 ∧ μ 24 0 0 ≤ 14) (hs : (μ 24 0 0 = 0 → n0 = 0) ∧ (μ 24 0 0 ≠ 0 → μ 27 0 (μ 24 0 0 - 1) + μ 28 0 (μ 24 0 0 - 1) = n0)) (hn0 : μ 24 0 0 < 14 → 0 ≤ n0 ∧ n0 ≤ 78) (hz : 0 ≤ μ 21 0 2 ∧ μ 21 0 2 ≤ 8) (hnr : 3 ≤ n ∧ n ≤ 6) (hl : μ 21 0 1 ≠ -1) (hw : n ≤ μ 21 0 2) : ∀ (q : Nat) (j : Int), (n - j).toNat = q → 0 ≤ j → j ≤ n → (∀ i, 0 ≤ i → i < j → 0 ≤ μ 22 0 i ∧ μ 22 0 i ≤ μ 23 0 0 - 1) → ((∀ j, 0 ≤ j → j < n → 0 ≤ μ 22 0 j ∧ μ 22 0 j ≤ μ 23 0 0 - 1) → Ev mX6_face 6 84 [some (vR 21 0), some (vI n), none, none] [] μ (fun r ν => (¬ (3 ≤ n ∧ n ≤ 6) ∧ r = some (vI (-102)) ∧ ν = μ) ∨ (((3 ≤ n ∧ n ≤ 6) ∧ μ 21 0 1 = -1) ∧ r = some (vI (-10 - 1)) ∧ ν = mset μ 21 0 0 1) ∨ (((3 ≤ n ∧ n ≤ 6) ∧ μ 21 0 1 ≠ -1 ∧ μ 21 0 2 < n) ∧ r = some (vI (-10 - 2)) ∧ ν = mset μ 21 0 0 2) ∨ (((3 ≤ n ∧ n ≤ 6) ∧ μ 21 0 1 ≠ -1 ∧ n ≤ μ 21 0 2 ∧ ¬ (∀ j, 0 ≤ j → j < n → 0 ≤ μ 22 0 j ∧ μ 22 0 j ≤ μ 23 0 0 - 1)) ∧ r = some (vI (-101)) ∧ ν = μ) ∨ (((3 ≤ n ∧ n ≤ 6) ∧ μ 21 0 1 ≠ -1 ∧ n ≤ μ 21 0 2 ∧ (∀ j, 0 ≤ j → j < n → 0 ≤ μ 22 0 j ∧ μ 22 0 j ≤ μ 23 0 0 - 1) ∧ μ 24 0 0 = 14) ∧ r = some (vI (-104)) ∧ ν = μ) ∨ (((3 ≤ n ∧ n ≤ 6) ∧ μ 21 0 1 ≠ -1 ∧ n ≤ μ 21 0 2 ∧ (∀ j, 0 ≤ j → j < n → 0 ≤ μ 22 0 j ∧ μ 22 0 j ≤ μ 23 0 0 - 1) ∧ μ 24 0 0 < 14) ∧ r = some (vI (μ 24 0 0 + 1)) ∧ (∀ k l1 i, ¬ (l1 = 0 ∧ (k = 29 ∧ n0 ≤ i ∧ i < n0 + n ∨ k = 24 ∧ i = 0 ∨ k = 27 ∧ i = μ 24 0 0 ∨ k = 28 ∧ i = μ 24 0 0 ∨ k = 21 ∧ i = 4)) → ν k l1 i = μ k l1 i) ∧ ν 24 0 0 = μ 24 0 0 + 1 ∧ ν 27 0 (μ 24 0 0) = n0 ∧ ν 28 0 (μ 24 0 0) = n ∧ ν 21 0 4 = 1 ∧ (∀ j, 0 ≤ j → j < n → ν 29 0 (n0 + j) = μ 22 0 j)))) → Ev mX6_face 6 47 [some (vR 21 0), some (vI n), some (vI j), none] [] μ (fun r ν => (¬ (3 ≤ n ∧ n ≤ 6) ∧ r = some (vI (-102)) ∧ ν = μ) ∨ (((3 ≤ n ∧ n ≤ 6) ∧ μ 21 0 1 = -1) ∧ r = some (vI (-10 - 1)) ∧ ν = mset μ 21 0 0 1) ∨ (((3 ≤ n ∧ n ≤ 6) ∧ μ 21 0 1 ≠ -1 ∧ μ 21 0 2 < n) ∧ r = some (vI (-10 - 2)) ∧ ν = mset μ 21 0 0 2) ∨ (((3 ≤ n ∧ n ≤ 6) ∧ μ 21 0 1 ≠ -1 ∧ n ≤ μ 21 0 2 ∧ ¬ (∀ j, 0 ≤ j → j < n → 0 ≤ μ 22 0 j ∧ μ 22 0 j ≤ μ 23 0 0 - 1)) ∧ r = some (vI (-101)) ∧ ν = μ) ∨ (((3 ≤ n ∧ n ≤ 6) ∧ μ 21 0 1 ≠ -1 ∧ n ≤ μ 21 0 2 ∧ (∀ j, 0 ≤ j → j < n → 0 ≤ μ 22 0 j ∧ μ 22 0 j ≤ μ 23 0 0 - 1) ∧ μ 24 0 0 = 14) ∧ r = some (vI (-104)) ∧ ν = μ) ∨ (((3 ≤ n ∧ n ≤ 6) ∧ μ 21 0 1 ≠ -1 ∧ n ≤ μ 21 0 2 ∧ (∀ j, 0 ≤ j → j < n → 0 ≤ μ 22 0 j ∧ μ 22 0 j ≤ μ 23 0 0 - 1) ∧ μ 24 0 0 < 14) ∧ r = some (vI (μ 24 0 0 + 1)) ∧ (∀ k l1 i, ¬ (l1 = 0 ∧ (k = 29 ∧ n0 ≤ i ∧ i < n0 + n ∨ k = 24 ∧ i = 0 ∨ k = 27 ∧ i = μ 24 0 0 ∨ k = 28 ∧ i = μ 24 0 0 ∨ k = 21 ∧ i = 4)) → ν k l1 i = μ k l1 i) ∧ ν 24 0 0 = μ 24 0 0 + 1 ∧ ν 27 0 (μ 24 0 0) = n0 ∧ ν 28 0 (μ 24 0 0) = n ∧ ν 21 0 4 = 1 ∧ (∀ j, 0 ≤ j → j < n → ν 29 0 (n0 + j) = μ 22 0 j))) := by
  intro q
  induction q using Nat.strongRecOn with
  | _ q ih =>
  intro j hq j0 j1 hj K
  refine e_iload_n 2 (dec_at dX6_face 26) rfl rfl ?_
  refine e_iload_n 1 (dec_at dX6_face 27) rfl rfl ?_
  refine e_icmp_ge 84 (dec_at dX6_face 28) (by decide) (by omega) (by omega) (fun h49 => ?_) (fun h49 => ?_)
  · exact e_le [some (vR 21 0), some (vI n), none, none] (by simp [leL]) (K (fun i i0 i1 => hj i i0 (by omega)))
  · refine e_aload_n 0 (dec_at dX6_face 29) rfl rfl ?_
    refine e_getr 3 (dec_at dX6_face 30) flX6_7 rfl rfl ?_
    refine e_iload_n 2 (dec_at dX6_face 31) rfl rfl ?_
    refine e_iald (dec_at dX6_face 32) rfl (by decide) (aLk_22 _) (by omega) (fun r57 => ?_)
    refine e_i2l (dec_at dX6_face 33) (by omega) ?_
    refine e_lconst 0 (dec_at dX6_face 34) rfl ?_
    refine e_aload_n 0 (dec_at dX6_face 35) rfl rfl ?_
    refine e_getr 7 (dec_at dX6_face 36) flX6_13 rfl rfl ?_
    refine e_iconst (dec_at dX6_face 37) ?_
    refine e_iald (dec_at dX6_face 38) rfl (by decide) (aLk_23 _) (by omega) (fun r65 => ?_)
    refine e_iconst (dec_at dX6_face 39) ?_
    refine e_isub (dec_at dX6_face 40) ?_
    refine e_i2l (dec_at dX6_face 41) (by omega) ?_
    refine e_callSr (M' := mX6_in) (dec_at dX6_face 42) mlX6_59 (m_in _ 0 (μ 23 0 0 - 1) (by omega) (by omega) (by omega)) oX6_in sX6_in rfl rfl (by decide) (by decide) (Nat.le_of_ble_eq_true rfl) ?_
    refine e_bne 78 (dec_at dX6_face 43) (by decide) (fun h72 => ?_) (fun h72 => ?_)
    · refine e_ii2 (dec_at dX6_face 46) (by decide) rfl ?_
      refine e_goto 47 (dec_at dX6_face 47) (by decide) ?_
      refine ih _ (by omega) (j + 1) rfl (by omega) (by omega) (fun i i0 i1 => ?_) K
      by_cases q : i = j
      · subst q; omega
      · exact hj i i0 (by omega)
    · refine e_bipush (dec_at dX6_face 44) (by decide) ?_
      refine e_ireturn (dec_at dX6_face 45) rfl ?_
      exact Or.inr (Or.inr (Or.inr (Or.inl (⟨⟨hnr, hl, hw, fun q => by have := q j j0 (by omega); omega⟩, rfl, rfl⟩))))

set_option maxRecDepth 100000 in
set_option maxHeartbeats 4000000 in
theorem l_mface2 {μ : Mm} {n n0 : Int} (hC : 0 ≤ μ 23 0 0 ∧ μ 23 0 0 ≤ 14) (hP : 0 ≤ μ 24 0 0 ∧ μ 24 0 0 ≤ 14) (hs : (μ 24 0 0 = 0 → n0 = 0) ∧ (μ 24 0 0 ≠ 0 → μ 27 0 (μ 24 0 0 - 1) + μ 28 0 (μ 24 0 0 - 1) = n0)) (hn0 : μ 24 0 0 < 14 → 0 ≤ n0 ∧ n0 ≤ 78) (hz : 0 ≤ μ 21 0 2 ∧ μ 21 0 2 ≤ 8) (hnr : 3 ≤ n ∧ n ≤ 6) (hl : μ 21 0 1 ≠ -1) (hw : n ≤ μ 21 0 2) (hfo : ∀ j, 0 ≤ j → j < n → 0 ≤ μ 22 0 j ∧ μ 22 0 j ≤ μ 23 0 0 - 1) (hlt : μ 24 0 0 < 14) : ∀ (q : Nat) (j : Int) (ν : Mm), (n - j).toNat = q → 0 ≤ j → j ≤ n → (∀ k l1 i, ¬ (l1 = 0 ∧ (k = 29 ∧ n0 ≤ i ∧ i < n0 + n ∨ k = 27 ∧ i = μ 24 0 0 ∨ k = 28 ∧ i = μ 24 0 0)) → ν k l1 i = μ k l1 i) → ν 27 0 (μ 24 0 0) = n0 → ν 28 0 (μ 24 0 0) = n → (∀ i, 0 ≤ i → i < j → ν 29 0 (n0 + i) = μ 22 0 i) → Ev mX6_face 6 145 [some (vR 21 0), some (vI n), some (vI (μ 24 0 0)), some (vI j)] [] ν (fun r ν => (¬ (3 ≤ n ∧ n ≤ 6) ∧ r = some (vI (-102)) ∧ ν = μ) ∨ (((3 ≤ n ∧ n ≤ 6) ∧ μ 21 0 1 = -1) ∧ r = some (vI (-10 - 1)) ∧ ν = mset μ 21 0 0 1) ∨ (((3 ≤ n ∧ n ≤ 6) ∧ μ 21 0 1 ≠ -1 ∧ μ 21 0 2 < n) ∧ r = some (vI (-10 - 2)) ∧ ν = mset μ 21 0 0 2) ∨ (((3 ≤ n ∧ n ≤ 6) ∧ μ 21 0 1 ≠ -1 ∧ n ≤ μ 21 0 2 ∧ ¬ (∀ j, 0 ≤ j → j < n → 0 ≤ μ 22 0 j ∧ μ 22 0 j ≤ μ 23 0 0 - 1)) ∧ r = some (vI (-101)) ∧ ν = μ) ∨ (((3 ≤ n ∧ n ≤ 6) ∧ μ 21 0 1 ≠ -1 ∧ n ≤ μ 21 0 2 ∧ (∀ j, 0 ≤ j → j < n → 0 ≤ μ 22 0 j ∧ μ 22 0 j ≤ μ 23 0 0 - 1) ∧ μ 24 0 0 = 14) ∧ r = some (vI (-104)) ∧ ν = μ) ∨ (((3 ≤ n ∧ n ≤ 6) ∧ μ 21 0 1 ≠ -1 ∧ n ≤ μ 21 0 2 ∧ (∀ j, 0 ≤ j → j < n → 0 ≤ μ 22 0 j ∧ μ 22 0 j ≤ μ 23 0 0 - 1) ∧ μ 24 0 0 < 14) ∧ r = some (vI (μ 24 0 0 + 1)) ∧ (∀ k l1 i, ¬ (l1 = 0 ∧ (k = 29 ∧ n0 ≤ i ∧ i < n0 + n ∨ k = 24 ∧ i = 0 ∨ k = 27 ∧ i = μ 24 0 0 ∨ k = 28 ∧ i = μ 24 0 0 ∨ k = 21 ∧ i = 4)) → ν k l1 i = μ k l1 i) ∧ ν 24 0 0 = μ 24 0 0 + 1 ∧ ν 27 0 (μ 24 0 0) = n0 ∧ ν 28 0 (μ 24 0 0) = n ∧ ν 21 0 4 = 1 ∧ (∀ j, 0 ≤ j → j < n → ν 29 0 (n0 + j) = μ 22 0 j))) := by
  intro q
  induction q using Nat.strongRecOn with
  | _ q ih =>
  intro j ν hq j0 j1 fr e27 e28 hj
  have hnn := hn0 hlt
  refine e_iload_n 3 (dec_at dX6_face 89) rfl rfl ?_
  refine e_iload_n 1 (dec_at dX6_face 90) rfl rfl ?_
  refine e_icmp_ge 175 (dec_at dX6_face 91) (by decide) (by omega) (by omega) (fun h147 => ?_) (fun h147 => ?_)
  · refine e_aload_n 0 (dec_at dX6_face 107) rfl rfl ?_
    refine e_getr 8 (dec_at dX6_face 108) flX6_16 rfl rfl ?_
    refine e_iconst (dec_at dX6_face 109) ?_
    refine e_dup2 (dec_at dX6_face 110) rfl rfl ?_
    refine e_ialdv (μ 24 0 0) (dec_at dX6_face 111) rfl (by decide) (aLk_24 _) (by omega) (by exact fr 24 0 0 (by omega)) (fun r181 => ?_)
    refine e_iconst (dec_at dX6_face 112) ?_
    refine e_iadd (dec_at dX6_face 113) ?_
    refine e_iast (dec_at dX6_face 114) rfl (by decide) (aLk_24 _) (by omega) (by omega) ?_
    refine e_aload_n 0 (dec_at dX6_face 115) rfl rfl ?_
    refine e_iconst (dec_at dX6_face 116) ?_
    refine e_put 4 4 (dec_at dX6_face 117) flX6_50 fpX6_4 rfl rfl rfl (by omega) (fit_bool (by first | exact Or.inl rfl | exact Or.inr rfl)) ?_
    refine e_iload_n 2 (dec_at dX6_face 118) rfl rfl ?_
    refine e_iconst (dec_at dX6_face 119) ?_
    refine e_iadd (dec_at dX6_face 120) ?_
    refine e_ireturn (dec_at dX6_face 121) rfl ?_
    obtain rfl : j = n := by omega
    refine Or.inr (Or.inr (Or.inr (Or.inr (Or.inr ⟨⟨hnr, hl, hw, hfo, hlt⟩, rfl, fun k l1 i z => ?_, ?_, ?_, ?_, mset_eq, fun i i0 i1 => ?_⟩))))
    · rw [mset_ne (by omega), mset_ne (by omega)]; exact fr k l1 i (by omega)
    · rw [mset_k (by decide)]; exact mset_eq
    · rw [mset_k (by decide), mset_k (by decide)]; exact e27
    · rw [mset_k (by decide), mset_k (by decide)]; exact e28
    · rw [mset_k (by decide), mset_k (by decide)]; exact hj i i0 i1
  · refine e_aload_n 0 (dec_at dX6_face 92) rfl rfl ?_
    refine e_getr 13 (dec_at dX6_face 93) flX6_31 rfl rfl ?_
    refine e_aload_n 0 (dec_at dX6_face 94) rfl rfl ?_
    refine e_getr 11 (dec_at dX6_face 95) flX6_25 rfl rfl ?_
    refine e_iload_n 2 (dec_at dX6_face 96) rfl rfl ?_
    refine e_ialdv (n0) (dec_at dX6_face 97) rfl (by decide) (aLk_27 _) (by omega) (by exact e27) (fun r159 => ?_)
    refine e_iload_n 3 (dec_at dX6_face 98) rfl rfl ?_
    refine e_iadd (dec_at dX6_face 99) ?_
    refine e_aload_n 0 (dec_at dX6_face 100) rfl rfl ?_
    refine e_getr 3 (dec_at dX6_face 101) flX6_7 rfl rfl ?_
    refine e_iload_n 3 (dec_at dX6_face 102) rfl rfl ?_
    refine e_ialdv (μ 22 0 j) (dec_at dX6_face 103) rfl (by decide) (aLk_22 _) (by omega) (by exact fr 22 0 j (by omega)) (fun r167 => ?_)
    refine e_iast (dec_at dX6_face 104) rfl (by decide) (aLk_29 _) (by omega) (by omega) ?_
    refine e_ii3 (dec_at dX6_face 105) (by decide) rfl ?_
    refine e_goto 145 (dec_at dX6_face 106) (by decide) ?_
    refine ih _ (by omega) (j + 1) _ rfl (by omega) (by omega) (fr_set fr (by omega)) (by rw [mset_k (by decide)]; exact e27) (by rw [mset_k (by decide)]; exact e28) (fun i i0 i1 => ?_)
    by_cases q : i = j
    · subst q; exact mset_eq
    · rw [mset_i (by omega)]; exact hj i i0 (by omega)

set_option maxRecDepth 100000 in
set_option maxHeartbeats 4000000 in
theorem m_face {μ : Mm} (n n0 : Int) (hi : inR n) (hz : 0 ≤ μ 21 0 2 ∧ μ 21 0 2 ≤ 8) (hC : 0 ≤ μ 23 0 0 ∧ μ 23 0 0 ≤ 14) (hP : 0 ≤ μ 24 0 0 ∧ μ 24 0 0 ≤ 14) (hs : (μ 24 0 0 = 0 → n0 = 0) ∧ (μ 24 0 0 ≠ 0 → μ 27 0 (μ 24 0 0 - 1) + μ 28 0 (μ 24 0 0 - 1) = n0)) (hn0 : μ 24 0 0 < 14 → 0 ≤ n0 ∧ n0 ≤ 78) : Mc mX6_face 6 [vR 21 0, vI n] μ (fun r ν => (¬ (3 ≤ n ∧ n ≤ 6) ∧ r = some (vI (-102)) ∧ ν = μ) ∨ (((3 ≤ n ∧ n ≤ 6) ∧ μ 21 0 1 = -1) ∧ r = some (vI (-10 - 1)) ∧ ν = mset μ 21 0 0 1) ∨ (((3 ≤ n ∧ n ≤ 6) ∧ μ 21 0 1 ≠ -1 ∧ μ 21 0 2 < n) ∧ r = some (vI (-10 - 2)) ∧ ν = mset μ 21 0 0 2) ∨ (((3 ≤ n ∧ n ≤ 6) ∧ μ 21 0 1 ≠ -1 ∧ n ≤ μ 21 0 2 ∧ ¬ (∀ j, 0 ≤ j → j < n → 0 ≤ μ 22 0 j ∧ μ 22 0 j ≤ μ 23 0 0 - 1)) ∧ r = some (vI (-101)) ∧ ν = μ) ∨ (((3 ≤ n ∧ n ≤ 6) ∧ μ 21 0 1 ≠ -1 ∧ n ≤ μ 21 0 2 ∧ (∀ j, 0 ≤ j → j < n → 0 ≤ μ 22 0 j ∧ μ 22 0 j ≤ μ 23 0 0 - 1) ∧ μ 24 0 0 = 14) ∧ r = some (vI (-104)) ∧ ν = μ) ∨ (((3 ≤ n ∧ n ≤ 6) ∧ μ 21 0 1 ≠ -1 ∧ n ≤ μ 21 0 2 ∧ (∀ j, 0 ≤ j → j < n → 0 ≤ μ 22 0 j ∧ μ 22 0 j ≤ μ 23 0 0 - 1) ∧ μ 24 0 0 < 14) ∧ r = some (vI (μ 24 0 0 + 1)) ∧ (∀ k l1 i, ¬ (l1 = 0 ∧ (k = 29 ∧ n0 ≤ i ∧ i < n0 + n ∨ k = 24 ∧ i = 0 ∨ k = 27 ∧ i = μ 24 0 0 ∨ k = 28 ∧ i = μ 24 0 0 ∨ k = 21 ∧ i = 4)) → ν k l1 i = μ k l1 i) ∧ ν 24 0 0 = μ 24 0 0 + 1 ∧ ν 27 0 (μ 24 0 0) = n0 ∧ ν 28 0 (μ 24 0 0) = n ∧ ν 21 0 4 = 1 ∧ (∀ j, 0 ≤ j → j < n → ν 29 0 (n0 + j) = μ 22 0 j))) := by
  refine Mc.of (L := [some (vR 21 0), some (vI n), none, none]) (by decide +kernel) (by simp [leL, entA, isLong, mX6_face]) (by simp [entA, isLong, mX6_face]) ?_
  refine e_iload_n 1 (dec_at dX6_face 0) rfl rfl ?_
  refine e_i2l (dec_at dX6_face 1) (by omega) ?_
  refine e_ldc2 3 (dec_at dX6_face 2) klX6_82 (by decide) ?_
  refine e_ldc2 6 (dec_at dX6_face 3) klX6_84 (by decide) ?_
  refine e_callSr (M' := mX6_in) (dec_at dX6_face 4) mlX6_59 (m_in (n) (3) (6) (by omega) (by omega) (by omega)) oX6_in sX6_in rfl rfl (by decide) (by decide) (Nat.le_of_ble_eq_true rfl) ?_
  refine e_bne 17 (dec_at dX6_face 5) (by decide) (fun h11 => ?_) (fun h11 => ?_)
  · refine e_aload_n 0 (dec_at dX6_face 8) rfl rfl ?_
    refine e_geti 1 1 (dec_at dX6_face 9) flX6_46 rfl rfl rfl (fun r18 => ?_)
    refine e_iconst (dec_at dX6_face 10) ?_
    refine e_icmp_ne 31 (dec_at dX6_face 11) (by decide) (by omega) (by omega) (fun h22 => ?_) (fun h22 => ?_)
    · refine e_aload_n 0 (dec_at dX6_face 16) rfl rfl ?_
      refine e_geti 2 2 (dec_at dX6_face 17) flX6_67 rfl rfl rfl (fun r32 => ?_)
      refine e_iload_n 1 (dec_at dX6_face 18) rfl rfl ?_
      refine e_icmp_ge 45 (dec_at dX6_face 19) (by decide) (by omega) (by omega) (fun h36 => ?_) (fun h36 => ?_)
      · refine e_iconst (dec_at dX6_face 24) ?_
        refine e_is2 (dec_at dX6_face 25) (by decide) rfl ?_
        refine l_mface1 hC hP hs hn0 hz (by omega) (by omega) (by omega) _ 0 rfl (by omega) (by omega) (fun i a b => by omega) (fun hfo => ?_)
        refine e_aload_n 0 (dec_at dX6_face 48) rfl rfl ?_
        refine e_getr 8 (dec_at dX6_face 49) flX6_16 rfl rfl ?_
        refine e_iconst (dec_at dX6_face 50) ?_
        refine e_iald (dec_at dX6_face 51) rfl (by decide) (aLk_24 _) (by omega) (fun r89 => ?_)
        refine e_bipush (dec_at dX6_face 52) (by decide) ?_
        refine e_icmp_ne 98 (dec_at dX6_face 53) (by decide) (by omega) (by omega) (fun h92 => ?_) (fun h92 => ?_)
        · have hnn := hn0 (by omega)
          refine e_aload_n 0 (dec_at dX6_face 56) rfl rfl ?_
          refine e_getr 8 (dec_at dX6_face 57) flX6_16 rfl rfl ?_
          refine e_iconst (dec_at dX6_face 58) ?_
          refine e_iald (dec_at dX6_face 59) rfl (by decide) (aLk_24 _) (by omega) (fun r103 => ?_)
          refine e_is2 (dec_at dX6_face 60) (by decide) rfl ?_
          refine e_aload_n 0 (dec_at dX6_face 61) rfl rfl ?_
          refine e_getr 11 (dec_at dX6_face 62) flX6_25 rfl rfl ?_
          refine e_iload_n 2 (dec_at dX6_face 63) rfl rfl ?_
          refine e_iload_n 2 (dec_at dX6_face 64) rfl rfl ?_
          refine e_if_ne 118 (dec_at dX6_face 65) (by decide) (by omega) (fun h111 => ?_) (fun h111 => ?_)
          · refine e_aload_n 0 (dec_at dX6_face 68) rfl rfl ?_
            refine e_getr 11 (dec_at dX6_face 69) flX6_25 rfl rfl ?_
            refine e_iload_n 2 (dec_at dX6_face 70) rfl rfl ?_
            refine e_iconst (dec_at dX6_face 71) ?_
            refine e_isub (dec_at dX6_face 72) ?_
            refine e_ialdv (μ 27 0 (μ 24 0 0 - 1)) (dec_at dX6_face 73) rfl (by decide) (aLk_27 _) (by omega) (by rfl) (fun r125 => ?_)
            refine e_aload_n 0 (dec_at dX6_face 74) rfl rfl ?_
            refine e_getr 12 (dec_at dX6_face 75) flX6_28 rfl rfl ?_
            refine e_iload_n 2 (dec_at dX6_face 76) rfl rfl ?_
            refine e_iconst (dec_at dX6_face 77) ?_
            refine e_isub (dec_at dX6_face 78) ?_
            refine e_iald (dec_at dX6_face 79) rfl (by decide) (aLk_28 _) (by omega) (fun r133 => ?_)
            refine e_iadd (dec_at dX6_face 80) ?_
            refine e_iast (dec_at dX6_face 81) rfl (by decide) (aLk_27 _) (by omega) (by omega) ?_
            refine e_aload_n 0 (dec_at dX6_face 82) rfl rfl ?_
            refine e_getr 12 (dec_at dX6_face 83) flX6_28 rfl rfl ?_
            refine e_iload_n 2 (dec_at dX6_face 84) rfl rfl ?_
            refine e_iload_n 1 (dec_at dX6_face 85) rfl rfl ?_
            refine e_iast (dec_at dX6_face 86) rfl (by decide) (aLk_28 _) (by omega) (by omega) ?_
            refine e_iconst (dec_at dX6_face 87) ?_
            refine e_is3 (dec_at dX6_face 88) (by decide) rfl ?_
            refine l_mface2 hC hP hs hn0 hz (by omega) (by omega) (by omega) hfo (by omega) _ 0 _ rfl (by omega) (by omega) (fun k l1 i z => ?_) ?_ mset_eq (fun i a b => by omega)
            · rw [mset_ne (by omega), mset_ne (by omega)]
            · rw [mset_k (by decide), mset_eq]
              omega
          · refine e_iconst (dec_at dX6_face 66) ?_
            refine e_goto 135 (dec_at dX6_face 67) (by decide) ?_
            refine e_iast (dec_at dX6_face 81) rfl (by decide) (aLk_27 _) (by omega) (by omega) ?_
            refine e_aload_n 0 (dec_at dX6_face 82) rfl rfl ?_
            refine e_getr 12 (dec_at dX6_face 83) flX6_28 rfl rfl ?_
            refine e_iload_n 2 (dec_at dX6_face 84) rfl rfl ?_
            refine e_iload_n 1 (dec_at dX6_face 85) rfl rfl ?_
            refine e_iast (dec_at dX6_face 86) rfl (by decide) (aLk_28 _) (by omega) (by omega) ?_
            refine e_iconst (dec_at dX6_face 87) ?_
            refine e_is3 (dec_at dX6_face 88) (by decide) rfl ?_
            refine l_mface2 hC hP hs hn0 hz (by omega) (by omega) (by omega) hfo (by omega) _ 0 _ rfl (by omega) (by omega) (fun k l1 i z => ?_) ?_ mset_eq (fun i a b => by omega)
            · rw [mset_ne (by omega), mset_ne (by omega)]
            · rw [mset_k (by decide), mset_eq]
              omega
        · refine e_bipush (dec_at dX6_face 54) (by decide) ?_
          refine e_ireturn (dec_at dX6_face 55) rfl ?_
          exact Or.inr (Or.inr (Or.inr (Or.inr (Or.inl (⟨⟨by omega, by omega, by omega, hfo, by omega⟩, rfl, rfl⟩)))))
      · refine e_aload_n 0 (dec_at dX6_face 20) rfl rfl ?_
        refine e_iconst (dec_at dX6_face 21) ?_
        refine e_callVr (M' := mX6_meets) (dec_at dX6_face 22) mlX6_63 (m_meets 2 (by decide)) oX6_meets iX6_meets rfl rfl rfl rfl (by decide) (by decide) (Nat.le_of_ble_eq_true rfl) ?_
        refine e_ireturn (dec_at dX6_face 23) rfl ?_
        exact Or.inr (Or.inr (Or.inl (⟨by omega, rfl, rfl⟩)))
    · refine e_aload_n 0 (dec_at dX6_face 12) rfl rfl ?_
      refine e_iconst (dec_at dX6_face 13) ?_
      refine e_callVr (M' := mX6_meets) (dec_at dX6_face 14) mlX6_63 (m_meets 1 (by decide)) oX6_meets iX6_meets rfl rfl rfl rfl (by decide) (by decide) (Nat.le_of_ble_eq_true rfl) ?_
      refine e_ireturn (dec_at dX6_face 15) rfl ?_
      exact Or.inr (Or.inl (⟨by omega, rfl, rfl⟩))
  · refine e_bipush (dec_at dX6_face 6) (by decide) ?_
    refine e_ireturn (dec_at dX6_face 7) rfl ?_
    exact Or.inl (⟨by omega, rfl, rfl⟩)

set_option maxRecDepth 100000 in
set_option maxHeartbeats 4000000 in
theorem m_cause {μ : Mm} : Mc mX6_cause 6 [vR 21 0] μ (Rt (some (vI (μ 21 0 0))) μ) := by
  refine Mc.of (L := [some (vR 21 0)]) (by decide +kernel) (by simp [leL, entA, isLong, mX6_cause]) (by simp [entA, isLong, mX6_cause]) ?_
  refine e_aload_n 0 (dec_at dX6_cause 0) rfl rfl ?_
  refine e_geti 0 0 (dec_at dX6_cause 1) flX6_54 rfl rfl rfl (fun r1 => ?_)
  refine e_ireturn (dec_at dX6_cause 2) rfl ?_
  exact ⟨rfl, rfl⟩

def countM (μ : Mm) (w : Int) : Int := if w = 0 then μ 23 0 0 else if w = 1 then μ 24 0 0 else if w = 2 then μ 21 0 18 else if w = 3 then (if μ 21 0 1 = -1 then -1 else μ 21 0 2) else -102

set_option maxRecDepth 100000 in
set_option maxHeartbeats 4000000 in
theorem m_count {μ : Mm} (w : Int) (hw : inR w) : Mc mX6_count 6 [vR 21 0, vI w] μ (Rt (some (vI (countM μ w))) μ) := by
  refine Mc.of (L := [some (vR 21 0), some (vI w)]) (by decide +kernel) (by simp [leL, entA, isLong, mX6_count]) (by simp [entA, isLong, mX6_count]) ?_
  refine e_iload_n 1 (dec_at dX6_count 0) rfl rfl ?_
  rcases (show w = 0 ∨ w = 1 ∨ w = 2 ∨ w = 3 ∨ ¬ (0 ≤ w ∧ w ≤ 3) by omega) with rfl | rfl | rfl | rfl | hw0
  · refine e_tableIn 32 (dec_at dX6_count 1) (by decide) (by decide) (by decide) rfl (by decide) ?_
    refine e_aload_n 0 (dec_at dX6_count 2) rfl rfl ?_
    refine e_getr 7 (dec_at dX6_count 3) flX6_13 rfl rfl ?_
    refine e_iconst (dec_at dX6_count 4) ?_
    refine e_iald (dec_at dX6_count 5) rfl (by decide) (aLk_23 _) (by omega) (fun r37 => ?_)
    refine e_ireturn (dec_at dX6_count 6) rfl ?_
    refine ⟨congrArg (fun z => some (vI z)) ?_, rfl⟩
    unfold countM
    exact (if_pos (by omega)).symm
  · refine e_tableIn 39 (dec_at dX6_count 1) (by decide) (by decide) (by decide) rfl (by decide) ?_
    refine e_aload_n 0 (dec_at dX6_count 7) rfl rfl ?_
    refine e_getr 8 (dec_at dX6_count 8) flX6_16 rfl rfl ?_
    refine e_iconst (dec_at dX6_count 9) ?_
    refine e_iald (dec_at dX6_count 10) rfl (by decide) (aLk_24 _) (by omega) (fun r44 => ?_)
    refine e_ireturn (dec_at dX6_count 11) rfl ?_
    refine ⟨congrArg (fun z => some (vI z)) ?_, rfl⟩
    unfold countM
    refine Eq.trans ?_ (if_neg (by omega)).symm
    exact (if_pos (by omega)).symm
  · refine e_tableIn 46 (dec_at dX6_count 1) (by decide) (by decide) (by decide) rfl (by decide) ?_
    refine e_aload_n 0 (dec_at dX6_count 12) rfl rfl ?_
    refine e_geti 18 18 (dec_at dX6_count 13) flX6_86 rfl rfl rfl (fun r47 => ?_)
    refine e_ireturn (dec_at dX6_count 14) rfl ?_
    refine ⟨congrArg (fun z => some (vI z)) ?_, rfl⟩
    unfold countM
    refine Eq.trans ?_ (if_neg (by omega)).symm
    refine Eq.trans ?_ (if_neg (by omega)).symm
    exact (if_pos (by omega)).symm
  · refine e_tableIn 51 (dec_at dX6_count 1) (by decide) (by decide) (by decide) rfl (by decide) ?_
    refine e_aload_n 0 (dec_at dX6_count 15) rfl rfl ?_
    refine e_geti 1 1 (dec_at dX6_count 16) flX6_46 rfl rfl rfl (fun r52 => ?_)
    refine e_iconst (dec_at dX6_count 17) ?_
    refine e_icmp_ne 63 (dec_at dX6_count 18) (by decide) (by omega) (by omega) (fun h56 => ?_) (fun h56 => ?_)
    · refine e_aload_n 0 (dec_at dX6_count 21) rfl rfl ?_
      refine e_geti 2 2 (dec_at dX6_count 22) flX6_67 rfl rfl rfl (fun r64 => ?_)
      refine e_ireturn (dec_at dX6_count 23) rfl ?_
      refine ⟨congrArg (fun z => some (vI z)) ?_, rfl⟩
      unfold countM
      refine Eq.trans ?_ (if_neg (by omega)).symm
      refine Eq.trans ?_ (if_neg (by omega)).symm
      refine Eq.trans ?_ (if_neg (by omega)).symm
      refine Eq.trans ?_ (if_pos (by omega)).symm
      first | exact (if_pos (by omega)).symm | exact (if_neg (by omega)).symm
    · refine e_iconst (dec_at dX6_count 19) ?_
      refine e_goto 67 (dec_at dX6_count 20) (by decide) ?_
      refine e_ireturn (dec_at dX6_count 23) rfl ?_
      refine ⟨congrArg (fun z => some (vI z)) ?_, rfl⟩
      unfold countM
      refine Eq.trans ?_ (if_neg (by omega)).symm
      refine Eq.trans ?_ (if_neg (by omega)).symm
      refine Eq.trans ?_ (if_neg (by omega)).symm
      refine Eq.trans ?_ (if_pos (by omega)).symm
      first | exact (if_pos (by omega)).symm | exact (if_neg (by omega)).symm
  · refine e_tableOut 68 (dec_at dX6_count 1) (by omega) (by omega) (by decide) ?_
    refine e_bipush (dec_at dX6_count 24) (by decide) ?_
    refine e_ireturn (dec_at dX6_count 25) rfl ?_
    refine ⟨congrArg (fun z => some (vI z)) ?_, rfl⟩
    unfold countM
    refine Eq.trans ?_ (if_neg (by omega)).symm
    refine Eq.trans ?_ (if_neg (by omega)).symm
    refine Eq.trans ?_ (if_neg (by omega)).symm
    refine Eq.trans ?_ (if_neg (by omega)).symm
    rfl
