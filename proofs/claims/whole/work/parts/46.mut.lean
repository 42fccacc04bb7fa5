/-! THE CLASS'S CALLS THAT CHANGE -/
theorem XI.out {μ ν : Mm} (h : XI μ) (h6 : P6 μ) (f : ∀ (k : Nat) (l i : Int), 3 ≤ k → k ≤ 20 → ν k l i = μ k l i) : XI ν ∧ P6 ν := by
  have S : SB μ ν := fun k l i z => f k l i (by omega) (by omega)
  have e1 : ν 11 0 1 = μ 11 0 1 := f 11 0 1 (by omega) (by omega)
  have e13 : ∀ i, ν 13 0 i = μ 13 0 i := fun i => f 13 0 i (by omega) (by omega)
  refine ⟨⟨S.xb h.1, S.xn h.2.1, S.mv h.2.2.1, ?_⟩, fun g g0 g1 => by rw [e13, e13]; exact h6 g g0 (by omega)⟩
  have y4 : ν 3 0 4 = μ 3 0 4 := f 3 0 4 (by omega) (by omega)
  have y5 : ν 3 0 5 = μ 3 0 5 := f 3 0 5 (by omega) (by omega)
  have y6 : ν 3 0 6 = μ 3 0 6 := f 3 0 6 (by omega) (by omega)
  have z1 : ν 5 0 1 = μ 5 0 1 := f 5 0 1 (by omega) (by omega)
  have z2 : ν 5 0 2 = μ 5 0 2 := f 5 0 2 (by omega) (by omega)
  rcases h.2.2.2 with q | ⟨q1, q2, q3, q4, q5⟩
  · exact Or.inl (by rw [y4, y5, y6]; exact q)
  · refine Or.inr ⟨by rw [y4]; exact q1, by rw [z1, z2]; exact S.isf q2, by rw [y5, y6]; exact q3, by rw [z1, y5]; exact q4, fun w => ?_⟩
    rw [z1] at w
    have g := (IsF.good h.1.1 (p := μ 5 0 2) (by rw [w] at q2; exact q2)).1
    rw [S.leve, y5, y6, S.nme]
    refine ⟨fun l hl => ?_, fun l hl c a x0 x1 z0 z1 => ?_⟩
    · have e : Agr (Nt μ l) (Nt ν l) := ⟨⟨(f 11 l 0 (by omega) (by omega)).symm, (f 11 l 1 (by omega) (by omega)).symm, fun g _ _ => (f 13 l g (by omega) (by omega)).symm, fun s _ _ => (f 14 l s (by omega) (by omega)).symm⟩, (f 11 l 2 (by omega) (by omega)).symm, fun s _ _ => ⟨(f 15 l s (by omega) (by omega)).symm, (f 16 l s (by omega) (by omega)).symm, (f 17 l s (by omega) (by omega)).symm⟩, fun e _ _ => (f 18 l e (by omega) (by omega)).symm, fun c _ _ => ⟨(f 19 l c (by omega) (by omega)).symm, (f 20 l c (by omega) (by omega)).symm⟩⟩
      exact ((q5 w).1 l hl).tr e (lev_good g l).1.2.1.1
    · rw [f 11 l 0 (by omega) (by omega)] at x1
      rw [f 12 l _ (by omega) (by omega)]
      exact (q5 w).2 l hl c a x0 x1 z0 z1
theorem fgs {ν : Mm} (k : Nat) (l i : Int) (h : k ≠ 3) : mset (mset (mset ν 3 0 4 0) 3 0 5 0) 3 0 6 0 k l i = ν k l i := by rw [mset_k h, mset_k h, mset_k h]
theorem fgz {ν : Mm} : mset (mset (mset ν 3 0 4 0) 3 0 5 0) 3 0 6 0 3 0 4 = 0 ∧ mset (mset (mset ν 3 0 4 0) 3 0 5 0) 3 0 6 0 3 0 5 = 0 ∧ mset (mset (mset ν 3 0 4 0) 3 0 5 0) 3 0 6 0 3 0 6 = 0 := by
  refine ⟨?_, ?_, mset_eq⟩
  · rw [mset_i (by omega), mset_i (by omega)]; exact mset_eq
  · rw [mset_i (by omega)]; exact mset_eq

set_option maxRecDepth 100000 in
set_option maxHeartbeats 4000000 in
theorem x_row {μ : Mm} (a n : Int) (ha : inR a) (hn : inR n) : Mc mX5_row 6 [vR 0 0, vI a, vI n] μ (fun r ν => ((¬ (0 ≤ a ∧ a < 3) ∨ 8 < n) ∧ r = some (vI (-102)) ∧ ν = μ) ∨ (((0 ≤ a ∧ a < 3) ∧ n < 0) ∧ r = some (vI (-10 - 3)) ∧ ν = mset μ 0 0 2 3) ∨ (((0 ≤ a ∧ a < 3) ∧ 0 ≤ n ∧ n ≤ 8) ∧ r = some (vI (n)) ∧ ν = mfun (mset (mset μ 1 0 1 a) 1 0 2 n) 2 0 (fun j => if 0 ≤ j ∧ j < 8 then 0 else μ 2 0 j))) := by
  refine Mc.of (L := [some (vR 0 0), some (vI a), some (vI n)]) (by decide +kernel) (by simp [leL, entA, isLong, mX5_row]) (by simp [entA, isLong, mX5_row]) ?_
  refine e_iload_n 1 (dec_at dX5_row 0) rfl rfl ?_
  refine e_callSr (M' := mX5_isLane) (dec_at dX5_row 1) mlX5_27 (c_isLane a ha) oX5_isLane sX5_isLane rfl rfl (by decide) (by decide) (Nat.le_of_ble_eq_true rfl) ?_
  refine e_beq 13 (dec_at dX5_row 2) (by decide) (fun h4 => ?_) (fun h4 => ?_)
  · refine e_bipush (dec_at dX5_row 6) (by decide) ?_
    refine e_ireturn (dec_at dX5_row 7) rfl ?_
    exact Or.inl (⟨by omega, rfl, rfl⟩)
  · refine e_iload_n 2 (dec_at dX5_row 3) rfl rfl ?_
    refine e_bipush (dec_at dX5_row 4) (by decide) ?_
    refine e_icmp_le 16 (dec_at dX5_row 5) (by decide) (by omega) (by omega) (fun h10 => ?_) (fun h10 => ?_)
    · refine e_iload_n 2 (dec_at dX5_row 8) rfl rfl ?_
      refine e_if_ge 26 (dec_at dX5_row 9) (by decide) (by omega) (fun h17 => ?_) (fun h17 => ?_)
      · refine e_aload_n 0 (dec_at dX5_row 14) rfl rfl ?_
        refine e_getr 0 (dec_at dX5_row 15) flX5_12 rfl rfl ?_
        refine e_iload_n 1 (dec_at dX5_row 16) rfl rfl ?_
        refine e_iload_n 2 (dec_at dX5_row 17) rfl rfl ?_
        refine e_callVv (M' := mX3_renew) (dec_at dX5_row 18) mlX5_35 (c_renew a n ha hn) oX3_renew iX3_renew rfl rfl rfl rfl (by decide) (by decide) (Nat.le_of_ble_eq_true rfl) ?_
        refine e_iload_n 2 (dec_at dX5_row 19) rfl rfl ?_
        refine e_ireturn (dec_at dX5_row 20) rfl ?_
        exact Or.inr (Or.inr (⟨by omega, rfl, rfl⟩))
      · refine e_aload_n 0 (dec_at dX5_row 10) rfl rfl ?_
        refine e_iconst (dec_at dX5_row 11) ?_
        refine e_callVr (M' := mX5_fail) (dec_at dX5_row 12) mlX5_31 (c_fail 3 (by decide)) oX5_fail iX5_fail rfl rfl rfl rfl (by decide) (by decide) (Nat.le_of_ble_eq_true rfl) ?_
        refine e_ireturn (dec_at dX5_row 13) rfl ?_
        exact Or.inr (Or.inl (⟨by omega, rfl, rfl⟩))
    · refine e_bipush (dec_at dX5_row 6) (by decide) ?_
      refine e_ireturn (dec_at dX5_row 7) rfl ?_
      exact Or.inl (⟨by omega, rfl, rfl⟩)

set_option maxRecDepth 100000 in
set_option maxHeartbeats 4000000 in
theorem x_put {μ : Mm} (a i v : Int) (ha : inR a) (hi : inR i) (hv : inR v) (hr : XR μ) : Mc mX5_put 6 [vR 0 0, vI a, vI i, vI v] μ (fun r ν => (¬ (0 ≤ a ∧ a < 3) ∧ r = some (vI (-102)) ∧ ν = μ) ∨ (((0 ≤ a ∧ a < 3) ∧ μ 1 0 2 = -1) ∧ r = some (vI (-10 - 1)) ∧ ν = mset μ 0 0 2 1) ∨ (((0 ≤ a ∧ a < 3) ∧ μ 1 0 2 ≠ -1 ∧ a ≠ μ 1 0 1) ∧ r = some (vI (-10 - 4)) ∧ ν = mset μ 0 0 2 4) ∨ (((0 ≤ a ∧ a < 3) ∧ μ 1 0 2 ≠ -1 ∧ a = μ 1 0 1 ∧ ¬ (0 ≤ i ∧ i < μ 1 0 2)) ∧ r = some (vI (-10 - 2)) ∧ ν = mset μ 0 0 2 2) ∨ (((0 ≤ a ∧ a < 3) ∧ μ 1 0 2 ≠ -1 ∧ a = μ 1 0 1 ∧ (0 ≤ i ∧ i < μ 1 0 2)) ∧ r = some (vI (1)) ∧ ν = mset μ 2 0 i (lc (μ 1 0 1) v))) := by
  refine Mc.of (L := [some (vR 0 0), some (vI a), some (vI i), some (vI v)]) (by decide +kernel) (by simp [leL, entA, isLong, mX5_put]) (by simp [entA, isLong, mX5_put]) ?_
  have hr1 := hr.1
  have hr2 := hr.2
  refine e_iload_n 1 (dec_at dX5_put 0) rfl rfl ?_
  refine e_callSr (M' := mX5_isLane) (dec_at dX5_put 1) mlX5_27 (c_isLane a ha) oX5_isLane sX5_isLane rfl rfl (by decide) (by decide) (Nat.le_of_ble_eq_true rfl) ?_
  refine e_bne 10 (dec_at dX5_put 2) (by decide) (fun h4 => ?_) (fun h4 => ?_)
  · refine e_aload_n 0 (dec_at dX5_put 5) rfl rfl ?_
    refine e_getr 0 (dec_at dX5_put 6) flX5_12 rfl rfl ?_
    refine e_callVr (M' := mX3_isLost) (dec_at dX5_put 7) mlX5_39 c_isLost oX3_isLost iX3_isLost rfl rfl rfl rfl (by decide) (by decide) (Nat.le_of_ble_eq_true rfl) ?_
    refine e_beq 26 (dec_at dX5_put 8) (by decide) (fun h17 => ?_) (fun h17 => ?_)
    · refine e_iload_n 1 (dec_at dX5_put 13) rfl rfl ?_
      refine e_aload_n 0 (dec_at dX5_put 14) rfl rfl ?_
      refine e_getr 0 (dec_at dX5_put 15) flX5_12 rfl rfl ?_
      refine e_geti 1 1 (dec_at dX5_put 16) flX5_43 rfl rfl rfl (fun r31 => ?_)
      refine e_icmp_eq 43 (dec_at dX5_put 17) (by decide) (by omega) (by omega) (fun h34 => ?_) (fun h34 => ?_)
      · refine e_iload_n 2 (dec_at dX5_put 22) rfl rfl ?_
        refine e_if_lt 58 (dec_at dX5_put 23) (by decide) (by omega) (fun h44 => ?_) (fun h44 => ?_)
        · refine e_aload_n 0 (dec_at dX5_put 29) rfl rfl ?_
          refine e_iconst (dec_at dX5_put 30) ?_
          refine e_callVr (M' := mX5_fail) (dec_at dX5_put 31) mlX5_31 (c_fail 2 (by decide)) oX5_fail iX5_fail rfl rfl rfl rfl (by decide) (by decide) (Nat.le_of_ble_eq_true rfl) ?_
          refine e_ireturn (dec_at dX5_put 32) rfl ?_
          exact Or.inr (Or.inr (Or.inr (Or.inl (⟨by omega, rfl, rfl⟩))))
        · refine e_iload_n 2 (dec_at dX5_put 24) rfl rfl ?_
          refine e_aload_n 0 (dec_at dX5_put 25) rfl rfl ?_
          refine e_getr 0 (dec_at dX5_put 26) flX5_12 rfl rfl ?_
          refine e_geti 2 2 (dec_at dX5_put 27) flX5_46 rfl rfl rfl (fun r52 => ?_)
          refine e_icmp_lt 64 (dec_at dX5_put 28) (by decide) (by omega) (by omega) (fun h55 => ?_) (fun h55 => ?_)
          · refine e_aload_n 0 (dec_at dX5_put 33) rfl rfl ?_
            refine e_getr 0 (dec_at dX5_put 34) flX5_12 rfl rfl ?_
            refine e_iload_n 2 (dec_at dX5_put 35) rfl rfl ?_
            refine e_iload_n 3 (dec_at dX5_put 36) rfl rfl ?_
            refine e_callVv (M' := mX3_write) (dec_at dX5_put 37) mlX5_49 (c_write i v (by omega) hv) oX3_write iX3_write rfl rfl rfl rfl (by decide) (by decide) (Nat.le_of_ble_eq_true rfl) ?_
            refine e_iconst (dec_at dX5_put 38) ?_
            refine e_ireturn (dec_at dX5_put 39) rfl ?_
            exact Or.inr (Or.inr (Or.inr (Or.inr (⟨by omega, rfl, rfl⟩))))
          · refine e_aload_n 0 (dec_at dX5_put 29) rfl rfl ?_
            refine e_iconst (dec_at dX5_put 30) ?_
            refine e_callVr (M' := mX5_fail) (dec_at dX5_put 31) mlX5_31 (c_fail 2 (by decide)) oX5_fail iX5_fail rfl rfl rfl rfl (by decide) (by decide) (Nat.le_of_ble_eq_true rfl) ?_
            refine e_ireturn (dec_at dX5_put 32) rfl ?_
            exact Or.inr (Or.inr (Or.inr (Or.inl (⟨by omega, rfl, rfl⟩))))
      · refine e_aload_n 0 (dec_at dX5_put 18) rfl rfl ?_
        refine e_iconst (dec_at dX5_put 19) ?_
        refine e_callVr (M' := mX5_fail) (dec_at dX5_put 20) mlX5_31 (c_fail 4 (by decide)) oX5_fail iX5_fail rfl rfl rfl rfl (by decide) (by decide) (Nat.le_of_ble_eq_true rfl) ?_
        refine e_ireturn (dec_at dX5_put 21) rfl ?_
        exact Or.inr (Or.inr (Or.inl (⟨by omega, rfl, rfl⟩)))
    · refine e_aload_n 0 (dec_at dX5_put 9) rfl rfl ?_
      refine e_iconst (dec_at dX5_put 10) ?_
      refine e_callVr (M' := mX5_fail) (dec_at dX5_put 11) mlX5_31 (c_fail 1 (by decide)) oX5_fail iX5_fail rfl rfl rfl rfl (by decide) (by decide) (Nat.le_of_ble_eq_true rfl) ?_
      refine e_ireturn (dec_at dX5_put 12) rfl ?_
      exact Or.inr (Or.inl (⟨by omega, rfl, rfl⟩))
  · refine e_bipush (dec_at dX5_put 3) (by decide) ?_
    refine e_ireturn (dec_at dX5_put 4) rfl ?_
    exact Or.inl (⟨by omega, rfl, rfl⟩)

set_option maxRecDepth 100000 in
set_option maxHeartbeats 4000000 in
theorem x_lose {μ : Mm} : Mc mX5_lose 6 [vR 0 0] μ (fun r ν => (μ 1 0 2 = -1 ∧ r = some (vI (-10 - 1)) ∧ ν = mset μ 0 0 2 1) ∨ (μ 1 0 2 ≠ -1 ∧ r = some (vI (1)) ∧ ν = mset μ 1 0 2 (-1))) := by
  refine Mc.of (L := [some (vR 0 0)]) (by decide +kernel) (by simp [leL, entA, isLong, mX5_lose]) (by simp [entA, isLong, mX5_lose]) ?_
  refine e_aload_n 0 (dec_at dX5_lose 0) rfl rfl ?_
  refine e_getr 0 (dec_at dX5_lose 1) flX5_12 rfl rfl ?_
  refine e_callVr (M' := mX3_isLost) (dec_at dX5_lose 2) mlX5_39 c_isLost oX3_isLost iX3_isLost rfl rfl rfl rfl (by decide) (by decide) (Nat.le_of_ble_eq_true rfl) ?_
  refine e_beq 16 (dec_at dX5_lose 3) (by decide) (fun h7 => ?_) (fun h7 => ?_)
  · refine e_aload_n 0 (dec_at dX5_lose 8) rfl rfl ?_
    refine e_getr 0 (dec_at dX5_lose 9) flX5_12 rfl rfl ?_
    refine e_iconst (dec_at dX5_lose 10) ?_
    refine e_put 2 2 (dec_at dX5_lose 11) flX5_46 fpX3_2 rfl rfl rfl (by omega) (fit_int _) ?_
    refine e_iconst (dec_at dX5_lose 12) ?_
    refine e_ireturn (dec_at dX5_lose 13) rfl ?_
    exact Or.inr (⟨by omega, rfl, rfl⟩)
  · refine e_aload_n 0 (dec_at dX5_lose 4) rfl rfl ?_
    refine e_iconst (dec_at dX5_lose 5) ?_
    refine e_callVr (M' := mX5_fail) (dec_at dX5_lose 6) mlX5_31 (c_fail 1 (by decide)) oX5_fail iX5_fail rfl rfl rfl rfl (by decide) (by decide) (Nat.le_of_ble_eq_true rfl) ?_
    refine e_ireturn (dec_at dX5_lose 7) rfl ?_
    exact Or.inl (⟨by omega, rfl, rfl⟩)

set_option maxRecDepth 100000 in
set_option maxHeartbeats 4000000 in
theorem x_corner {μ : Mm} (hI : XI μ) (h6 : P6 μ) (hr : XR μ) : Mc mX5_corner 6 [vR 0 0] μ (fun r ν => (μ 1 0 2 = -1 ∧ r = some (vI (-10 - 1)) ∧ ν = mset μ 0 0 2 1) ∨ ((μ 1 0 2 ≠ -1 ∧ μ 1 0 2 < 3) ∧ r = some (vI (-10 - 2)) ∧ ν = mset μ 0 0 2 2) ∨ ((3 ≤ μ 1 0 2 ∧ ¬ (∀ j, 0 ≤ j → j < 3 → -1000 ≤ μ 2 0 j ∧ μ 2 0 j ≤ 1000)) ∧ r = some (vI (-102)) ∧ ν = μ) ∨ ((3 ≤ μ 1 0 2 ∧ (∀ j, 0 ≤ j → j < 3 → -1000 ≤ μ 2 0 j ∧ μ 2 0 j ≤ 1000) ∧ 14 ≤ μ 11 0 0) ∧ r = some (vI (-104)) ∧ ν = μ) ∨ ((3 ≤ μ 1 0 2 ∧ (∀ j, 0 ≤ j → j < 3 → -1000 ≤ μ 2 0 j ∧ μ 2 0 j ≤ 1000) ∧ μ 11 0 0 < 14) ∧ r = some (vI (μ 11 0 0)) ∧ (∀ k l1 i, ¬ (l1 = 0 ∧ (k = 12 ∧ 3 * μ 11 0 0 ≤ i ∧ i ≤ 3 * μ 11 0 0 + 2 ∨ k = 11 ∧ i = 0) ∨ k = 3) → ν k l1 i = μ k l1 i) ∧ ν 11 0 0 = μ 11 0 0 + 1 ∧ (∀ a, 0 ≤ a → a < 3 → ν 12 0 (3 * μ 11 0 0 + a) = μ 2 0 a) ∧ XI ν ∧ P6 ν)) := by
  refine Mc.of (L := [some (vR 0 0), none]) (by decide +kernel) (by simp [leL, entA, isLong, mX5_corner]) (by simp [entA, isLong, mX5_corner]) ?_
  have hr1 := hr.1
  have hr2 := hr.2
  have hb := hI.1.un
  refine e_aload_n 0 (dec_at dX5_corner 0) rfl rfl ?_
  refine e_getr 1 (dec_at dX5_corner 1) flX5_19 rfl rfl ?_
  refine e_getr 1 (dec_at dX5_corner 2) flX5_52 rfl rfl ?_
  refine e_as1 (dec_at dX5_corner 3) (by decide) rfl ?_
  refine e_aload_n 0 (dec_at dX5_corner 4) rfl rfl ?_
  refine e_getr 0 (dec_at dX5_corner 5) flX5_12 rfl rfl ?_
  refine e_callVr (M' := mX3_isLost) (dec_at dX5_corner 6) mlX5_39 c_isLost oX3_isLost iX3_isLost rfl rfl rfl rfl (by decide) (by decide) (Nat.le_of_ble_eq_true rfl) ?_
  refine e_beq 24 (dec_at dX5_corner 7) (by decide) (fun h15 => ?_) (fun h15 => ?_)
  · refine e_aload_n 0 (dec_at dX5_corner 12) rfl rfl ?_
    refine e_getr 0 (dec_at dX5_corner 13) flX5_12 rfl rfl ?_
    refine e_geti 2 2 (dec_at dX5_corner 14) flX5_46 rfl rfl rfl (fun r28 => ?_)
    refine e_iconst (dec_at dX5_corner 15) ?_
    refine e_icmp_ge 41 (dec_at dX5_corner 16) (by decide) (by omega) (by omega) (fun h32 => ?_) (fun h32 => ?_)
    · refine e_aload_n 0 (dec_at dX5_corner 21) rfl rfl ?_
      refine e_getr 0 (dec_at dX5_corner 22) flX5_12 rfl rfl ?_
      refine e_iconst (dec_at dX5_corner 23) ?_
      refine e_sipush (dec_at dX5_corner 24) (by decide) ?_
      refine e_sipush (dec_at dX5_corner 25) (by decide) ?_
      refine e_callVr (M' := mX3_hasNumbersWithin) (dec_at dX5_corner 26) mlX5_56 (c_hasN 3 (-1000) 1000 (by omega) (by omega) (by decide) (by decide)) oX3_hasNumbersWithin iX3_hasNumbersWithin rfl rfl rfl rfl (by decide) (by decide) (Nat.le_of_ble_eq_true rfl) ?_
      refine e_bne 61 (dec_at dX5_corner 27) (by decide) (fun h55 => ?_) (fun h55 => ?_)
      · refine e_aload_n 1 (dec_at dX5_corner 30) rfl rfl ?_
        refine e_geti 0 0 (dec_at dX5_corner 31) flX5_60 rfl rfl rfl (fun r62 => ?_)
        refine e_bipush (dec_at dX5_corner 32) (by decide) ?_
        refine e_icmp_lt 73 (dec_at dX5_corner 33) (by decide) (by omega) (by omega) (fun h67 => ?_) (fun h67 => ?_)
        · refine e_aload_n 1 (dec_at dX5_corner 36) rfl rfl ?_
          refine e_aload_n 0 (dec_at dX5_corner 37) rfl rfl ?_
          refine e_getr 0 (dec_at dX5_corner 38) flX5_12 rfl rfl ?_
          refine e_getr 0 (dec_at dX5_corner 39) flX5_65 rfl rfl ?_
          refine e_callV (M' := mX2_addCorner) (dec_at dX5_corner 40) mlX5_69 (c_addCorner (μ := μ) (by omega)) oX2_addCorner iX2_addCorner rfl rfl rfl rfl (by decide) (by decide) (Nat.le_of_ble_eq_true rfl) (fun r ν hQ => ?_)
          obtain ⟨rfl, f, c1, c2⟩ := hQ
          show Ev mX5_corner 6 84 _ [] ν _
          refine e_aload_n 0 (dec_at dX5_corner 41) rfl rfl ?_
          refine e_getr 1 (dec_at dX5_corner 42) flX5_19 rfl rfl ?_
          refine e_callVv (M' := mX4_forgetShapes) (dec_at dX5_corner 43) mlX5_73 c_forgetShapes oX4_forgetShapes iX4_forgetShapes rfl rfl rfl rfl (by decide) (by decide) (Nat.le_of_ble_eq_true rfl) ?_
          refine e_aload_n 1 (dec_at dX5_corner 44) rfl rfl ?_
          refine e_getiv 0 0 (μ 11 0 0 + 1) (dec_at dX5_corner 45) flX5_60 rfl rfl rfl (by rw [fgs _ _ _ (by decide)]; exact c1) (fun r92 => ?_)
          refine e_iconst (dec_at dX5_corner 46) ?_
          refine e_isub (dec_at dX5_corner 47) ?_
          refine e_ireturn (dec_at dX5_corner 48) rfl ?_
          have F : ∀ k l1 i, ¬ (l1 = 0 ∧ (k = 12 ∧ 3 * μ 11 0 0 ≤ i ∧ i ≤ 3 * μ 11 0 0 + 2 ∨ k = 11 ∧ i = 0) ∨ k = 3) → mset (mset (mset ν 3 0 4 0) 3 0 5 0) 3 0 6 0 k l1 i = μ k l1 i := fun k l1 i z => by rw [fgs _ _ _ (by omega)]; exact f k l1 i (by omega)
          have F1 : mset (mset (mset ν 3 0 4 0) 3 0 5 0) 3 0 6 0 11 0 0 = μ 11 0 0 + 1 := by rw [fgs _ _ _ (by decide)]; exact c1
          have F2 : ∀ a, 0 ≤ a → a < 3 → mset (mset (mset ν 3 0 4 0) 3 0 5 0) 3 0 6 0 12 0 (3 * μ 11 0 0 + a) = μ 2 0 a := fun a a0 a1 => by rw [fgs _ _ _ (by decide)]; exact c2 a a0 a1
          have K := keep_corner hI h6 (by omega) F F1 (fun a a0 a1 => by rw [F2 a a0 a1]; exact h55 a a0 a1) fgz
          refine Or.inr (Or.inr (Or.inr (Or.inr ⟨⟨by omega, h55, by omega⟩, ?_, F, F1, F2, K.1, K.2⟩)))
          rw [show μ 11 0 0 + 1 - 1 = μ 11 0 0 by omega]
        · refine e_bipush (dec_at dX5_corner 34) (by decide) ?_
          refine e_ireturn (dec_at dX5_corner 35) rfl ?_
          exact Or.inr (Or.inr (Or.inr (Or.inl (⟨⟨by omega, h55, by omega⟩, rfl, rfl⟩))))
      · refine e_bipush (dec_at dX5_corner 28) (by decide) ?_
        refine e_ireturn (dec_at dX5_corner 29) rfl ?_
        exact Or.inr (Or.inr (Or.inl (⟨⟨by omega, h55⟩, rfl, rfl⟩)))
    · refine e_aload_n 0 (dec_at dX5_corner 17) rfl rfl ?_
      refine e_iconst (dec_at dX5_corner 18) ?_
      refine e_callVr (M' := mX5_fail) (dec_at dX5_corner 19) mlX5_31 (c_fail 2 (by decide)) oX5_fail iX5_fail rfl rfl rfl rfl (by decide) (by decide) (Nat.le_of_ble_eq_true rfl) ?_
      refine e_ireturn (dec_at dX5_corner 20) rfl ?_
      exact Or.inr (Or.inl (⟨by omega, rfl, rfl⟩))
  · refine e_aload_n 0 (dec_at dX5_corner 8) rfl rfl ?_
    refine e_iconst (dec_at dX5_corner 9) ?_
    refine e_callVr (M' := mX5_fail) (dec_at dX5_corner 10) mlX5_31 (c_fail 1 (by decide)) oX5_fail iX5_fail rfl rfl rfl rfl (by decide) (by decide) (Nat.le_of_ble_eq_true rfl) ?_
    refine e_ireturn (dec_at dX5_corner 11) rfl ?_
    exact Or.inl (⟨by omega, rfl, rfl⟩)

set_option maxRecDepth 100000 in
set_option maxHeartbeats 4000000 in
theorem x_place {μ : Mm} (c a v : Int) (hc : inR c) (ha : inR a) (hv : inR v) (hI : XI μ) (h6 : P6 μ) : Mc mX5_place 6 [vR 0 0, vI c, vI a, vI v] μ (fun r ν => (¬ ((0 ≤ c ∧ c < μ 11 0 0) ∧ (0 ≤ a ∧ a < 3)) ∧ r = some (vI (-101)) ∧ ν = μ) ∨ ((((0 ≤ c ∧ c < μ 11 0 0) ∧ (0 ≤ a ∧ a < 3)) ∧ ¬ (-1000 ≤ v ∧ v ≤ 1000)) ∧ r = some (vI (-102)) ∧ ν = μ) ∨ ((((0 ≤ c ∧ c < μ 11 0 0) ∧ (0 ≤ a ∧ a < 3)) ∧ (-1000 ≤ v ∧ v ≤ 1000)) ∧ r = some (vI (μ 12 0 (3 * c + a))) ∧ (∀ k l1 i, ¬ (k = 12 ∧ l1 = 0 ∧ i = 3 * c + a ∨ k = 3 ∧ l1 = 0 ∧ i = 6) → ν k l1 i = μ k l1 i) ∧ ν 12 0 (3 * c + a) = v ∧ XI ν ∧ P6 ν)) := by
  refine Mc.of (L := [some (vR 0 0), some (vI c), some (vI a), some (vI v), none, none]) (by decide +kernel) (by simp [leL, entA, isLong, mX5_place]) (by simp [entA, isLong, mX5_place]) ?_
  have e1 : capC 0 = 14 := rfl
  have hb := hI.1.un
  refine e_aload_n 0 (dec_at dX5_place 0) rfl rfl ?_
  refine e_getr 1 (dec_at dX5_place 1) flX5_19 rfl rfl ?_
  refine e_getr 1 (dec_at dX5_place 2) flX5_52 rfl rfl ?_
  refine e_as4 (dec_at dX5_place 3) (by decide) rfl ?_
  refine e_aload (dec_at dX5_place 4) rfl ?_
  refine e_iload_n 1 (dec_at dX5_place 5) rfl rfl ?_
  refine e_callVr (M' := mX2_hasCorner) (dec_at dX5_place 6) mlX5_76 (c_hasCorner (μ := μ) 0 c hc) oX2_hasCorner iX2_hasCorner rfl rfl rfl rfl (by decide) (by decide) (Nat.le_of_ble_eq_true rfl) ?_
  refine e_beq 25 (dec_at dX5_place 7) (by decide) (fun h15 => ?_) (fun h15 => ?_)
  · refine e_bipush (dec_at dX5_place 11) (by decide) ?_
    refine e_ireturn (dec_at dX5_place 12) rfl ?_
    exact Or.inl (⟨by omega, rfl, rfl⟩)
  · refine e_iload_n 2 (dec_at dX5_place 8) rfl rfl ?_
    refine e_callSr (M' := mX5_isAxis) (dec_at dX5_place 9) mlX5_79 (c_isAxis a ha) oX5_isAxis sX5_isAxis rfl rfl (by decide) (by decide) (Nat.le_of_ble_eq_true rfl) ?_
    refine e_bne 28 (dec_at dX5_place 10) (by decide) (fun h22 => ?_) (fun h22 => ?_)
    · refine e_iload_n 3 (dec_at dX5_place 13) rfl rfl ?_
      refine e_sipush (dec_at dX5_place 14) (by decide) ?_
      refine e_callSr (M' := mX5_isWithin) (dec_at dX5_place 15) mlX5_82 (c_isWithin v 1000 hv (by decide)) oX5_isWithin sX5_isWithin rfl rfl (by decide) (by decide) (Nat.le_of_ble_eq_true rfl) ?_
      refine e_bne 41 (dec_at dX5_place 16) (by decide) (fun h35 => ?_) (fun h35 => ?_)
      · refine e_aload (dec_at dX5_place 19) rfl ?_
        refine e_getr 3 (dec_at dX5_place 20) flX5_86 rfl rfl ?_
        refine e_iconst (dec_at dX5_place 21) ?_
        refine e_iload_n 1 (dec_at dX5_place 22) rfl rfl ?_
        refine e_imul (dec_at dX5_place 23) ?_
        refine e_iload_n 2 (dec_at dX5_place 24) rfl rfl ?_
        refine e_iadd (dec_at dX5_place 25) ?_
        refine e_iald (dec_at dX5_place 26) rfl (by decide) (aLk_12 _) (by omega) (fun r51 => ?_)
        refine e_is5 (dec_at dX5_place 27) (by decide) rfl ?_
        refine e_aload (dec_at dX5_place 28) rfl ?_
        refine e_getr 3 (dec_at dX5_place 29) flX5_86 rfl rfl ?_
        refine e_iconst (dec_at dX5_place 30) ?_
        refine e_iload_n 1 (dec_at dX5_place 31) rfl rfl ?_
        refine e_imul (dec_at dX5_place 32) ?_
        refine e_iload_n 2 (dec_at dX5_place 33) rfl rfl ?_
        refine e_iadd (dec_at dX5_place 34) ?_
        refine e_iload_n 3 (dec_at dX5_place 35) rfl rfl ?_
        refine e_iast (dec_at dX5_place 36) rfl (by decide) (aLk_12 _) (by omega) (by omega) ?_
        refine e_aload_n 0 (dec_at dX5_place 37) rfl rfl ?_
        refine e_getr 1 (dec_at dX5_place 38) flX5_19 rfl rfl ?_
        refine e_iconst (dec_at dX5_place 39) ?_
        refine e_callVv (M' := mX4_forgetNumbersAbove) (dec_at dX5_place 40) mlX5_87 (c_forgetNumbers 0 (by decide)) oX4_forgetNumbersAbove iX4_forgetNumbersAbove rfl rfl rfl rfl (by decide) (by decide) (Nat.le_of_ble_eq_true rfl) ?_
        refine e_iload (dec_at dX5_place 41) rfl ?_
        refine e_ireturn (dec_at dX5_place 42) rfl ?_
        have F : ∀ k l1 i, ¬ (k = 12 ∧ l1 = 0 ∧ i = 3 * c + a ∨ k = 3 ∧ l1 = 0 ∧ i = 6) → mset (mset μ 12 0 (3 * c + a) v) 3 0 6 (min (mset μ 12 0 (3 * c + a) v 3 0 6) 0) k l1 i = μ k l1 i := fun k l1 i z => by rw [mset_ne (by omega), mset_ne (by omega)]
        have F1 : mset (mset μ 12 0 (3 * c + a) v) 3 0 6 (min (mset μ 12 0 (3 * c + a) v 3 0 6) 0) 12 0 (3 * c + a) = v := by rw [mset_k (by decide)]; exact mset_eq
        have K := keep_place hI h6 (by omega) F F1 (by rw [mset_eq, mset_k (by decide)])
        exact Or.inr (Or.inr ⟨by omega, rfl, F, F1, K.1, K.2⟩)
      · refine e_bipush (dec_at dX5_place 17) (by decide) ?_
        refine e_ireturn (dec_at dX5_place 18) rfl ?_
        exact Or.inr (Or.inl (⟨by omega, rfl, rfl⟩))
    · refine e_bipush (dec_at dX5_place 11) (by decide) ?_
      refine e_ireturn (dec_at dX5_place 12) rfl ?_
      exact Or.inl (⟨by omega, rfl, rfl⟩)

set_option maxRecDepth 100000 in
set_option maxHeartbeats 4000000 in
theorem x_face {μ : Mm} (n : Int) (hn : inR n) (hI : XI μ) (h6 : P6 μ) (hr : XR μ) : Mc mX5_face 6 [vR 0 0, vI n] μ (fun r ν => (¬ (3 ≤ n ∧ n ≤ 6) ∧ r = some (vI (-102)) ∧ ν = μ) ∨ (((3 ≤ n ∧ n ≤ 6) ∧ μ 1 0 2 = -1) ∧ r = some (vI (-10 - 1)) ∧ ν = mset μ 0 0 2 1) ∨ (((3 ≤ n ∧ n ≤ 6) ∧ μ 1 0 2 ≠ -1 ∧ μ 1 0 2 < n) ∧ r = some (vI (-10 - 2)) ∧ ν = mset μ 0 0 2 2) ∨ (((3 ≤ n ∧ n ≤ 6) ∧ n ≤ μ 1 0 2 ∧ ¬ (∀ j, 0 ≤ j → j < n → 0 ≤ μ 2 0 j ∧ μ 2 0 j ≤ μ 11 0 0 - 1)) ∧ r = some (vI (-101)) ∧ ν = μ) ∨ (((3 ≤ n ∧ n ≤ 6) ∧ n ≤ μ 1 0 2 ∧ (∀ j, 0 ≤ j → j < n → 0 ≤ μ 2 0 j ∧ μ 2 0 j ≤ μ 11 0 0 - 1) ∧ 14 ≤ μ 11 0 1) ∧ r = some (vI (-104)) ∧ ν = μ) ∨ (((3 ≤ n ∧ n ≤ 6) ∧ n ≤ μ 1 0 2 ∧ (∀ j, 0 ≤ j → j < n → 0 ≤ μ 2 0 j ∧ μ 2 0 j ≤ μ 11 0 0 - 1) ∧ μ 11 0 1 < 14) ∧ r = some (vI (μ 11 0 1 + 1)) ∧ (∀ k l1 i, ¬ (l1 = 0 ∧ ((k = 14 ∨ k = 15) ∧ μ 13 0 (μ 11 0 1) ≤ i ∧ i < μ 13 0 (μ 11 0 1) + n ∨ k = 11 ∧ i = 1 ∨ k = 13 ∧ i = μ 11 0 1 + 1) ∨ k = 3) → ν k l1 i = μ k l1 i) ∧ ν 11 0 1 = μ 11 0 1 + 1 ∧ ν 13 0 (μ 11 0 1 + 1) = μ 13 0 (μ 11 0 1) + n ∧ (∀ j, 0 ≤ j → j < n → ν 14 0 (μ 13 0 (μ 11 0 1) + j) = μ 2 0 j) ∧ XI ν ∧ P6 ν)) := by
  refine Mc.of (L := [some (vR 0 0), some (vI n), none]) (by decide +kernel) (by simp [leL, entA, isLong, mX5_face]) (by simp [entA, isLong, mX5_face]) ?_
  have hr1 := hr.1
  have hr2 := hr.2
  have hb := hI.1.un
  have n0 := hI.1.nb.2.2.1
  have hn6 := h6.n hb.2.2.1 _ (μ 11 0 1) rfl hb.2.1.1 (Int.le_refl _)
  refine e_aload_n 0 (dec_at dX5_face 0) rfl rfl ?_
  refine e_getr 1 (dec_at dX5_face 1) flX5_19 rfl rfl ?_
  refine e_getr 1 (dec_at dX5_face 2) flX5_52 rfl rfl ?_
  refine e_as2 (dec_at dX5_face 3) (by decide) rfl ?_
  refine e_iload_n 1 (dec_at dX5_face 4) rfl rfl ?_
  refine e_iconst (dec_at dX5_face 5) ?_
  refine e_icmp_lt 19 (dec_at dX5_face 6) (by decide) (by omega) (by omega) (fun h10 => ?_) (fun h10 => ?_)
  · refine e_bipush (dec_at dX5_face 10) (by decide) ?_
    refine e_ireturn (dec_at dX5_face 11) rfl ?_
    exact Or.inl (⟨by omega, rfl, rfl⟩)
  · refine e_iload_n 1 (dec_at dX5_face 7) rfl rfl ?_
    refine e_bipush (dec_at dX5_face 8) (by decide) ?_
    refine e_icmp_le 22 (dec_at dX5_face 9) (by decide) (by omega) (by omega) (fun h16 => ?_) (fun h16 => ?_)
    · refine e_aload_n 0 (dec_at dX5_face 12) rfl rfl ?_
      refine e_getr 0 (dec_at dX5_face 13) flX5_12 rfl rfl ?_
      refine e_callVr (M' := mX3_isLost) (dec_at dX5_face 14) mlX5_39 c_isLost oX3_isLost iX3_isLost rfl rfl rfl rfl (by decide) (by decide) (Nat.le_of_ble_eq_true rfl) ?_
      refine e_beq 38 (dec_at dX5_face 15) (by decide) (fun h29 => ?_) (fun h29 => ?_)
      · refine e_aload_n 0 (dec_at dX5_face 20) rfl rfl ?_
        refine e_getr 0 (dec_at dX5_face 21) flX5_12 rfl rfl ?_
        refine e_geti 2 2 (dec_at dX5_face 22) flX5_46 rfl rfl rfl (fun r42 => ?_)
        refine e_iload_n 1 (dec_at dX5_face 23) rfl rfl ?_
        refine e_icmp_ge 55 (dec_at dX5_face 24) (by decide) (by omega) (by omega) (fun h46 => ?_) (fun h46 => ?_)
        · refine e_aload_n 0 (dec_at dX5_face 29) rfl rfl ?_
          refine e_getr 0 (dec_at dX5_face 30) flX5_12 rfl rfl ?_
          refine e_iload_n 1 (dec_at dX5_face 31) rfl rfl ?_
          refine e_iconst (dec_at dX5_face 32) ?_
          refine e_aload_n 2 (dec_at dX5_face 33) rfl rfl ?_
          refine e_geti 0 0 (dec_at dX5_face 34) flX5_60 rfl rfl rfl (fun r62 => ?_)
          refine e_iconst (dec_at dX5_face 35) ?_
          refine e_isub (dec_at dX5_face 36) ?_
          refine e_callVr (M' := mX3_hasNumbersWithin) (dec_at dX5_face 37) mlX5_56 (c_hasN n 0 (μ 11 0 0 - 1) (by omega) (by omega) (by decide) (by omega)) oX3_hasNumbersWithin iX3_hasNumbersWithin rfl rfl rfl rfl (by decide) (by decide) (Nat.le_of_ble_eq_true rfl) ?_
          refine e_bne 76 (dec_at dX5_face 38) (by decide) (fun h70 => ?_) (fun h70 => ?_)
          · refine e_aload_n 2 (dec_at dX5_face 41) rfl rfl ?_
            refine e_geti 1 1 (dec_at dX5_face 42) flX5_91 rfl rfl rfl (fun r77 => ?_)
            refine e_bipush (dec_at dX5_face 43) (by decide) ?_
            refine e_icmp_lt 88 (dec_at dX5_face 44) (by decide) (by omega) (by omega) (fun h82 => ?_) (fun h82 => ?_)
            · refine e_aload_n 2 (dec_at dX5_face 47) rfl rfl ?_
              refine e_aload_n 0 (dec_at dX5_face 48) rfl rfl ?_
              refine e_getr 0 (dec_at dX5_face 49) flX5_12 rfl rfl ?_
              refine e_getr 0 (dec_at dX5_face 50) flX5_65 rfl rfl ?_
              refine e_iload_n 1 (dec_at dX5_face 51) rfl rfl ?_
              refine e_callV (M' := mX2_addPlate) (dec_at dX5_face 52) mlX5_94 (c_addPlate (μ := μ) n (by omega) (by omega) (by omega)) oX2_addPlate iX2_addPlate rfl rfl rfl rfl (by decide) (by decide) (Nat.le_of_ble_eq_true rfl) (fun r ν hQ => ?_)
              obtain ⟨rfl, f, c1, c2, c3⟩ := hQ
              show Ev mX5_face 6 100 _ [] ν _
              refine e_aload_n 0 (dec_at dX5_face 53) rfl rfl ?_
              refine e_getr 1 (dec_at dX5_face 54) flX5_19 rfl rfl ?_
              refine e_callVv (M' := mX4_forgetShapes) (dec_at dX5_face 55) mlX5_73 c_forgetShapes oX4_forgetShapes iX4_forgetShapes rfl rfl rfl rfl (by decide) (by decide) (Nat.le_of_ble_eq_true rfl) ?_
              refine e_aload_n 2 (dec_at dX5_face 56) rfl rfl ?_
              refine e_getiv 1 1 (μ 11 0 1 + 1) (dec_at dX5_face 57) flX5_91 rfl rfl rfl (by rw [fgs _ _ _ (by decide)]; exact c1) (fun r108 => ?_)
              refine e_ireturn (dec_at dX5_face 58) rfl ?_
              have F : ∀ k l1 i, ¬ (l1 = 0 ∧ ((k = 14 ∨ k = 15) ∧ μ 13 0 (μ 11 0 1) ≤ i ∧ i < μ 13 0 (μ 11 0 1) + n ∨ k = 11 ∧ i = 1 ∨ k = 13 ∧ i = μ 11 0 1 + 1) ∨ k = 3) → (mset (mset (mset ν 3 0 4 0) 3 0 5 0) 3 0 6 0) k l1 i = μ k l1 i := fun k l1 i z => by rw [fgs _ _ _ (by omega)]; exact f k l1 i (by omega)
              have F1 : mset (mset (mset ν 3 0 4 0) 3 0 5 0) 3 0 6 0 11 0 1 = μ 11 0 1 + 1 := by rw [fgs _ _ _ (by decide)]; exact c1
              have F2 : mset (mset (mset ν 3 0 4 0) 3 0 5 0) 3 0 6 0 13 0 (μ 11 0 1 + 1) = μ 13 0 (μ 11 0 1) + n := by rw [fgs _ _ _ (by decide)]; exact c2
              have F3 : ∀ j, 0 ≤ j → j < n → mset (mset (mset ν 3 0 4 0) 3 0 5 0) 3 0 6 0 14 0 (μ 13 0 (μ 11 0 1) + j) = μ 2 0 j := fun j a0 a1 => by rw [fgs _ _ _ (by decide)]; exact (c3 j a0 a1).1
              have K := keep_face hI h6 (by omega) (by omega) F F1 F2 (fun j a0 a1 => by
                have z := h70 j a0 a1
                rw [F3 j a0 a1, fgs _ _ _ (by decide)]
                exact ⟨by omega, (c3 j a0 a1).2⟩) fgz
              exact Or.inr (Or.inr (Or.inr (Or.inr (Or.inr ⟨⟨by omega, by omega, h70, by omega⟩, rfl, F, F1, F2, F3, K.1, K.2⟩))))
            · refine e_bipush (dec_at dX5_face 45) (by decide) ?_
              refine e_ireturn (dec_at dX5_face 46) rfl ?_
              exact Or.inr (Or.inr (Or.inr (Or.inr (Or.inl (⟨⟨by omega, by omega, h70, by omega⟩, rfl, rfl⟩)))))
          · refine e_bipush (dec_at dX5_face 39) (by decide) ?_
            refine e_ireturn (dec_at dX5_face 40) rfl ?_
            exact Or.inr (Or.inr (Or.inr (Or.inl (⟨⟨by omega, by omega, h70⟩, rfl, rfl⟩))))
        · refine e_aload_n 0 (dec_at dX5_face 25) rfl rfl ?_
          refine e_iconst (dec_at dX5_face 26) ?_
          refine e_callVr (M' := mX5_fail) (dec_at dX5_face 27) mlX5_31 (c_fail 2 (by decide)) oX5_fail iX5_fail rfl rfl rfl rfl (by decide) (by decide) (Nat.le_of_ble_eq_true rfl) ?_
          refine e_ireturn (dec_at dX5_face 28) rfl ?_
          exact Or.inr (Or.inr (Or.inl (⟨by omega, rfl, rfl⟩)))
      · refine e_aload_n 0 (dec_at dX5_face 16) rfl rfl ?_
        refine e_iconst (dec_at dX5_face 17) ?_
        refine e_callVr (M' := mX5_fail) (dec_at dX5_face 18) mlX5_31 (c_fail 1 (by decide)) oX5_fail iX5_fail rfl rfl rfl rfl (by decide) (by decide) (Nat.le_of_ble_eq_true rfl) ?_
        refine e_ireturn (dec_at dX5_face 19) rfl ?_
        exact Or.inr (Or.inl (⟨by omega, rfl, rfl⟩))
    · refine e_bipush (dec_at dX5_face 10) (by decide) ?_
      refine e_ireturn (dec_at dX5_face 11) rfl ?_
      exact Or.inl (⟨by omega, rfl, rfl⟩)

set_option maxRecDepth 100000 in
set_option maxHeartbeats 4000000 in
theorem x_undo {μ : Mm} (hI : XI μ) (h6 : P6 μ) : Mc mX5_undo 6 [vR 0 0] μ (fun r ν => (μ 11 0 1 = 0 ∧ r = some (vI (-103)) ∧ ν = μ) ∨ (μ 11 0 1 ≠ 0 ∧ r = some (vI (μ 11 0 1 - 1)) ∧ (∀ k l1 i, ¬ (l1 = 0 ∧ k = 11 ∧ i = 1 ∨ k = 3) → ν k l1 i = μ k l1 i) ∧ ν 11 0 1 = μ 11 0 1 - 1 ∧ XI ν ∧ P6 ν)) := by
  refine Mc.of (L := [some (vR 0 0), none]) (by decide +kernel) (by simp [leL, entA, isLong, mX5_undo]) (by simp [entA, isLong, mX5_undo]) ?_
  have hb := hI.1.un
  refine e_aload_n 0 (dec_at dX5_undo 0) rfl rfl ?_
  refine e_getr 1 (dec_at dX5_undo 1) flX5_19 rfl rfl ?_
  refine e_getr 1 (dec_at dX5_undo 2) flX5_52 rfl rfl ?_
  refine e_as1 (dec_at dX5_undo 3) (by decide) rfl ?_
  refine e_aload_n 1 (dec_at dX5_undo 4) rfl rfl ?_
  refine e_geti 1 1 (dec_at dX5_undo 5) flX5_91 rfl rfl rfl (fun r9 => ?_)
  refine e_if_ne 18 (dec_at dX5_undo 6) (by decide) (by omega) (fun h12 => ?_) (fun h12 => ?_)
  · refine e_aload_n 1 (dec_at dX5_undo 9) rfl rfl ?_
    refine e_dup (dec_at dX5_undo 10) rfl ?_
    refine e_geti 1 1 (dec_at dX5_undo 11) flX5_91 rfl rfl rfl (fun r20 => ?_)
    refine e_iconst (dec_at dX5_undo 12) ?_
    refine e_isub (dec_at dX5_undo 13) ?_
    refine e_put 1 1 (dec_at dX5_undo 14) flX5_91 fpX2_1 rfl rfl rfl (by omega) (fit_int _) ?_
    refine e_aload_n 0 (dec_at dX5_undo 15) rfl rfl ?_
    refine e_getr 1 (dec_at dX5_undo 16) flX5_19 rfl rfl ?_
    refine e_callVv (M' := mX4_forgetShapes) (dec_at dX5_undo 17) mlX5_73 c_forgetShapes oX4_forgetShapes iX4_forgetShapes rfl rfl rfl rfl (by decide) (by decide) (Nat.le_of_ble_eq_true rfl) ?_
    refine e_aload_n 1 (dec_at dX5_undo 18) rfl rfl ?_
    refine e_getiv 1 1 (μ 11 0 1 - 1) (dec_at dX5_undo 19) flX5_91 rfl rfl rfl (by rw [fgs _ _ _ (by decide)]; exact mset_eq) (fun r36 => ?_)
    refine e_ireturn (dec_at dX5_undo 20) rfl ?_
    have F : ∀ k l1 i, ¬ (l1 = 0 ∧ k = 11 ∧ i = 1 ∨ k = 3) → mset (mset (mset (mset μ 11 0 1 (μ 11 0 1 - 1)) 3 0 4 0) 3 0 5 0) 3 0 6 0 k l1 i = μ k l1 i := fun k l1 i z => by rw [fgs _ _ _ (by omega), mset_ne (by omega)]
    have F1 : mset (mset (mset (mset μ 11 0 1 (μ 11 0 1 - 1)) 3 0 4 0) 3 0 5 0) 3 0 6 0 11 0 1 = μ 11 0 1 - 1 := by rw [fgs _ _ _ (by decide)]; exact mset_eq
    have K := keep_undo hI h6 (by omega) F F1 fgz
    exact Or.inr ⟨by omega, rfl, F, F1, K.1, K.2⟩
  · refine e_bipush (dec_at dX5_undo 7) (by decide) ?_
    refine e_ireturn (dec_at dX5_undo 8) rfl ?_
    exact Or.inl (⟨by omega, rfl, rfl⟩)

set_option maxRecDepth 100000 in
set_option maxHeartbeats 4000000 in
theorem x_turn {μ : Mm} (g : Int) (hg : inR g) (hI : XI μ) (h6 : P6 μ) : Mc mX5_turn 6 [vR 0 0, vI g] μ (fun r ν => (¬ (0 ≤ g ∧ g < μ 11 0 1) ∧ r = some (vI (-101)) ∧ ν = μ) ∨ ((0 ≤ g ∧ g < μ 11 0 1) ∧ r = some (vI (1)) ∧ (∀ k l1 i, ¬ (k = 14 ∧ l1 = 0 ∧ μ 13 0 g + 1 ≤ i ∧ i ≤ μ 13 0 (g + 1) - 1 ∨ k = 3) → ν k l1 i = μ k l1 i) ∧ (∀ i, μ 13 0 g + 1 ≤ i → i ≤ μ 13 0 (g + 1) - 1 → ν 14 0 i = μ 14 0 (μ 13 0 g + 1 + (μ 13 0 (g + 1) - 1) - i)) ∧ XI ν ∧ P6 ν)) := by
  refine Mc.of (L := [some (vR 0 0), some (vI g), none]) (by decide +kernel) (by simp [leL, entA, isLong, mX5_turn]) (by simp [entA, isLong, mX5_turn]) ?_
  have hb := hI.1.un
  refine e_aload_n 0 (dec_at dX5_turn 0) rfl rfl ?_
  refine e_getr 1 (dec_at dX5_turn 1) flX5_19 rfl rfl ?_
  refine e_getr 1 (dec_at dX5_turn 2) flX5_52 rfl rfl ?_
  refine e_as2 (dec_at dX5_turn 3) (by decide) rfl ?_
  refine e_aload_n 2 (dec_at dX5_turn 4) rfl rfl ?_
  refine e_iload_n 1 (dec_at dX5_turn 5) rfl rfl ?_
  refine e_callVr (M' := mX2_hasPlate) (dec_at dX5_turn 6) mlX5_98 (c_hasPlate (μ := μ) 0 g hg) oX2_hasPlate iX2_hasPlate rfl rfl rfl rfl (by decide) (by decide) (Nat.le_of_ble_eq_true rfl) ?_
  refine e_bne 19 (dec_at dX5_turn 7) (by decide) (fun h13 => ?_) (fun h13 => ?_)
  · have hf := hI.1.nb.2.2.2.1 g h13.1 h13.2
    have hf3 := hb.2.2.2.1 g h13.1 h13.2
    refine e_aload_n 2 (dec_at dX5_turn 10) rfl rfl ?_
    refine e_iload_n 1 (dec_at dX5_turn 11) rfl rfl ?_
    refine e_callV (M' := mX2_turnPlate) (dec_at dX5_turn 12) mlX5_101 (c_turnPlate (μ := μ) g (by omega) (by omega) (by omega) (by omega)) oX2_turnPlate iX2_turnPlate rfl rfl rfl rfl (by decide) (by decide) (Nat.le_of_ble_eq_true rfl) (fun r ν hQ => ?_)
    obtain ⟨rfl, f, c1⟩ := hQ
    show Ev mX5_turn 6 24 _ [] ν _
    refine e_aload_n 0 (dec_at dX5_turn 13) rfl rfl ?_
    refine e_getr 1 (dec_at dX5_turn 14) flX5_19 rfl rfl ?_
    refine e_callVv (M' := mX4_forgetShapes) (dec_at dX5_turn 15) mlX5_73 c_forgetShapes oX4_forgetShapes iX4_forgetShapes rfl rfl rfl rfl (by decide) (by decide) (Nat.le_of_ble_eq_true rfl) ?_
    refine e_iconst (dec_at dX5_turn 16) ?_
    refine e_ireturn (dec_at dX5_turn 17) rfl ?_
    have F : ∀ k l1 i, ¬ (k = 14 ∧ l1 = 0 ∧ μ 13 0 g + 1 ≤ i ∧ i ≤ μ 13 0 (g + 1) - 1 ∨ k = 3) → (mset (mset (mset ν 3 0 4 0) 3 0 5 0) 3 0 6 0) k l1 i = μ k l1 i := fun k l1 i z => by rw [fgs _ _ _ (by omega)]; exact f k l1 i (by omega)
    have F1 : ∀ i, μ 13 0 g + 1 ≤ i → i ≤ μ 13 0 (g + 1) - 1 → (mset (mset (mset ν 3 0 4 0) 3 0 5 0) 3 0 6 0) 14 0 i = μ 14 0 (μ 13 0 g + 1 + (μ 13 0 (g + 1) - 1) - i) := fun i i0 i1 => by rw [fgs _ _ _ (by decide)]; exact c1 i i0 i1
    have K := keep_turn hI h6 (by omega) F F1 fgz
    exact Or.inr ⟨by omega, rfl, F, F1, K.1, K.2⟩
  · refine e_bipush (dec_at dX5_turn 8) (by decide) ?_
    refine e_ireturn (dec_at dX5_turn 9) rfl ?_
    exact Or.inl (⟨by omega, rfl, rfl⟩)

set_option maxRecDepth 100000 in
set_option maxHeartbeats 4000000 in
theorem x_clear {μ : Mm} (hI : XI μ) : Mc mX5_clear 6 [vR 0 0] μ (fun r ν => r = some (vI (μ 11 0 0)) ∧ (∀ k l1 i, ¬ (l1 = 0 ∧ k = 11 ∧ (i = 0 ∨ i = 1) ∨ k = 7 ∨ k = 3) → ν k l1 i = μ k l1 i) ∧ ν 11 0 0 = 0 ∧ ν 11 0 1 = 0 ∧ ν 7 0 3 = 0 ∧ XI ν ∧ P6 ν) := by
  refine Mc.of (L := [some (vR 0 0), none, none]) (by decide +kernel) (by simp [leL, entA, isLong, mX5_clear]) (by simp [entA, isLong, mX5_clear]) ?_
  refine e_aload_n 0 (dec_at dX5_clear 0) rfl rfl ?_
  refine e_getr 1 (dec_at dX5_clear 1) flX5_19 rfl rfl ?_
  refine e_getr 1 (dec_at dX5_clear 2) flX5_52 rfl rfl ?_
  refine e_as1 (dec_at dX5_clear 3) (by decide) rfl ?_
  refine e_aload_n 1 (dec_at dX5_clear 4) rfl rfl ?_
  refine e_geti 0 0 (dec_at dX5_clear 5) flX5_60 rfl rfl rfl (fun r9 => ?_)
  refine e_is2 (dec_at dX5_clear 6) (by decide) rfl ?_
  refine e_aload_n 1 (dec_at dX5_clear 7) rfl rfl ?_
  refine e_iconst (dec_at dX5_clear 8) ?_
  refine e_put 0 0 (dec_at dX5_clear 9) flX5_60 fpX2_0 rfl rfl rfl (by omega) (fit_int _) ?_
  refine e_aload_n 1 (dec_at dX5_clear 10) rfl rfl ?_
  refine e_iconst (dec_at dX5_clear 11) ?_
  refine e_put 1 1 (dec_at dX5_clear 12) flX5_91 fpX2_1 rfl rfl rfl (by omega) (fit_int _) ?_
  refine e_aload_n 0 (dec_at dX5_clear 13) rfl rfl ?_
  refine e_getr 1 (dec_at dX5_clear 14) flX5_19 rfl rfl ?_
  refine e_getr 3 (dec_at dX5_clear 15) flX5_104 rfl rfl ?_
  refine e_iconst (dec_at dX5_clear 16) ?_
  refine e_put 3 3 (dec_at dX5_clear 17) flX5_108 fpX1_3 rfl rfl rfl (by omega) (fit_int _) ?_
  refine e_aload_n 0 (dec_at dX5_clear 18) rfl rfl ?_
  refine e_getr 1 (dec_at dX5_clear 19) flX5_19 rfl rfl ?_
  refine e_callVv (M' := mX4_forgetShapes) (dec_at dX5_clear 20) mlX5_73 c_forgetShapes oX4_forgetShapes iX4_forgetShapes rfl rfl rfl rfl (by decide) (by decide) (Nat.le_of_ble_eq_true rfl) ?_
  refine e_iload_n 2 (dec_at dX5_clear 21) rfl rfl ?_
  refine e_ireturn (dec_at dX5_clear 22) rfl ?_
  have F : ∀ k l1 i, ¬ (l1 = 0 ∧ k = 11 ∧ (i = 0 ∨ i = 1) ∨ k = 7 ∨ k = 3) → (mset (mset (mset (mset (mset (mset μ 11 0 0 0) 11 0 1 0) 7 0 3 0) 3 0 4 0) 3 0 5 0) 3 0 6 0) k l1 i = μ k l1 i := fun k l1 i z => by rw [fgs _ _ _ (by omega), mset_ne (by omega), mset_ne (by omega), mset_ne (by omega)]
  have F0 : mset (mset (mset (mset (mset (mset μ 11 0 0 0) 11 0 1 0) 7 0 3 0) 3 0 4 0) 3 0 5 0) 3 0 6 0 11 0 0 = 0 := by rw [fgs _ _ _ (by decide), mset_k (by decide), mset_i (by decide)]; exact mset_eq
  have F1 : mset (mset (mset (mset (mset (mset μ 11 0 0 0) 11 0 1 0) 7 0 3 0) 3 0 4 0) 3 0 5 0) 3 0 6 0 11 0 1 = 0 := by rw [fgs _ _ _ (by decide), mset_k (by decide)]; exact mset_eq
  have F7 : mset (mset (mset (mset (mset (mset μ 11 0 0 0) 11 0 1 0) 7 0 3 0) 3 0 4 0) 3 0 5 0) 3 0 6 0 7 0 3 = 0 := by rw [fgs _ _ _ (by decide)]; exact mset_eq
  have K := keep_clear hI F F0 F1 F7 fgz
  exact ⟨rfl, F, F0, F1, F7, K.1, K.2⟩

noncomputable def movedA (μ : Mm) (l c a : Int) : Int := if ¬ ((1 ≤ l ∧ l < 4 ∧ 0 ≤ c ∧ c ≤ 1000) ∧ (0 ≤ a ∧ a < 3)) then 0 else mvx μ l c a
def countA (μ : Mm) (w : Int) : Int := if w = 0 then μ 11 0 0 else if w = 1 then μ 11 0 1 else if w = 2 then μ 7 0 3 else if w = 3 then μ 1 0 2 else -102

set_option maxRecDepth 100000 in
set_option maxHeartbeats 4000000 in
theorem x_moved {μ : Mm} (l c a : Int) (hl : inR l) (hc : inR c) (ha : inR a) (hM : Mv μ) : Mc mX5_moved 6 [vR 0 0, vI l, vI c, vI a] μ (Rt (some (vI (movedA μ l c a))) μ) := by
  refine Mc.of (L := [some (vR 0 0), some (vI l), some (vI c), some (vI a), none]) (by decide +kernel) (by simp [leL, entA, isLong, mX5_moved]) (by simp [entA, isLong, mX5_moved]) ?_
  have hM1 := hM.1
  refine e_iload_n 1 (dec_at dX5_moved 0) rfl rfl ?_
  refine e_iload_n 2 (dec_at dX5_moved 1) rfl rfl ?_
  refine e_callSr (M' := mX5_isMovable) (dec_at dX5_moved 2) mlX5_193 (c_isMovable l c hl hc) oX5_isMovable sX5_isMovable rfl rfl (by decide) (by decide) (Nat.le_of_ble_eq_true rfl) ?_
  refine e_beq 15 (dec_at dX5_moved 3) (by decide) (fun h5 => ?_) (fun h5 => ?_)
  · refine e_iconst (dec_at dX5_moved 7) ?_
    refine e_ireturn (dec_at dX5_moved 8) rfl ?_
    refine ⟨congrArg (fun z => some (vI z)) ?_, rfl⟩
    unfold movedA
    exact (if_pos (by omega)).symm
  · refine e_iload_n 3 (dec_at dX5_moved 4) rfl rfl ?_
    refine e_callSr (M' := mX5_isAxis) (dec_at dX5_moved 5) mlX5_79 (c_isAxis a ha) oX5_isAxis sX5_isAxis rfl rfl (by decide) (by decide) (Nat.le_of_ble_eq_true rfl) ?_
    refine e_bne 17 (dec_at dX5_moved 6) (by decide) (fun h12 => ?_) (fun h12 => ?_)
    · refine e_aload_n 0 (dec_at dX5_moved 9) rfl rfl ?_
      refine e_getr 1 (dec_at dX5_moved 10) flX5_19 rfl rfl ?_
      refine e_getr 3 (dec_at dX5_moved 11) flX5_104 rfl rfl ?_
      refine e_iload_n 1 (dec_at dX5_moved 12) rfl rfl ?_
      refine e_iload_n 2 (dec_at dX5_moved 13) rfl rfl ?_
      refine e_callV (M' := mX1_find) (dec_at dX5_moved 14) mlX5_205 (c_find (μ := μ) l c hM (by omega) (by omega)) oX1_find iX1_find rfl rfl rfl rfl (by decide) (by decide) (Nat.le_of_ble_eq_true rfl) (fun r ν hQ => ?_)
      obtain ⟨rfl, v, rfl, hv⟩ := hQ
      have hv2 : (0 ≤ v ∧ v < ν 7 0 3) ∨ v = -1 := hv.imp (fun z => z.1) (fun z => z.1)
      show Ev mX5_moved 6 29 _ [vI v] ν _
      refine e_is4 (dec_at dX5_moved 15) (by decide) rfl ?_
      refine e_iload (dec_at dX5_moved 16) rfl ?_
      refine e_iconst (dec_at dX5_moved 17) ?_
      refine e_icmp_ne 41 (dec_at dX5_moved 18) (by decide) (by omega) (by omega) (fun h34 => ?_) (fun h34 => ?_)
      · refine e_aload_n 0 (dec_at dX5_moved 21) rfl rfl ?_
        refine e_getr 1 (dec_at dX5_moved 22) flX5_19 rfl rfl ?_
        refine e_getr 3 (dec_at dX5_moved 23) flX5_104 rfl rfl ?_
        refine e_getr 2 (dec_at dX5_moved 24) flX5_208 rfl rfl ?_
        refine e_iconst (dec_at dX5_moved 25) ?_
        refine e_iload (dec_at dX5_moved 26) rfl ?_
        refine e_imul (dec_at dX5_moved 27) ?_
        refine e_iload_n 3 (dec_at dX5_moved 28) rfl rfl ?_
        refine e_iadd (dec_at dX5_moved 29) ?_
        refine e_iald (dec_at dX5_moved 30) rfl (by decide) (aLk_10 _) (by omega) (fun r57 => ?_)
        refine e_ireturn (dec_at dX5_moved 31) rfl ?_
        refine ⟨congrArg (fun z => some (vI z)) ?_, rfl⟩
        unfold movedA
        refine Eq.trans ?_ (if_neg (by omega)).symm
        rcases hv with hv | hv
        · first | (exfalso; omega) | exact (mvx_at hM hv a).symm
        · first | (exfalso; omega) | exact (mvx_no (fun ⟨i, hi⟩ => hv.2 i hi.1.1 hi.1.2 hi.2) a).symm
      · refine e_iconst (dec_at dX5_moved 19) ?_
        refine e_goto 58 (dec_at dX5_moved 20) (by decide) ?_
        refine e_ireturn (dec_at dX5_moved 31) rfl ?_
        refine ⟨congrArg (fun z => some (vI z)) ?_, rfl⟩
        unfold movedA
        refine Eq.trans ?_ (if_neg (by omega)).symm
        rcases hv with hv | hv
        · first | (exfalso; omega) | exact (mvx_at hM hv a).symm
        · first | (exfalso; omega) | exact (mvx_no (fun ⟨i, hi⟩ => hv.2 i hi.1.1 hi.1.2 hi.2) a).symm
    · refine e_iconst (dec_at dX5_moved 7) ?_
      refine e_ireturn (dec_at dX5_moved 8) rfl ?_
      refine ⟨congrArg (fun z => some (vI z)) ?_, rfl⟩
      unfold movedA
      exact (if_pos (by omega)).symm

set_option maxRecDepth 100000 in
set_option maxHeartbeats 4000000 in
theorem x_cause {μ : Mm} : Mc mX5_cause 6 [vR 0 0] μ (Rt (some (vI (μ 0 0 2))) μ) := by
  refine Mc.of (L := [some (vR 0 0)]) (by decide +kernel) (by simp [leL, entA, isLong, mX5_cause]) (by simp [entA, isLong, mX5_cause]) ?_
  refine e_aload_n 0 (dec_at dX5_cause 0) rfl rfl ?_
  refine e_geti 2 2 (dec_at dX5_cause 1) flX5_23 rfl rfl rfl (fun r1 => ?_)
  refine e_ireturn (dec_at dX5_cause 2) rfl ?_
  exact ⟨rfl, rfl⟩

set_option maxRecDepth 100000 in
set_option maxHeartbeats 4000000 in
theorem x_count {μ : Mm} (w : Int) (hw : inR w) : Mc mX5_count 6 [vR 0 0, vI w] μ (Rt (some (vI (countA μ w))) μ) := by
  refine Mc.of (L := [some (vR 0 0), some (vI w)]) (by decide +kernel) (by simp [leL, entA, isLong, mX5_count]) (by simp [entA, isLong, mX5_count]) ?_
  refine e_iload_n 1 (dec_at dX5_count 0) rfl rfl ?_
  rcases (show w = 0 ∨ w = 1 ∨ w = 2 ∨ w = 3 ∨ ¬ (0 ≤ w ∧ w ≤ 3) by omega) with rfl | rfl | rfl | rfl | hw0
  · refine e_tableIn 32 (dec_at dX5_count 1) (by decide) (by decide) (by decide) rfl (by decide) ?_
    refine e_aload_n 0 (dec_at dX5_count 2) rfl rfl ?_
    refine e_getr 1 (dec_at dX5_count 3) flX5_19 rfl rfl ?_
    refine e_getr 1 (dec_at dX5_count 4) flX5_52 rfl rfl ?_
    refine e_geti 0 0 (dec_at dX5_count 5) flX5_60 rfl rfl rfl (fun r39 => ?_)
    refine e_ireturn (dec_at dX5_count 6) rfl ?_
    refine ⟨congrArg (fun z => some (vI z)) ?_, rfl⟩
    unfold countA
    exact (if_pos (by omega)).symm
  · refine e_tableIn 43 (dec_at dX5_count 1) (by decide) (by decide) (by decide) rfl (by decide) ?_
    refine e_aload_n 0 (dec_at dX5_count 7) rfl rfl ?_
    refine e_getr 1 (dec_at dX5_count 8) flX5_19 rfl rfl ?_
    refine e_getr 1 (dec_at dX5_count 9) flX5_52 rfl rfl ?_
    refine e_geti 1 1 (dec_at dX5_count 10) flX5_91 rfl rfl rfl (fun r50 => ?_)
    refine e_ireturn (dec_at dX5_count 11) rfl ?_
    refine ⟨congrArg (fun z => some (vI z)) ?_, rfl⟩
    unfold countA
    refine Eq.trans ?_ (if_neg (by omega)).symm
    exact (if_pos (by omega)).symm
  · refine e_tableIn 54 (dec_at dX5_count 1) (by decide) (by decide) (by decide) rfl (by decide) ?_
    refine e_aload_n 0 (dec_at dX5_count 12) rfl rfl ?_
    refine e_getr 1 (dec_at dX5_count 13) flX5_19 rfl rfl ?_
    refine e_getr 3 (dec_at dX5_count 14) flX5_104 rfl rfl ?_
    refine e_geti 3 3 (dec_at dX5_count 15) flX5_108 rfl rfl rfl (fun r61 => ?_)
    refine e_ireturn (dec_at dX5_count 16) rfl ?_
    refine ⟨congrArg (fun z => some (vI z)) ?_, rfl⟩
    unfold countA
    refine Eq.trans ?_ (if_neg (by omega)).symm
    refine Eq.trans ?_ (if_neg (by omega)).symm
    exact (if_pos (by omega)).symm
  · refine e_tableIn 65 (dec_at dX5_count 1) (by decide) (by decide) (by decide) rfl (by decide) ?_
    refine e_aload_n 0 (dec_at dX5_count 17) rfl rfl ?_
    refine e_getr 0 (dec_at dX5_count 18) flX5_12 rfl rfl ?_
    refine e_geti 2 2 (dec_at dX5_count 19) flX5_46 rfl rfl rfl (fun r69 => ?_)
    refine e_ireturn (dec_at dX5_count 20) rfl ?_
    refine ⟨congrArg (fun z => some (vI z)) ?_, rfl⟩
    unfold countA
    refine Eq.trans ?_ (if_neg (by omega)).symm
    refine Eq.trans ?_ (if_neg (by omega)).symm
    refine Eq.trans ?_ (if_neg (by omega)).symm
    exact (if_pos (by omega)).symm
  · refine e_tableOut 73 (dec_at dX5_count 1) (by omega) (by omega) (by decide) ?_
    refine e_bipush (dec_at dX5_count 21) (by decide) ?_
    refine e_ireturn (dec_at dX5_count 22) rfl ?_
    refine ⟨congrArg (fun z => some (vI z)) ?_, rfl⟩
    unfold countA
    refine Eq.trans ?_ (if_neg (by omega)).symm
    refine Eq.trans ?_ (if_neg (by omega)).symm
    refine Eq.trans ?_ (if_neg (by omega)).symm
    refine Eq.trans ?_ (if_neg (by omega)).symm
    rfl
