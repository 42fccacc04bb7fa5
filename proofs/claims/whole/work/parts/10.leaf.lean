set_option maxRecDepth 100000 in
set_option maxHeartbeats 4000000 in
theorem c_isLane {μ : Mm} (a : Int) (ha : inR a) : Mc mX5_isLane 0 [vI a] μ (Rt (some (vI (b01 (0 ≤ a ∧ a < 3)))) μ) := by
  refine Mc.of (L := [some (vI a)]) (by decide +kernel) (by simp [leL, entA, isLong, mX5_isLane]) (by simp [entA, isLong, mX5_isLane]) ?_
  refine e_iload_n 0 (dec_at dX5_isLane 0) rfl rfl ?_
  refine e_if_lt 13 (dec_at dX5_isLane 1) (by decide) (by omega) (fun h1 => ?_) (fun h1 => ?_)
  · refine e_iconst (dec_at dX5_isLane 7) ?_
    refine e_zreturn (dec_at dX5_isLane 8) rfl (by first | exact Or.inl rfl | exact Or.inr rfl | exact b01_or) ?_
    first | exact rt1 (by omega) | exact rt0 (by omega)
  · refine e_iload_n 0 (dec_at dX5_isLane 2) rfl rfl ?_
    refine e_iconst (dec_at dX5_isLane 3) ?_
    refine e_icmp_ge 13 (dec_at dX5_isLane 4) (by decide) (by omega) (by omega) (fun h6 => ?_) (fun h6 => ?_)
    · refine e_iconst (dec_at dX5_isLane 7) ?_
      refine e_zreturn (dec_at dX5_isLane 8) rfl (by first | exact Or.inl rfl | exact Or.inr rfl | exact b01_or) ?_
      first | exact rt1 (by omega) | exact rt0 (by omega)
    · refine e_iconst (dec_at dX5_isLane 5) ?_
      refine e_goto 14 (dec_at dX5_isLane 6) (by decide) ?_
      refine e_zreturn (dec_at dX5_isLane 8) rfl (by first | exact Or.inl rfl | exact Or.inr rfl | exact b01_or) ?_
      first | exact rt1 (by omega) | exact rt0 (by omega)

set_option maxRecDepth 100000 in
set_option maxHeartbeats 4000000 in
theorem c_isAxis {μ : Mm} (a : Int) (ha : inR a) : Mc mX5_isAxis 0 [vI a] μ (Rt (some (vI (b01 (0 ≤ a ∧ a < 3)))) μ) := by
  refine Mc.of (L := [some (vI a)]) (by decide +kernel) (by simp [leL, entA, isLong, mX5_isAxis]) (by simp [entA, isLong, mX5_isAxis]) ?_
  refine e_iload_n 0 (dec_at dX5_isAxis 0) rfl rfl ?_
  refine e_if_lt 13 (dec_at dX5_isAxis 1) (by decide) (by omega) (fun h1 => ?_) (fun h1 => ?_)
  · refine e_iconst (dec_at dX5_isAxis 7) ?_
    refine e_zreturn (dec_at dX5_isAxis 8) rfl (by first | exact Or.inl rfl | exact Or.inr rfl | exact b01_or) ?_
    first | exact rt1 (by omega) | exact rt0 (by omega)
  · refine e_iload_n 0 (dec_at dX5_isAxis 2) rfl rfl ?_
    refine e_iconst (dec_at dX5_isAxis 3) ?_
    refine e_icmp_ge 13 (dec_at dX5_isAxis 4) (by decide) (by omega) (by omega) (fun h6 => ?_) (fun h6 => ?_)
    · refine e_iconst (dec_at dX5_isAxis 7) ?_
      refine e_zreturn (dec_at dX5_isAxis 8) rfl (by first | exact Or.inl rfl | exact Or.inr rfl | exact b01_or) ?_
      first | exact rt1 (by omega) | exact rt0 (by omega)
    · refine e_iconst (dec_at dX5_isAxis 5) ?_
      refine e_goto 14 (dec_at dX5_isAxis 6) (by decide) ?_
      refine e_zreturn (dec_at dX5_isAxis 8) rfl (by first | exact Or.inl rfl | exact Or.inr rfl | exact b01_or) ?_
      first | exact rt1 (by omega) | exact rt0 (by omega)

set_option maxRecDepth 100000 in
set_option maxHeartbeats 4000000 in
theorem c_isSide {μ : Mm} (a : Int) (ha : inR a) : Mc mX5_isSide 0 [vI a] μ (Rt (some (vI (b01 (a = 0 ∨ a = 1)))) μ) := by
  refine Mc.of (L := [some (vI a)]) (by decide +kernel) (by simp [leL, entA, isLong, mX5_isSide]) (by simp [entA, isLong, mX5_isSide]) ?_
  refine e_iload_n 0 (dec_at dX5_isSide 0) rfl rfl ?_
  refine e_if_eq 9 (dec_at dX5_isSide 1) (by decide) (by omega) (fun h1 => ?_) (fun h1 => ?_)
  · refine e_iconst (dec_at dX5_isSide 5) ?_
    refine e_goto 14 (dec_at dX5_isSide 6) (by decide) ?_
    refine e_zreturn (dec_at dX5_isSide 8) rfl (by first | exact Or.inl rfl | exact Or.inr rfl | exact b01_or) ?_
    first | exact rt1 (by omega) | exact rt0 (by omega)
  · refine e_iload_n 0 (dec_at dX5_isSide 2) rfl rfl ?_
    refine e_iconst (dec_at dX5_isSide 3) ?_
    refine e_icmp_ne 13 (dec_at dX5_isSide 4) (by decide) (by omega) (by omega) (fun h6 => ?_) (fun h6 => ?_)
    · refine e_iconst (dec_at dX5_isSide 7) ?_
      refine e_zreturn (dec_at dX5_isSide 8) rfl (by first | exact Or.inl rfl | exact Or.inr rfl | exact b01_or) ?_
      first | exact rt1 (by omega) | exact rt0 (by omega)
    · refine e_iconst (dec_at dX5_isSide 5) ?_
      refine e_goto 14 (dec_at dX5_isSide 6) (by decide) ?_
      refine e_zreturn (dec_at dX5_isSide 8) rfl (by first | exact Or.inl rfl | exact Or.inr rfl | exact b01_or) ?_
      first | exact rt1 (by omega) | exact rt0 (by omega)

set_option maxRecDepth 100000 in
set_option maxHeartbeats 4000000 in
theorem c_isLevel {μ : Mm} (a : Int) (ha : inR a) : Mc mX5_isLevel 0 [vI a] μ (Rt (some (vI (b01 (0 ≤ a ∧ a < 4)))) μ) := by
  refine Mc.of (L := [some (vI a)]) (by decide +kernel) (by simp [leL, entA, isLong, mX5_isLevel]) (by simp [entA, isLong, mX5_isLevel]) ?_
  refine e_iload_n 0 (dec_at dX5_isLevel 0) rfl rfl ?_
  refine e_if_lt 13 (dec_at dX5_isLevel 1) (by decide) (by omega) (fun h1 => ?_) (fun h1 => ?_)
  · refine e_iconst (dec_at dX5_isLevel 7) ?_
    refine e_zreturn (dec_at dX5_isLevel 8) rfl (by first | exact Or.inl rfl | exact Or.inr rfl | exact b01_or) ?_
    first | exact rt1 (by omega) | exact rt0 (by omega)
  · refine e_iload_n 0 (dec_at dX5_isLevel 2) rfl rfl ?_
    refine e_iconst (dec_at dX5_isLevel 3) ?_
    refine e_icmp_ge 13 (dec_at dX5_isLevel 4) (by decide) (by omega) (by omega) (fun h6 => ?_) (fun h6 => ?_)
    · refine e_iconst (dec_at dX5_isLevel 7) ?_
      refine e_zreturn (dec_at dX5_isLevel 8) rfl (by first | exact Or.inl rfl | exact Or.inr rfl | exact b01_or) ?_
      first | exact rt1 (by omega) | exact rt0 (by omega)
    · refine e_iconst (dec_at dX5_isLevel 5) ?_
      refine e_goto 14 (dec_at dX5_isLevel 6) (by decide) ?_
      refine e_zreturn (dec_at dX5_isLevel 8) rfl (by first | exact Or.inl rfl | exact Or.inr rfl | exact b01_or) ?_
      first | exact rt1 (by omega) | exact rt0 (by omega)

set_option maxRecDepth 100000 in
set_option maxHeartbeats 4000000 in
theorem c_isMovable {μ : Mm} (a c : Int) (ha : inR a) (hc : inR c) : Mc mX5_isMovable 0 [vI a, vI c] μ (Rt (some (vI (b01 (1 ≤ a ∧ a < 4 ∧ 0 ≤ c ∧ c ≤ 1000)))) μ) := by
  refine Mc.of (L := [some (vI a), some (vI c)]) (by decide +kernel) (by simp [leL, entA, isLong, mX5_isMovable]) (by simp [entA, isLong, mX5_isMovable]) ?_
  refine e_iload_n 0 (dec_at dX5_isMovable 0) rfl rfl ?_
  refine e_iconst (dec_at dX5_isMovable 1) ?_
  refine e_icmp_lt 25 (dec_at dX5_isMovable 2) (by decide) (by omega) (by omega) (fun h2 => ?_) (fun h2 => ?_)
  · refine e_iconst (dec_at dX5_isMovable 13) ?_
    refine e_zreturn (dec_at dX5_isMovable 14) rfl (by first | exact Or.inl rfl | exact Or.inr rfl | exact b01_or) ?_
    first | exact rt1 (by omega) | exact rt0 (by omega)
  · refine e_iload_n 0 (dec_at dX5_isMovable 3) rfl rfl ?_
    refine e_iconst (dec_at dX5_isMovable 4) ?_
    refine e_icmp_ge 25 (dec_at dX5_isMovable 5) (by decide) (by omega) (by omega) (fun h7 => ?_) (fun h7 => ?_)
    · refine e_iconst (dec_at dX5_isMovable 13) ?_
      refine e_zreturn (dec_at dX5_isMovable 14) rfl (by first | exact Or.inl rfl | exact Or.inr rfl | exact b01_or) ?_
      first | exact rt1 (by omega) | exact rt0 (by omega)
    · refine e_iload_n 1 (dec_at dX5_isMovable 6) rfl rfl ?_
      refine e_if_lt 25 (dec_at dX5_isMovable 7) (by decide) (by omega) (fun h11 => ?_) (fun h11 => ?_)
      · refine e_iconst (dec_at dX5_isMovable 13) ?_
        refine e_zreturn (dec_at dX5_isMovable 14) rfl (by first | exact Or.inl rfl | exact Or.inr rfl | exact b01_or) ?_
        first | exact rt1 (by omega) | exact rt0 (by omega)
      · refine e_iload_n 1 (dec_at dX5_isMovable 8) rfl rfl ?_
        refine e_sipush (dec_at dX5_isMovable 9) (by decide) ?_
        refine e_icmp_gt 25 (dec_at dX5_isMovable 10) (by decide) (by omega) (by omega) (fun h18 => ?_) (fun h18 => ?_)
        · refine e_iconst (dec_at dX5_isMovable 13) ?_
          refine e_zreturn (dec_at dX5_isMovable 14) rfl (by first | exact Or.inl rfl | exact Or.inr rfl | exact b01_or) ?_
          first | exact rt1 (by omega) | exact rt0 (by omega)
        · refine e_iconst (dec_at dX5_isMovable 11) ?_
          refine e_goto 26 (dec_at dX5_isMovable 12) (by decide) ?_
          refine e_zreturn (dec_at dX5_isMovable 14) rfl (by first | exact Or.inl rfl | exact Or.inr rfl | exact b01_or) ?_
          first | exact rt1 (by omega) | exact rt0 (by omega)

set_option maxRecDepth 100000 in
set_option maxHeartbeats 4000000 in
theorem c_isWithin {μ : Mm} (v n : Int) (ha : inR v) (hn : 0 ≤ n ∧ n < 2147483648) : Mc mX5_isWithin 0 [vI v, vI n] μ (Rt (some (vI (b01 (-n ≤ v ∧ v ≤ n)))) μ) := by
  refine Mc.of (L := [some (vI v), some (vI n)]) (by decide +kernel) (by simp [leL, entA, isLong, mX5_isWithin]) (by simp [entA, isLong, mX5_isWithin]) ?_
  refine e_iload_n 0 (dec_at dX5_isWithin 0) rfl rfl ?_
  refine e_iload_n 1 (dec_at dX5_isWithin 1) rfl rfl ?_
  refine e_ineg (dec_at dX5_isWithin 2) ?_
  refine e_icmp_lt 15 (dec_at dX5_isWithin 3) (by decide) (by omega) (by omega) (fun h3 => ?_) (fun h3 => ?_)
  · refine e_iconst (dec_at dX5_isWithin 9) ?_
    refine e_zreturn (dec_at dX5_isWithin 10) rfl (by first | exact Or.inl rfl | exact Or.inr rfl | exact b01_or) ?_
    first | exact rt1 (by omega) | exact rt0 (by omega)
  · refine e_iload_n 0 (dec_at dX5_isWithin 4) rfl rfl ?_
    refine e_iload_n 1 (dec_at dX5_isWithin 5) rfl rfl ?_
    refine e_icmp_gt 15 (dec_at dX5_isWithin 6) (by decide) (by omega) (by omega) (fun h8 => ?_) (fun h8 => ?_)
    · refine e_iconst (dec_at dX5_isWithin 9) ?_
      refine e_zreturn (dec_at dX5_isWithin 10) rfl (by first | exact Or.inl rfl | exact Or.inr rfl | exact b01_or) ?_
      first | exact rt1 (by omega) | exact rt0 (by omega)
    · refine e_iconst (dec_at dX5_isWithin 7) ?_
      refine e_goto 16 (dec_at dX5_isWithin 8) (by decide) ?_
      refine e_zreturn (dec_at dX5_isWithin 10) rfl (by first | exact Or.inl rfl | exact Or.inr rfl | exact b01_or) ?_
      first | exact rt1 (by omega) | exact rt0 (by omega)

set_option maxRecDepth 100000 in
set_option maxHeartbeats 4000000 in
theorem c_areWithin {μ : Mm} (x y z n : Int) (hx : inR x) (hy : inR y) (hz : inR z) (hn : 0 ≤ n ∧ n < 2147483648) : Mc mX5_areWithin 1 [vI x, vI y, vI z, vI n] μ (Rt (some (vI (b01 ((-n ≤ x ∧ x ≤ n) ∧ (-n ≤ y ∧ y ≤ n) ∧ (-n ≤ z ∧ z ≤ n))))) μ) := by
  refine Mc.of (L := [some (vI x), some (vI y), some (vI z), some (vI n)]) (by decide +kernel) (by simp [leL, entA, isLong, mX5_areWithin]) (by simp [entA, isLong, mX5_areWithin]) ?_
  refine e_iload_n 0 (dec_at dX5_areWithin 0) rfl rfl ?_
  refine e_iload_n 3 (dec_at dX5_areWithin 1) rfl rfl ?_
  refine e_callSr (M' := mX5_isWithin) (dec_at dX5_areWithin 2) mlX5_82 (c_isWithin x n hx hn) oX5_isWithin sX5_isWithin rfl rfl (by decide) (by decide) (Nat.le_of_ble_eq_true rfl) ?_
  refine e_beq 28 (dec_at dX5_areWithin 3) (by decide) (fun h5 => ?_) (fun h5 => ?_)
  · refine e_iconst (dec_at dX5_areWithin 14) ?_
    refine e_zreturn (dec_at dX5_areWithin 15) rfl (by first | exact Or.inl rfl | exact Or.inr rfl | exact b01_or) ?_
    first | exact rt1 (by omega) | exact rt0 (by omega)
  · refine e_iload_n 1 (dec_at dX5_areWithin 4) rfl rfl ?_
    refine e_iload_n 3 (dec_at dX5_areWithin 5) rfl rfl ?_
    refine e_callSr (M' := mX5_isWithin) (dec_at dX5_areWithin 6) mlX5_82 (c_isWithin y n hy hn) oX5_isWithin sX5_isWithin rfl rfl (by decide) (by decide) (Nat.le_of_ble_eq_true rfl) ?_
    refine e_beq 28 (dec_at dX5_areWithin 7) (by decide) (fun h13 => ?_) (fun h13 => ?_)
    · refine e_iconst (dec_at dX5_areWithin 14) ?_
      refine e_zreturn (dec_at dX5_areWithin 15) rfl (by first | exact Or.inl rfl | exact Or.inr rfl | exact b01_or) ?_
      first | exact rt1 (by omega) | exact rt0 (by omega)
    · refine e_iload_n 2 (dec_at dX5_areWithin 8) rfl rfl ?_
      refine e_iload_n 3 (dec_at dX5_areWithin 9) rfl rfl ?_
      refine e_callSr (M' := mX5_isWithin) (dec_at dX5_areWithin 10) mlX5_82 (c_isWithin z n hz hn) oX5_isWithin sX5_isWithin rfl rfl (by decide) (by decide) (Nat.le_of_ble_eq_true rfl) ?_
      refine e_beq 28 (dec_at dX5_areWithin 11) (by decide) (fun h21 => ?_) (fun h21 => ?_)
      · refine e_iconst (dec_at dX5_areWithin 14) ?_
        refine e_zreturn (dec_at dX5_areWithin 15) rfl (by first | exact Or.inl rfl | exact Or.inr rfl | exact b01_or) ?_
        first | exact rt1 (by omega) | exact rt0 (by omega)
      · refine e_iconst (dec_at dX5_areWithin 12) ?_
        refine e_goto 29 (dec_at dX5_areWithin 13) (by decide) ?_
        refine e_zreturn (dec_at dX5_areWithin 15) rfl (by first | exact Or.inl rfl | exact Or.inr rfl | exact b01_or) ?_
        first | exact rt1 (by omega) | exact rt0 (by omega)

set_option maxRecDepth 100000 in
set_option maxHeartbeats 4000000 in
theorem c_mix {μ : Mm} (h a : Int) (ha : inR a) : Mc mX5_mix 0 [vL h, vI a] μ (Rt (some (vL (31 * h + a))) μ) := by
  refine Mc.of (L := [some (vL h), none, some (vI a)]) (by decide +kernel) (by simp [leL, entA, isLong, mX5_mix]) (by simp [entA, isLong, mX5_mix]) ?_
  refine e_ldc2 31 (dec_at dX5_mix 0) klX5_225 (by decide) ?_
  refine e_lload_n 0 (dec_at dX5_mix 1) rfl rfl ?_
  refine e_lmul (dec_at dX5_mix 2) ?_
  refine e_iload_n 2 (dec_at dX5_mix 3) rfl rfl ?_
  refine e_i2l (dec_at dX5_mix 4) (by omega) ?_
  refine e_ladd (dec_at dX5_mix 5) ?_
  refine e_lreturn (dec_at dX5_mix 6) rfl ?_
  exact ⟨rfl, rfl⟩

set_option maxRecDepth 100000 in
set_option maxHeartbeats 4000000 in
theorem c_fail {μ : Mm} (a : Int) (ha : inR a) : Mc mX5_fail 0 [vR 0 0, vI a] μ (Rt (some (vI (-10 - a))) (mset μ 0 0 2 a)) := by
  refine Mc.of (L := [some (vR 0 0), some (vI a)]) (by decide +kernel) (by simp [leL, entA, isLong, mX5_fail]) (by simp [entA, isLong, mX5_fail]) ?_
  refine e_aload_n 0 (dec_at dX5_fail 0) rfl rfl ?_
  refine e_iload_n 1 (dec_at dX5_fail 1) rfl rfl ?_
  refine e_put 2 2 (dec_at dX5_fail 2) flX5_23 fpX5_2 rfl rfl rfl (by omega) (fit_int _) ?_
  refine e_bipush (dec_at dX5_fail 3) (by decide) ?_
  refine e_iload_n 1 (dec_at dX5_fail 4) rfl rfl ?_
  refine e_isub (dec_at dX5_fail 5) ?_
  refine e_ireturn (dec_at dX5_fail 6) rfl ?_
  exact ⟨rfl, rfl⟩

set_option maxRecDepth 100000 in
set_option maxHeartbeats 4000000 in
theorem c_isLost {μ : Mm} : Mc mX3_isLost 0 [vR 1 0] μ (Rt (some (vI (b01 (μ 1 0 2 = -1)))) μ) := by
  refine Mc.of (L := [some (vR 1 0)]) (by decide +kernel) (by simp [leL, entA, isLong, mX3_isLost]) (by simp [entA, isLong, mX3_isLost]) ?_
  refine e_aload_n 0 (dec_at dX3_isLost 0) rfl rfl ?_
  refine e_geti 2 2 (dec_at dX3_isLost 1) flX3_19 rfl rfl rfl (fun r1 => ?_)
  refine e_iconst (dec_at dX3_isLost 2) ?_
  refine e_icmp_ne 12 (dec_at dX3_isLost 3) (by decide) (by omega) (by omega) (fun h5 => ?_) (fun h5 => ?_)
  · refine e_iconst (dec_at dX3_isLost 6) ?_
    refine e_zreturn (dec_at dX3_isLost 7) rfl (by first | exact Or.inl rfl | exact Or.inr rfl | exact b01_or) ?_
    first | exact rt1 (by omega) | exact rt0 (by omega)
  · refine e_iconst (dec_at dX3_isLost 4) ?_
    refine e_goto 13 (dec_at dX3_isLost 5) (by decide) ?_
    refine e_zreturn (dec_at dX3_isLost 7) rfl (by first | exact Or.inl rfl | exact Or.inr rfl | exact b01_or) ?_
    first | exact rt1 (by omega) | exact rt0 (by omega)
