set_option maxRecDepth 100000 in
set_option maxHeartbeats 4000000 in
/-- renew: the numbers become 0 -/
theorem l_renew {μ : Mm} {a n : Int} {f0 : Int → Int} : ∀ (q : Nat) (i : Int), (8 - i).toNat = q → 0 ≤ i → i ≤ 8 → Ev mX3_renew 0 12 [some (vR 1 0), some (vI a), some (vI n), some (vI i)] [] (mfun μ 2 0 (fun j => if 0 ≤ j ∧ j < i then 0 else f0 j)) (Rt none (mfun μ 2 0 (fun j => if 0 ≤ j ∧ j < 8 then 0 else f0 j))) := by
  intro q
  induction q using Nat.strongRecOn with
  | _ q ih =>
  intro i hq h0 h1
  refine e_iload_n 3 (dec_at dX3_renew 8) rfl rfl ?_
  refine e_bipush (dec_at dX3_renew 9) (by decide) ?_
  refine e_icmp_ge 31 (dec_at dX3_renew 10) (by decide) (by omega) (by omega) (fun h15 => ?_) (fun h15 => ?_)
  · refine e_return (dec_at dX3_renew 18) rfl ?_
    obtain rfl : i = 8 := by omega
    exact ⟨rfl, rfl⟩
  · refine e_aload_n 0 (dec_at dX3_renew 11) rfl rfl ?_
    refine e_getr 0 (dec_at dX3_renew 12) flX3_9 rfl rfl ?_
    refine e_iload_n 3 (dec_at dX3_renew 13) rfl rfl ?_
    refine e_iconst (dec_at dX3_renew 14) ?_
    refine e_iast (dec_at dX3_renew 15) rfl (by decide) (aLk_2 _) (by omega) (by omega) ?_
    refine e_ii3 (dec_at dX3_renew 16) (by decide) rfl ?_
    refine e_goto 12 (dec_at dX3_renew 17) (by decide) ?_
    refine e_mem (μ' := mfun μ 2 0 (fun j => if 0 ≤ j ∧ j < i + 1 then 0 else f0 j)) ?_ (ih _ (by omega) (i + 1) rfl (by omega) (by omega))
    rw [mset_mfun]
    refine mfun_cg (fun j => ?_)
    by_cases hj : j = i
    · rw [if_pos hj, if_pos (by omega)]
    · rw [if_neg hj]
      by_cases hk : 0 ≤ j ∧ j < i
      · rw [if_pos hk, if_pos (by omega)]
      · rw [if_neg hk, if_neg (by omega)]

set_option maxRecDepth 100000 in
set_option maxHeartbeats 4000000 in
theorem c_renew {μ : Mm} (a n : Int) (ha : inR a) (hn : inR n) : Mc mX3_renew 0 [vR 1 0, vI a, vI n] μ (Rt none (mfun (mset (mset μ 1 0 1 a) 1 0 2 n) 2 0 (fun j => if 0 ≤ j ∧ j < 8 then 0 else μ 2 0 j))) := by
  refine Mc.of (L := [some (vR 1 0), some (vI a), some (vI n), none]) (by decide +kernel) (by simp [leL, entA, isLong, mX3_renew]) (by simp [entA, isLong, mX3_renew]) ?_
  refine e_aload_n 0 (dec_at dX3_renew 0) rfl rfl ?_
  refine e_iload_n 1 (dec_at dX3_renew 1) rfl rfl ?_
  refine e_put 1 1 (dec_at dX3_renew 2) flX3_15 fpX3_1 rfl rfl rfl (by omega) (fit_int _) ?_
  refine e_aload_n 0 (dec_at dX3_renew 3) rfl rfl ?_
  refine e_iload_n 2 (dec_at dX3_renew 4) rfl rfl ?_
  refine e_put 2 2 (dec_at dX3_renew 5) flX3_19 fpX3_2 rfl rfl rfl (by omega) (fit_int _) ?_
  refine e_iconst (dec_at dX3_renew 6) ?_
  refine e_is3 (dec_at dX3_renew 7) (by decide) rfl ?_
  refine e_mem (μ' := mfun (mset (mset μ 1 0 1 a) 1 0 2 n) 2 0 (fun j => if 0 ≤ j ∧ j < 0 then 0 else μ 2 0 j)) ?_ (l_renew _ 0 rfl (by omega) (by omega))
  have e : (fun j => if 0 ≤ j ∧ j < 0 then 0 else μ 2 0 j) = mset (mset μ 1 0 1 a) 1 0 2 n 2 0 := by
    funext j
    rw [if_neg (by omega)]
    simp [mset]
  rw [e, mfun_self]

/-- v, cast to a lane -/
def lc (a v : Int) : Int := if a = 0 then v.bmod 256 else if a = 1 then v.bmod 65536 else v
theorem bmod_in (v : Int) : inR (v.bmod 256) ∧ inR (v.bmod 65536) := by
  have h1 := Int.bmod_lt (x := v) (m := 256) (by omega)
  have h2 := Int.le_bmod (x := v) (m := 256) (by omega)
  have h3 := Int.bmod_lt (x := v) (m := 65536) (by omega)
  have h4 := Int.le_bmod (x := v) (m := 65536) (by omega)
  omega
theorem lc_in {a v : Int} (h : inR v) : inR (lc a v) := by
  have := bmod_in v
  unfold lc
  split
  · exact this.1
  · split
    · exact this.2
    · exact h

set_option maxRecDepth 100000 in
set_option maxHeartbeats 4000000 in
theorem c_write {μ : Mm} (i v : Int) (hi : 0 ≤ i ∧ i < 8) (hv : inR v) : Mc mX3_write 0 [vR 1 0, vI i, vI v] μ (Rt none (mset μ 2 0 i (lc (μ 1 0 1) v))) := by
  refine Mc.of (L := [some (vR 1 0), some (vI i), some (vI v)]) (by decide +kernel) (by simp [leL, entA, isLong, mX3_write]) (by simp [entA, isLong, mX3_write]) ?_
  refine e_aload_n 0 (dec_at dX3_write 0) rfl rfl ?_
  refine e_geti 1 1 (dec_at dX3_write 1) flX3_15 rfl rfl rfl (fun r1 => ?_)
  refine e_if_ne 18 (dec_at dX3_write 2) (by decide) (by omega) (fun h4 => ?_) (fun h4 => ?_)
  · refine e_aload_n 0 (dec_at dX3_write 10) rfl rfl ?_
    refine e_geti 1 1 (dec_at dX3_write 11) flX3_15 rfl rfl rfl (fun r19 => ?_)
    refine e_iconst (dec_at dX3_write 12) ?_
    refine e_icmp_ne 37 (dec_at dX3_write 13) (by decide) (by omega) (by omega) (fun h23 => ?_) (fun h23 => ?_)
    · refine e_aload_n 0 (dec_at dX3_write 21) rfl rfl ?_
      refine e_getr 0 (dec_at dX3_write 22) flX3_9 rfl rfl ?_
      refine e_iload_n 1 (dec_at dX3_write 23) rfl rfl ?_
      refine e_iload_n 2 (dec_at dX3_write 24) rfl rfl ?_
      refine e_iast (dec_at dX3_write 25) rfl (by decide) (aLk_2 _) (by omega) (by omega) ?_
      refine e_return (dec_at dX3_write 26) rfl ?_
      exact ⟨rfl, by unfold lc; simp [*]⟩
    · refine e_aload_n 0 (dec_at dX3_write 14) rfl rfl ?_
      refine e_getr 0 (dec_at dX3_write 15) flX3_9 rfl rfl ?_
      refine e_iload_n 1 (dec_at dX3_write 16) rfl rfl ?_
      refine e_iload_n 2 (dec_at dX3_write 17) rfl rfl ?_
      refine e_i2s (dec_at dX3_write 18) ?_
      refine e_iast (dec_at dX3_write 19) rfl (by decide) (aLk_2 _) (by omega) (by exact (bmod_in v).2) ?_
      refine e_goto 44 (dec_at dX3_write 20) (by decide) ?_
      refine e_return (dec_at dX3_write 26) rfl ?_
      exact ⟨rfl, by unfold lc; simp [*]⟩
  · refine e_aload_n 0 (dec_at dX3_write 3) rfl rfl ?_
    refine e_getr 0 (dec_at dX3_write 4) flX3_9 rfl rfl ?_
    refine e_iload_n 1 (dec_at dX3_write 5) rfl rfl ?_
    refine e_iload_n 2 (dec_at dX3_write 6) rfl rfl ?_
    refine e_i2b (dec_at dX3_write 7) ?_
    refine e_iast (dec_at dX3_write 8) rfl (by decide) (aLk_2 _) (by omega) (by exact (bmod_in v).1) ?_
    refine e_goto 44 (dec_at dX3_write 9) (by decide) ?_
    refine e_return (dec_at dX3_write 26) rfl ?_
    exact ⟨rfl, by unfold lc; simp [*]⟩

set_option maxRecDepth 100000 in
set_option maxHeartbeats 4000000 in
theorem l_hasN {μ : Mm} {n lo hi : Int} (hn : n ≤ 8) (hn0 : 0 ≤ n) (hlo : inR lo) (hhi : inR hi) : ∀ (q : Nat) (i : Int), (n - i).toNat = q → 0 ≤ i → i ≤ n → (∀ j, 0 ≤ j → j < i → lo ≤ μ 2 0 j ∧ μ 2 0 j ≤ hi) → Ev mX3_hasNumbersWithin 0 3 [some (vR 1 0), some (vI n), some (vI lo), some (vI hi), some (vI i)] [] μ (Rt (some (vI (b01 (∀ j, 0 ≤ j → j < n → lo ≤ μ 2 0 j ∧ μ 2 0 j ≤ hi)))) μ) := by
  intro q
  induction q using Nat.strongRecOn with
  | _ q ih =>
  intro i hq h0 h1 hj
  refine e_iload (dec_at dX3_hasNumbersWithin 2) rfl ?_
  refine e_iload_n 1 (dec_at dX3_hasNumbersWithin 3) rfl rfl ?_
  refine e_icmp_ge 39 (dec_at dX3_hasNumbersWithin 4) (by decide) (by omega) (by omega) (fun h6 => ?_) (fun h6 => ?_)
  · refine e_iconst (dec_at dX3_hasNumbersWithin 21) ?_
    refine e_zreturn (dec_at dX3_hasNumbersWithin 22) rfl (by first | exact Or.inl rfl | exact Or.inr rfl | exact b01_or) ?_
    exact rt1 (fun j a b => hj j a (by omega))
  · refine e_aload_n 0 (dec_at dX3_hasNumbersWithin 5) rfl rfl ?_
    refine e_getr 0 (dec_at dX3_hasNumbersWithin 6) flX3_9 rfl rfl ?_
    refine e_iload (dec_at dX3_hasNumbersWithin 7) rfl ?_
    refine e_iald (dec_at dX3_hasNumbersWithin 8) rfl (by decide) (aLk_2 _) (by omega) (fun r15 => ?_)
    refine e_iload_n 2 (dec_at dX3_hasNumbersWithin 9) rfl rfl ?_
    refine e_icmp_lt 31 (dec_at dX3_hasNumbersWithin 10) (by decide) (by omega) (by omega) (fun h17 => ?_) (fun h17 => ?_)
    · refine e_iconst (dec_at dX3_hasNumbersWithin 17) ?_
      refine e_zreturn (dec_at dX3_hasNumbersWithin 18) rfl (by first | exact Or.inl rfl | exact Or.inr rfl | exact b01_or) ?_
      exact rt0 (fun h => by have := h i h0 (by omega); omega)
    · refine e_aload_n 0 (dec_at dX3_hasNumbersWithin 11) rfl rfl ?_
      refine e_getr 0 (dec_at dX3_hasNumbersWithin 12) flX3_9 rfl rfl ?_
      refine e_iload (dec_at dX3_hasNumbersWithin 13) rfl ?_
      refine e_iald (dec_at dX3_hasNumbersWithin 14) rfl (by decide) (aLk_2 _) (by omega) (fun r26 => ?_)
      refine e_iload_n 3 (dec_at dX3_hasNumbersWithin 15) rfl rfl ?_
      refine e_icmp_le 33 (dec_at dX3_hasNumbersWithin 16) (by decide) (by omega) (by omega) (fun h28 => ?_) (fun h28 => ?_)
      · refine e_ii4 (dec_at dX3_hasNumbersWithin 19) (by decide) rfl ?_
        refine e_goto 3 (dec_at dX3_hasNumbersWithin 20) (by decide) ?_
        refine ih _ (by omega) (i + 1) rfl (by omega) (by omega) (fun j a b => ?_)
        by_cases hji : j = i
        · subst hji; omega
        · exact hj j a (by omega)
      · refine e_iconst (dec_at dX3_hasNumbersWithin 17) ?_
        refine e_zreturn (dec_at dX3_hasNumbersWithin 18) rfl (by first | exact Or.inl rfl | exact Or.inr rfl | exact b01_or) ?_
        exact rt0 (fun h => by have := h i h0 (by omega); omega)

set_option maxRecDepth 100000 in
set_option maxHeartbeats 4000000 in
theorem c_hasN {μ : Mm} (n lo hi : Int) (hn : n ≤ 8) (hn0 : 0 ≤ n) (hlo : inR lo) (hhi : inR hi) : Mc mX3_hasNumbersWithin 0 [vR 1 0, vI n, vI lo, vI hi] μ (Rt (some (vI (b01 (∀ j, 0 ≤ j → j < n → lo ≤ μ 2 0 j ∧ μ 2 0 j ≤ hi)))) μ) := by
  refine Mc.of (L := [some (vR 1 0), some (vI n), some (vI lo), some (vI hi), none]) (by decide +kernel) (by simp [leL, entA, isLong, mX3_hasNumbersWithin]) (by simp [entA, isLong, mX3_hasNumbersWithin]) ?_
  refine e_iconst (dec_at dX3_hasNumbersWithin 0) ?_
  refine e_is4 (dec_at dX3_hasNumbersWithin 1) (by decide) rfl ?_
  exact l_hasN hn hn0 hlo hhi _ 0 rfl (by omega) (by omega) (fun j a b => by omega)
