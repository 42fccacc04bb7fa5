theorem FX.tr {μ ν ρ : Mm} (h : FX μ ν) (g : FX ν ρ) : FX μ ρ := fun k l i z => (g k l i z).trans (h k l i z)
def faultA (w k p : Int) : Int := if ¬ (0 ≤ w ∧ w ≤ 1) then -102 else if w = 0 then k else p

set_option maxRecDepth 100000 in
set_option maxHeartbeats 4000000 in
theorem x_fault {μ : Mm} (w : Int) (h_w : inR w) (hI : XI μ) : Mc mX5_fault 6 [vR 0 0, vI w] μ (fun r μ' => FX μ μ' ∧ XI μ' ∧ ∀ k p, IsF (Nt μ 0) k p → r = some (vI (faultA w k p))) := by
  refine Mc.of (L := [some (vR 0 0), some (vI w), none]) (by decide +kernel) (by simp [leL, entA, isLong, mX5_fault]) (by simp [entA, isLong, mX5_fault]) ?_
  refine e_iload_n 1 (dec_at dX5_fault 0) rfl rfl ?_
  refine e_if_lt 9 (dec_at dX5_fault 1) (by decide) (by omega) (fun h1 => ?_) (fun h1 => ?_)
  · refine e_bipush (dec_at dX5_fault 5) (by decide) ?_
    refine e_ireturn (dec_at dX5_fault 6) rfl ?_
    refine ⟨FX.rf, hI, fun k p _ => congrArg (fun z => some (vI z)) ?_⟩
    unfold faultA
    exact (if_pos (by omega)).symm
  · refine e_iload_n 1 (dec_at dX5_fault 2) rfl rfl ?_
    refine e_iconst (dec_at dX5_fault 3) ?_
    refine e_icmp_le 12 (dec_at dX5_fault 4) (by decide) (by omega) (by omega) (fun h6 => ?_) (fun h6 => ?_)
    · refine e_aload_n 0 (dec_at dX5_fault 7) rfl rfl ?_
      refine e_getr 1 (dec_at dX5_fault 8) flX5_19 rfl rfl ?_
      refine e_callV (M' := mX4_findFault) (dec_at dX5_fault 9) mlX5_113 (c_findFault (μ := μ) hI.1 hI.2.2.2) oX4_findFault iX4_findFault rfl rfl rfl rfl (by decide) (by decide) (Nat.le_of_ble_eq_true rfl) (fun r ν hQ => ?_)
      obtain ⟨rfl, fr, hx, hq4, hr5⟩ := hQ
      have fx : FX μ ν := fun k l1 i z => fr k l1 i (by omega)
      have hxr := hx.resolve_left (fun q => by omega)
      have hFF := IsF_cg fx.sb.bse hxr.2.1
      show Ev mX5_fault 6 19 _ [vI (ν 5 0 1)] ν _
      refine e_is2 (dec_at dX5_fault 10) (by decide) rfl ?_
      refine e_iload_n 1 (dec_at dX5_fault 11) rfl rfl ?_
      refine e_if_ne 28 (dec_at dX5_fault 12) (by decide) (by omega) (fun h21 => ?_) (fun h21 => ?_)
      · refine e_aload_n 0 (dec_at dX5_fault 15) rfl rfl ?_
        refine e_getr 1 (dec_at dX5_fault 16) flX5_19 rfl rfl ?_
        refine e_getr 2 (dec_at dX5_fault 17) flX5_117 rfl rfl ?_
        refine e_geti 2 2 (dec_at dX5_fault 18) flX5_121 rfl rfl rfl (fun r35 => ?_)
        refine e_ireturn (dec_at dX5_fault 19) rfl ?_
        refine ⟨fx, hI.go fx hx, fun k p hk => congrArg (fun z => some (vI z)) ?_⟩
        have hu := hk.uq hFF
        unfold faultA
        refine Eq.trans ?_ (if_neg (by omega)).symm
        by_cases hw0 : w = 0
        · refine Eq.trans ?_ (if_pos hw0).symm
          first | exact hu.1.symm | (exfalso; omega)
        · refine Eq.trans ?_ (if_neg hw0).symm
          first | exact hu.2.symm | (exfalso; omega)
      · refine e_iload_n 2 (dec_at dX5_fault 13) rfl rfl ?_
        refine e_goto 38 (dec_at dX5_fault 14) (by decide) ?_
        refine e_ireturn (dec_at dX5_fault 19) rfl ?_
        refine ⟨fx, hI.go fx hx, fun k p hk => congrArg (fun z => some (vI z)) ?_⟩
        have hu := hk.uq hFF
        unfold faultA
        refine Eq.trans ?_ (if_neg (by omega)).symm
        by_cases hw0 : w = 0
        · refine Eq.trans ?_ (if_pos hw0).symm
          first | exact hu.1.symm | (exfalso; omega)
        · refine Eq.trans ?_ (if_neg hw0).symm
          first | exact hu.2.symm | (exfalso; omega)
    · refine e_bipush (dec_at dX5_fault 5) (by decide) ?_
      refine e_ireturn (dec_at dX5_fault 6) rfl ?_
      refine ⟨FX.rf, hI, fun k p _ => congrArg (fun z => some (vI z)) ?_⟩
      unfold faultA
      exact (if_pos (by omega)).symm

set_option maxRecDepth 100000 in
set_option maxHeartbeats 4000000 in
theorem x_digest {μ : Mm} (hI : XI μ) : Mc mX5_digest 6 [vR 0 0] μ (QQ μ (fun k => vL (digestA μ k))) := by
  refine Mc.of (L := [some (vR 0 0), none, none, none, none]) (by decide +kernel) (by simp [leL, entA, isLong, mX5_digest]) (by simp [entA, isLong, mX5_digest]) ?_
  have e1 : capC 0 = 14 := rfl
  have e2 : capP 0 = 14 := rfl
  have e3 : capE 0 = 42 := rfl
  have nb := hI.1.nb
  have hC := nb.1
  refine e_aload_n 0 (dec_at dX5_digest 0) rfl rfl ?_
  refine e_getr 1 (dec_at dX5_digest 1) flX5_19 rfl rfl ?_
  refine e_getr 1 (dec_at dX5_digest 2) flX5_52 rfl rfl ?_
  refine e_as1 (dec_at dX5_digest 3) (by decide) rfl ?_
  refine e_aload_n 1 (dec_at dX5_digest 4) rfl rfl ?_
  refine e_ldc2 149 (dec_at dX5_digest 5) klX5_209 (by decide) ?_
  refine e_callVr (M' := mX2_mixNumbers) (dec_at dX5_digest 6) mlX5_211 (c_mixNumbers (μ := μ) 0 149 hC) oX2_mixNumbers iX2_mixNumbers rfl rfl rfl rfl (by decide) (by decide) (Nat.le_of_ble_eq_true rfl) ?_
  refine e_ls2 (dec_at dX5_digest 7) (by decide) rfl ?_
  refine e_aload_n 1 (dec_at dX5_digest 8) rfl rfl ?_
  refine e_lload_n 2 (dec_at dX5_digest 9) rfl rfl ?_
  refine e_callVr (M' := mX2_mixPlates) (dec_at dX5_digest 10) mlX5_215 (c_mixPlates (μ := μ) 0 _ nb) oX2_mixPlates iX2_mixPlates rfl rfl rfl rfl (by decide) (by decide) (Nat.le_of_ble_eq_true rfl) ?_
  refine e_ls2 (dec_at dX5_digest 11) (by decide) rfl ?_
  refine e_aload_n 0 (dec_at dX5_digest 12) rfl rfl ?_
  refine e_getr 1 (dec_at dX5_digest 13) flX5_19 rfl rfl ?_
  refine e_getr 3 (dec_at dX5_digest 14) flX5_104 rfl rfl ?_
  refine e_lload_n 2 (dec_at dX5_digest 15) rfl rfl ?_
  refine e_callVr (M' := mX1_mixAll) (dec_at dX5_digest 16) mlX5_218 (c_mixAll (μ := μ) _ hI.2.2.1) oX1_mixAll iX1_mixAll rfl rfl rfl rfl (by decide) (by decide) (Nat.le_of_ble_eq_true rfl) ?_
  refine e_ls2 (dec_at dX5_digest 17) (by decide) rfl ?_
  refine e_lload_n 2 (dec_at dX5_digest 18) rfl rfl ?_
  refine e_aload_n 0 (dec_at dX5_digest 19) rfl rfl ?_
  refine e_getr 1 (dec_at dX5_digest 20) flX5_19 rfl rfl ?_
  refine e_callV (M' := mX4_findFault) (dec_at dX5_digest 21) mlX5_113 (c_findFault (μ := μ) hI.1 hI.2.2.2) oX4_findFault iX4_findFault rfl rfl rfl rfl (by decide) (by decide) (Nat.le_of_ble_eq_true rfl) (fun r ν hQ => ?_)
  obtain ⟨rfl, fr, hx, hq4, hr5⟩ := hQ
  have fx : FX μ ν := fun k l1 i z => fr k l1 i (by omega)
  have hxr := hx.resolve_left (fun q => by omega)
  have hFF := IsF_cg fx.sb.bse hxr.2.1
  show Ev mX5_digest 6 42 _ [vI (ν 5 0 1), vL (flo (fun m a => 31 * (31 * (31 * (31 * a + μ 9 0 m) + μ 10 0 (3 * m + 0)) + μ 10 0 (3 * m + (0 + 1))) + μ 10 0 (3 * m + (0 + 1 + 1))) 0 (μ 7 0 3) (flo (fun f a => flo (fun s b => 31 * b + μ 14 0 s) (μ 13 0 f) (μ 13 0 (f + 1)) (31 * a + (μ 13 0 (f + 1) - μ 13 0 f))) 0 (μ 11 0 1) (flo (fun i a => 31 * a + μ 12 0 i) 0 (3 * μ 11 0 0) 149)))] ν _
  refine e_callSr (M' := mX5_mix) (dec_at dX5_digest 22) mlX5_221 (c_mix (μ := ν) _ (ν 5 0 1) hr5) oX5_mix sX5_mix rfl rfl (by decide) (by decide) (Nat.le_of_ble_eq_true rfl) ?_
  refine e_ls2 (dec_at dX5_digest 23) (by decide) rfl ?_
  refine e_aload_n 0 (dec_at dX5_digest 24) rfl rfl ?_
  refine e_getr 1 (dec_at dX5_digest 25) flX5_19 rfl rfl ?_
  refine e_iconst (dec_at dX5_digest 26) ?_
  refine e_callV (M' := mX4_reach) (dec_at dX5_digest 27) mlX5_129 (c_reach (μ := ν) 2 (hI.go fx hx).1 (hI.go fx hx).2.1 (hI.go fx hx).2.2.1 (by omega) hx) oX4_reach iX4_reach rfl rfl rfl rfl (by decide) (by decide) (Nat.le_of_ble_eq_true rfl) (fun r ν2 hQ => ?_)
  obtain ⟨fr2, hx2, hq42, hor⟩ := hQ
  have fx2 : FX μ ν2 := fx.tr fr2
  have hFF2 := IsF_cg fx2.sb.bse (hx2.resolve_left (fun q => by omega)).2.1
  have huu := hFF.uq hFF2
  rcases hor with ⟨h51, rfl⟩ | ⟨h51, rfl, h6⟩
  · show Ev mX5_digest 6 54 _ [vN] ν2 _
    refine e_as4 (dec_at dX5_digest 28) (by decide) rfl ?_
    refine e_aload (dec_at dX5_digest 29) rfl ?_
    refine e_ifnonnull 65 (dec_at dX5_digest 30) (by decide) (fun h => absurd rfl h) (fun _ => ?_)
    refine e_lload_n 2 (dec_at dX5_digest 31) rfl rfl ?_
    refine e_goto 71 (dec_at dX5_digest 32) (by decide) ?_
    refine e_lreturn (dec_at dX5_digest 36) rfl ?_
    refine ⟨fx2, hI.go fx2 hx2, fun k p hk => ?_⟩
    have hu := hk.uq hFF2
    refine congrArg (fun z => some (vL z)) ?_
    unfold digestA
    by_cases hk0 : k ≠ 0
    · refine Eq.trans ?_ (if_pos hk0).symm
      first | (exfalso; omega) | (rw [hu.1, ← huu.1]; rfl)
    · refine Eq.trans ?_ (if_neg hk0).symm
      first
      | (exfalso; omega)
      | (have q0 : Lv μ 2 0 0 = ν2 11 2 0 := aA.1.1
         refine flo_eq rfl (by rw [q0]) (by rw [hu.1, ← huu.1]; rfl) (fun i b i0 i1 => ?_)
         have z := hw (i / 3) (i % 3) (by omega) (by omega) (by omega) (by omega)
         rw [show 3 * (i / 3) + i % 3 = i by omega] at z
         show 31 * b + ν2 12 2 i = _
         rw [z])
  · show Ev mX5_digest 6 54 _ [vR 11 2] ν2 _
    obtain ⟨nb1, nb2, ns, hc1, gA, aA, hw, hF⟩ := XL hI fx2 hx2 hq42 h51 (by omega) h6
    have hb1 := nb1.1
    refine e_as4 (dec_at dX5_digest 28) (by decide) rfl ?_
    refine e_aload (dec_at dX5_digest 29) rfl ?_
    refine e_ifnonnull 65 (dec_at dX5_digest 30) (by decide) (fun _ => ?_) (fun h => absurd h (by simp))
    refine e_aload (dec_at dX5_digest 33) rfl ?_
    refine e_lload_n 2 (dec_at dX5_digest 34) rfl rfl ?_
    refine e_callVr (M' := mX2_mixNumbers) (dec_at dX5_digest 35) mlX5_211 (c_mixNumbers (μ := ν2) 2 _ (by omega)) oX2_mixNumbers iX2_mixNumbers rfl rfl rfl rfl (by decide) (by decide) (Nat.le_of_ble_eq_true rfl) ?_
    refine e_lreturn (dec_at dX5_digest 36) rfl ?_
    refine ⟨fx2, hI.go fx2 hx2, fun k p hk => ?_⟩
    have hu := hk.uq hFF2
    refine congrArg (fun z => some (vL z)) ?_
    unfold digestA
    by_cases hk0 : k ≠ 0
    · refine Eq.trans ?_ (if_pos hk0).symm
      first | (exfalso; omega) | (rw [hu.1, ← huu.1]; rfl)
    · refine Eq.trans ?_ (if_neg hk0).symm
      first
      | (exfalso; omega)
      | (have q0 : Lv μ 2 0 0 = ν2 11 2 0 := aA.1.1
         refine flo_eq rfl (by rw [q0]) (by rw [hu.1, ← huu.1]; rfl) (fun i b i0 i1 => ?_)
         have z := hw (i / 3) (i % 3) (by omega) (by omega) (by omega) (by omega)
         rw [show 3 * (i / 3) + i % 3 = i by omega] at z
         show 31 * b + ν2 12 2 i = _
         rw [z])
