set_option maxRecDepth 100000 in
set_option maxHeartbeats 4000000 in
theorem x_at {μ : Mm} (l c a : Int) (h_l : inR l) (h_c : inR c) (h_a : inR a) (hI : XI μ) : Mc mX5_at 6 [vR 0 0, vI l, vI c, vI a] μ (QQ μ (fun k => vI (atA μ l c a k))) := by
  refine Mc.of (L := [some (vR 0 0), some (vI l), some (vI c), some (vI a), none]) (by decide +kernel) (by simp [leL, entA, isLong, mX5_at]) (by simp [entA, isLong, mX5_at]) ?_
  refine e_iload_n 1 (dec_at dX5_at 0) rfl rfl ?_
  refine e_callSr (M' := mX5_isLevel) (dec_at dX5_at 1) mlX5_126 (c_isLevel l h_l) oX5_isLevel sX5_isLevel rfl rfl (by decide) (by decide) (Nat.le_of_ble_eq_true rfl) ?_
  refine e_beq 14 (dec_at dX5_at 2) (by decide) (fun h4 => ?_) (fun h4 => ?_)
  · refine e_ldc (-2000000001) (dec_at dX5_at 6) kcX5_142 (by decide) ?_
    refine e_ireturn (dec_at dX5_at 7) rfl ?_
    refine ⟨FX.rf, hI, fun k p _ => ?_⟩
    refine congrArg (fun z => some (vI z)) ?_
    unfold atA
    refine Eq.trans ?_ (if_pos (by omega)).symm
    rfl
  · refine e_iload_n 3 (dec_at dX5_at 3) rfl rfl ?_
    refine e_callSr (M' := mX5_isAxis) (dec_at dX5_at 4) mlX5_79 (c_isAxis a h_a) oX5_isAxis sX5_isAxis rfl rfl (by decide) (by decide) (Nat.le_of_ble_eq_true rfl) ?_
    refine e_bne 17 (dec_at dX5_at 5) (by decide) (fun h11 => ?_) (fun h11 => ?_)
    · refine e_aload_n 0 (dec_at dX5_at 8) rfl rfl ?_
      refine e_getr 1 (dec_at dX5_at 9) flX5_19 rfl rfl ?_
      refine e_iload_n 1 (dec_at dX5_at 10) rfl rfl ?_
      refine e_callV (M' := mX4_reach) (dec_at dX5_at 11) mlX5_129 (c_reach (μ := μ) l hI.1 hI.2.1 hI.2.2.1 (by omega) hI.2.2.2) oX4_reach iX4_reach rfl rfl rfl rfl (by decide) (by decide) (Nat.le_of_ble_eq_true rfl) (fun r ν hQ => ?_)
      obtain ⟨fr, hx, hq4, hor⟩ := hQ
      have fx : FX μ ν := fr
      rcases hor with ⟨h51, rfl⟩ | ⟨h51, rfl, h6⟩
      · show Ev mX5_at 6 25 _ [vN] ν _
        refine e_as4 (dec_at dX5_at 12) (by decide) rfl ?_
        refine e_aload (dec_at dX5_at 13) rfl ?_
        refine e_ifnonnull 35 (dec_at dX5_at 14) (by decide) (fun h => absurd rfl h) (fun _ => ?_)
        refine e_ldc (-2000000003) (dec_at dX5_at 15) kcX5_143 (by decide) ?_
        refine e_ireturn (dec_at dX5_at 16) rfl ?_
        refine ⟨fx, hI.go fx hx, fun k p hk => ?_⟩
        have hke := (hk.uq (IsF_cg fx.sb.bse (hx.resolve_left (fun q => by omega)).2.1)).1
        have hk0 : k ≠ 0 := by rw [hke]; exact h51
        refine congrArg (fun z => some (vI z)) ?_
        unfold atA
        refine Eq.trans ?_ (if_neg (by omega)).symm
        refine Eq.trans ?_ (if_pos hk0).symm
        rfl
      · show Ev mX5_at 6 25 _ [vR 11 l] ν _
        obtain ⟨nb1, nb2, ns, hc1, gA, aA, hw, hF⟩ := XL hI fx hx hq4 h51 (by omega) h6
        have q0 : Lv μ l 0 0 = ν 11 l 0 := aA.1.1
        have q1 : Lv μ l 0 1 = ν 11 l 1 := aA.1.2.1
        have q2 : Lv μ l 0 2 = ν 11 l 2 := aA.2.1
        have qn : nN (Lv μ l) = ν 13 l (ν 11 l 1) := aA.n gA.1.2.1.1
        have qf : ∀ f, 0 ≤ f → f ≤ ν 11 l 1 → Lv μ l 2 f = ν 13 l f := fun f a b => aA.1.2.2.1 f a (by rw [q1]; exact b)
        have qr : ∀ s, 0 ≤ s → s < ν 13 l (ν 11 l 1) → Lv μ l 3 s = ν 14 l s := fun s a b => aA.1.2.2.2 s a (by rw [qn]; exact b)
        have qm : ∀ e, 0 ≤ e → e < ν 11 l 2 → Lv μ l 7 e = ν 18 l e := fun e a b => aA.2.2.2.1 e a (by rw [q2]; exact b)
        have qx : ∀ s, 0 ≤ s → s < ν 13 l (ν 11 l 1) → nx (Lv μ l) s = nxF (ν 13 l) (ν 15 l) s := fun s a b => (aA.nxe gA.1.2.1 a (by rw [qn]; exact b)).symm
        have hCc := capC_in l
        have hCp := capP_in l
        have hCe := capE_in l
        have hb1 := nb1.1
        have hb2 := nb1.2.1
        have hb3 := nb1.2.2.1
        have hb4 := nb2.1
        refine e_as4 (dec_at dX5_at 12) (by decide) rfl ?_
        refine e_aload (dec_at dX5_at 13) rfl ?_
        refine e_ifnonnull 35 (dec_at dX5_at 14) (by decide) (fun _ => ?_) (fun h => absurd h (by simp))
        refine e_aload (dec_at dX5_at 17) rfl ?_
        refine e_iload_n 2 (dec_at dX5_at 18) rfl rfl ?_
        refine e_callVr (M' := mX2_hasCorner) (dec_at dX5_at 19) mlX5_76 (c_hasCorner (μ := ν) l c h_c) oX2_hasCorner iX2_hasCorner rfl rfl rfl rfl (by decide) (by decide) (Nat.le_of_ble_eq_true rfl) ?_
        refine e_bne 47 (dec_at dX5_at 20) (by decide) (fun h41 => ?_) (fun h41 => ?_)
        · refine e_aload (dec_at dX5_at 23) rfl ?_
          refine e_getr 3 (dec_at dX5_at 24) flX5_86 rfl rfl ?_
          refine e_iconst (dec_at dX5_at 25) ?_
          refine e_iload_n 2 (dec_at dX5_at 26) rfl rfl ?_
          refine e_imul (dec_at dX5_at 27) ?_
          refine e_iload_n 3 (dec_at dX5_at 28) rfl rfl ?_
          refine e_iadd (dec_at dX5_at 29) ?_
          refine e_iald (dec_at dX5_at 30) rfl (by decide) (aLk_12 _) (by omega) (fun r57 => ?_)
          refine e_ireturn (dec_at dX5_at 31) rfl ?_
          refine ⟨fx, hI.go fx hx, fun k p hk => ?_⟩
          have hk0 := (hk.uq hF).1
          refine congrArg (fun z => some (vI z)) ?_
          unfold atA
          refine Eq.trans ?_ (if_neg (by omega)).symm
          refine Eq.trans ?_ (if_neg (fun z => z hk0)).symm
          refine Eq.trans ?_ (if_neg (by omega)).symm
          rw [hw c a (by omega) (by omega) (by omega) (by omega)]
        · refine e_ldc (-2000000001) (dec_at dX5_at 21) kcX5_142 (by decide) ?_
          refine e_ireturn (dec_at dX5_at 22) rfl ?_
          refine ⟨fx, hI.go fx hx, fun k p hk => ?_⟩
          have hk0 := (hk.uq hF).1
          refine congrArg (fun z => some (vI z)) ?_
          unfold atA
          refine Eq.trans ?_ (if_neg (by omega)).symm
          refine Eq.trans ?_ (if_neg (fun z => z hk0)).symm
          refine Eq.trans ?_ (if_pos (by omega)).symm
          rfl
    · refine e_ldc (-2000000001) (dec_at dX5_at 6) kcX5_142 (by decide) ?_
      refine e_ireturn (dec_at dX5_at 7) rfl ?_
      refine ⟨FX.rf, hI, fun k p _ => ?_⟩
      refine congrArg (fun z => some (vI z)) ?_
      unfold atA
      refine Eq.trans ?_ (if_pos (by omega)).symm
      rfl

set_option maxRecDepth 100000 in
set_option maxHeartbeats 4000000 in
theorem x_edge {μ : Mm} (l e s : Int) (h_l : inR l) (h_e : inR e) (h_s : inR s) (hI : XI μ) : Mc mX5_edge 6 [vR 0 0, vI l, vI e, vI s] μ (QQ μ (fun k => vI (edgeA μ l e s k))) := by
  refine Mc.of (L := [some (vR 0 0), some (vI l), some (vI e), some (vI s), none]) (by decide +kernel) (by simp [leL, entA, isLong, mX5_edge]) (by simp [entA, isLong, mX5_edge]) ?_
  refine e_iload_n 1 (dec_at dX5_edge 0) rfl rfl ?_
  refine e_callSr (M' := mX5_isLevel) (dec_at dX5_edge 1) mlX5_126 (c_isLevel l h_l) oX5_isLevel sX5_isLevel rfl rfl (by decide) (by decide) (Nat.le_of_ble_eq_true rfl) ?_
  refine e_bne 10 (dec_at dX5_edge 2) (by decide) (fun h4 => ?_) (fun h4 => ?_)
  · refine e_iload_n 3 (dec_at dX5_edge 5) rfl rfl ?_
    refine e_callSr (M' := mX5_isSide) (dec_at dX5_edge 6) mlX5_144 (c_isSide s h_s) oX5_isSide sX5_isSide rfl rfl (by decide) (by decide) (Nat.le_of_ble_eq_true rfl) ?_
    refine e_bne 20 (dec_at dX5_edge 7) (by decide) (fun h14 => ?_) (fun h14 => ?_)
    · refine e_aload_n 0 (dec_at dX5_edge 10) rfl rfl ?_
      refine e_getr 1 (dec_at dX5_edge 11) flX5_19 rfl rfl ?_
      refine e_iload_n 1 (dec_at dX5_edge 12) rfl rfl ?_
      refine e_callV (M' := mX4_reach) (dec_at dX5_edge 13) mlX5_129 (c_reach (μ := μ) l hI.1 hI.2.1 hI.2.2.1 (by omega) hI.2.2.2) oX4_reach iX4_reach rfl rfl rfl rfl (by decide) (by decide) (Nat.le_of_ble_eq_true rfl) (fun r ν hQ => ?_)
      obtain ⟨fr, hx, hq4, hor⟩ := hQ
      have fx : FX μ ν := fr
      rcases hor with ⟨h51, rfl⟩ | ⟨h51, rfl, h6⟩
      · show Ev mX5_edge 6 28 _ [vN] ν _
        refine e_as4 (dec_at dX5_edge 14) (by decide) rfl ?_
        refine e_aload (dec_at dX5_edge 15) rfl ?_
        refine e_ifnonnull 38 (dec_at dX5_edge 16) (by decide) (fun h => absurd rfl h) (fun _ => ?_)
        refine e_bipush (dec_at dX5_edge 17) (by decide) ?_
        refine e_ireturn (dec_at dX5_edge 18) rfl ?_
        refine ⟨fx, hI.go fx hx, fun k p hk => ?_⟩
        have hke := (hk.uq (IsF_cg fx.sb.bse (hx.resolve_left (fun q => by omega)).2.1)).1
        have hk0 : k ≠ 0 := by rw [hke]; exact h51
        refine congrArg (fun z => some (vI z)) ?_
        unfold edgeA
        refine Eq.trans ?_ (if_neg (by omega)).symm
        refine Eq.trans ?_ (if_neg (by omega)).symm
        refine Eq.trans ?_ (if_pos hk0).symm
        rfl
      · show Ev mX5_edge 6 28 _ [vR 11 l] ν _
        obtain ⟨nb1, nb2, ns, hc1, gA, aA, hw, hF⟩ := XL hI fx hx hq4 h51 (by omega) h6
        have q0 : Lv μ l 0 0 = ν 11 l 0 := aA.1.1
        have q1 : Lv μ l 0 1 = ν 11 l 1 := aA.1.2.1
        have q2 : Lv μ l 0 2 = ν 11 l 2 := aA.2.1
        have qn : nN (Lv μ l) = ν 13 l (ν 11 l 1) := aA.n gA.1.2.1.1
        have qf : ∀ f, 0 ≤ f → f ≤ ν 11 l 1 → Lv μ l 2 f = ν 13 l f := fun f a b => aA.1.2.2.1 f a (by rw [q1]; exact b)
        have qr : ∀ s, 0 ≤ s → s < ν 13 l (ν 11 l 1) → Lv μ l 3 s = ν 14 l s := fun s a b => aA.1.2.2.2 s a (by rw [qn]; exact b)
        have qm : ∀ e, 0 ≤ e → e < ν 11 l 2 → Lv μ l 7 e = ν 18 l e := fun e a b => aA.2.2.2.1 e a (by rw [q2]; exact b)
        have qx : ∀ s, 0 ≤ s → s < ν 13 l (ν 11 l 1) → nx (Lv μ l) s = nxF (ν 13 l) (ν 15 l) s := fun s a b => (aA.nxe gA.1.2.1 a (by rw [qn]; exact b)).symm
        have hCc := capC_in l
        have hCp := capP_in l
        have hCe := capE_in l
        have hb1 := nb1.1
        have hb2 := nb1.2.1
        have hb3 := nb1.2.2.1
        have hb4 := nb2.1
        refine e_as4 (dec_at dX5_edge 14) (by decide) rfl ?_
        refine e_aload (dec_at dX5_edge 15) rfl ?_
        refine e_ifnonnull 38 (dec_at dX5_edge 16) (by decide) (fun _ => ?_) (fun h => absurd h (by simp))
        refine e_iload_n 2 (dec_at dX5_edge 19) rfl rfl ?_
        refine e_if_lt 51 (dec_at dX5_edge 20) (by decide) (by omega) (fun h39 => ?_) (fun h39 => ?_)
        · refine e_bipush (dec_at dX5_edge 25) (by decide) ?_
          refine e_ireturn (dec_at dX5_edge 26) rfl ?_
          refine ⟨fx, hI.go fx hx, fun k p hk => ?_⟩
          have hk0 := (hk.uq hF).1
          refine congrArg (fun z => some (vI z)) ?_
          unfold edgeA
          refine Eq.trans ?_ (if_neg (by omega)).symm
          refine Eq.trans ?_ (if_neg (by omega)).symm
          refine Eq.trans ?_ (if_neg (fun z => z hk0)).symm
          refine Eq.trans ?_ (if_pos (by omega)).symm
          rfl
        · refine e_iload_n 2 (dec_at dX5_edge 21) rfl rfl ?_
          refine e_aload (dec_at dX5_edge 22) rfl ?_
          refine e_geti 2 2 (dec_at dX5_edge 23) flX5_133 rfl rfl rfl (fun r45 => ?_)
          refine e_icmp_lt 54 (dec_at dX5_edge 24) (by decide) (by omega) (by omega) (fun h48 => ?_) (fun h48 => ?_)
          · refine e_iload_n 3 (dec_at dX5_edge 27) rfl rfl ?_
            refine e_if_ne 67 (dec_at dX5_edge 28) (by decide) (by omega) (fun h55 => ?_) (fun h55 => ?_)
            · refine e_aload (dec_at dX5_edge 33) rfl ?_
              refine e_iload_n 2 (dec_at dX5_edge 34) rfl rfl ?_
              refine e_callVr (M' := mX2_whither) (dec_at dX5_edge 35) mlX5_150 (c_whither (μ := ν) l e nb1 nb2 (by omega) (by omega)) oX2_whither iX2_whither rfl rfl rfl rfl (by decide) (by decide) (Nat.le_of_ble_eq_true rfl) ?_
              refine e_ireturn (dec_at dX5_edge 36) rfl ?_
              refine ⟨fx, hI.go fx hx, fun k p hk => ?_⟩
              have hk0 := (hk.uq hF).1
              have he := nb2.2 e (by omega) (by omega)
              have hxx := nb1.nx he.1 he.2
              refine congrArg (fun z => some (vI z)) ?_
              unfold edgeA
              refine Eq.trans ?_ (if_neg (by omega)).symm
              refine Eq.trans ?_ (if_neg (by omega)).symm
              refine Eq.trans ?_ (if_neg (fun z => z hk0)).symm
              refine Eq.trans ?_ (if_neg (by omega)).symm
              by_cases hs0 : s = 0
              · refine Eq.trans ?_ (if_pos hs0).symm
                first | (rw [qm e (by omega) (by omega), qr _ he.1 he.2]; done) | (exfalso; omega)
              · refine Eq.trans ?_ (if_neg hs0).symm
                first | (rw [qm e (by omega) (by omega), qx _ he.1 he.2, qr _ hxx.1 hxx.2]; done) | (exfalso; omega)
            · refine e_aload (dec_at dX5_edge 29) rfl ?_
              refine e_iload_n 2 (dec_at dX5_edge 30) rfl rfl ?_
              refine e_callVr (M' := mX2_whence) (dec_at dX5_edge 31) mlX5_147 (c_whence (μ := ν) l e nb1 nb2 (by omega) (by omega)) oX2_whence iX2_whence rfl rfl rfl rfl (by decide) (by decide) (Nat.le_of_ble_eq_true rfl) ?_
              refine e_goto 73 (dec_at dX5_edge 32) (by decide) ?_
              refine e_ireturn (dec_at dX5_edge 36) rfl ?_
              refine ⟨fx, hI.go fx hx, fun k p hk => ?_⟩
              have hk0 := (hk.uq hF).1
              have he := nb2.2 e (by omega) (by omega)
              have hxx := nb1.nx he.1 he.2
              refine congrArg (fun z => some (vI z)) ?_
              unfold edgeA
              refine Eq.trans ?_ (if_neg (by omega)).symm
              refine Eq.trans ?_ (if_neg (by omega)).symm
              refine Eq.trans ?_ (if_neg (fun z => z hk0)).symm
              refine Eq.trans ?_ (if_neg (by omega)).symm
              by_cases hs0 : s = 0
              · refine Eq.trans ?_ (if_pos hs0).symm
                first | (rw [qm e (by omega) (by omega), qr _ he.1 he.2]; done) | (exfalso; omega)
              · refine Eq.trans ?_ (if_neg hs0).symm
                first | (rw [qm e (by omega) (by omega), qx _ he.1 he.2, qr _ hxx.1 hxx.2]; done) | (exfalso; omega)
          · refine e_bipush (dec_at dX5_edge 25) (by decide) ?_
            refine e_ireturn (dec_at dX5_edge 26) rfl ?_
            refine ⟨fx, hI.go fx hx, fun k p hk => ?_⟩
            have hk0 := (hk.uq hF).1
            refine congrArg (fun z => some (vI z)) ?_
            unfold edgeA
            refine Eq.trans ?_ (if_neg (by omega)).symm
            refine Eq.trans ?_ (if_neg (by omega)).symm
            refine Eq.trans ?_ (if_neg (fun z => z hk0)).symm
            refine Eq.trans ?_ (if_pos (by omega)).symm
            rfl
    · refine e_bipush (dec_at dX5_edge 8) (by decide) ?_
      refine e_ireturn (dec_at dX5_edge 9) rfl ?_
      refine ⟨FX.rf, hI, fun k p _ => ?_⟩
      refine congrArg (fun z => some (vI z)) ?_
      unfold edgeA
      refine Eq.trans ?_ (if_neg (by omega)).symm
      refine Eq.trans ?_ (if_pos (by omega)).symm
      rfl
  · refine e_bipush (dec_at dX5_edge 3) (by decide) ?_
    refine e_ireturn (dec_at dX5_edge 4) rfl ?_
    refine ⟨FX.rf, hI, fun k p _ => ?_⟩
    refine congrArg (fun z => some (vI z)) ?_
    unfold edgeA
    refine Eq.trans ?_ (if_pos (by omega)).symm
    rfl

set_option maxRecDepth 100000 in
set_option maxHeartbeats 4000000 in
theorem x_size {μ : Mm} (l f : Int) (h_l : inR l) (h_f : inR f) (hI : XI μ) : Mc mX5_size 6 [vR 0 0, vI l, vI f] μ (QQ μ (fun k => vI (sizeA μ l f k))) := by
  refine Mc.of (L := [some (vR 0 0), some (vI l), some (vI f), none]) (by decide +kernel) (by simp [leL, entA, isLong, mX5_size]) (by simp [entA, isLong, mX5_size]) ?_
  refine e_iload_n 1 (dec_at dX5_size 0) rfl rfl ?_
  refine e_callSr (M' := mX5_isLevel) (dec_at dX5_size 1) mlX5_126 (c_isLevel l h_l) oX5_isLevel sX5_isLevel rfl rfl (by decide) (by decide) (Nat.le_of_ble_eq_true rfl) ?_
  refine e_bne 10 (dec_at dX5_size 2) (by decide) (fun h4 => ?_) (fun h4 => ?_)
  · refine e_aload_n 0 (dec_at dX5_size 5) rfl rfl ?_
    refine e_getr 1 (dec_at dX5_size 6) flX5_19 rfl rfl ?_
    refine e_iload_n 1 (dec_at dX5_size 7) rfl rfl ?_
    refine e_callV (M' := mX4_reach) (dec_at dX5_size 8) mlX5_129 (c_reach (μ := μ) l hI.1 hI.2.1 hI.2.2.1 (by omega) hI.2.2.2) oX4_reach iX4_reach rfl rfl rfl rfl (by decide) (by decide) (Nat.le_of_ble_eq_true rfl) (fun r ν hQ => ?_)
    obtain ⟨fr, hx, hq4, hor⟩ := hQ
    have fx : FX μ ν := fr
    rcases hor with ⟨h51, rfl⟩ | ⟨h51, rfl, h6⟩
    · show Ev mX5_size 6 18 _ [vN] ν _
      refine e_as3 (dec_at dX5_size 9) (by decide) rfl ?_
      refine e_aload_n 3 (dec_at dX5_size 10) rfl rfl ?_
      refine e_ifnonnull 26 (dec_at dX5_size 11) (by decide) (fun h => absurd rfl h) (fun _ => ?_)
      refine e_bipush (dec_at dX5_size 12) (by decide) ?_
      refine e_ireturn (dec_at dX5_size 13) rfl ?_
      refine ⟨fx, hI.go fx hx, fun k p hk => ?_⟩
      have hke := (hk.uq (IsF_cg fx.sb.bse (hx.resolve_left (fun q => by omega)).2.1)).1
      have hk0 : k ≠ 0 := by rw [hke]; exact h51
      refine congrArg (fun z => some (vI z)) ?_
      unfold sizeA
      refine Eq.trans ?_ (if_neg (by omega)).symm
      refine Eq.trans ?_ (if_pos hk0).symm
      rfl
    · show Ev mX5_size 6 18 _ [vR 11 l] ν _
      obtain ⟨nb1, nb2, ns, hc1, gA, aA, hw, hF⟩ := XL hI fx hx hq4 h51 (by omega) h6
      have q0 : Lv μ l 0 0 = ν 11 l 0 := aA.1.1
      have q1 : Lv μ l 0 1 = ν 11 l 1 := aA.1.2.1
      have q2 : Lv μ l 0 2 = ν 11 l 2 := aA.2.1
      have qn : nN (Lv μ l) = ν 13 l (ν 11 l 1) := aA.n gA.1.2.1.1
      have qf : ∀ f, 0 ≤ f → f ≤ ν 11 l 1 → Lv μ l 2 f = ν 13 l f := fun f a b => aA.1.2.2.1 f a (by rw [q1]; exact b)
      have qr : ∀ s, 0 ≤ s → s < ν 13 l (ν 11 l 1) → Lv μ l 3 s = ν 14 l s := fun s a b => aA.1.2.2.2 s a (by rw [qn]; exact b)
      have qm : ∀ e, 0 ≤ e → e < ν 11 l 2 → Lv μ l 7 e = ν 18 l e := fun e a b => aA.2.2.2.1 e a (by rw [q2]; exact b)
      have qx : ∀ s, 0 ≤ s → s < ν 13 l (ν 11 l 1) → nx (Lv μ l) s = nxF (ν 13 l) (ν 15 l) s := fun s a b => (aA.nxe gA.1.2.1 a (by rw [qn]; exact b)).symm
      have hCc := capC_in l
      have hCp := capP_in l
      have hCe := capE_in l
      have hb1 := nb1.1
      have hb2 := nb1.2.1
      have hb3 := nb1.2.2.1
      have hb4 := nb2.1
      refine e_as3 (dec_at dX5_size 9) (by decide) rfl ?_
      refine e_aload_n 3 (dec_at dX5_size 10) rfl rfl ?_
      refine e_ifnonnull 26 (dec_at dX5_size 11) (by decide) (fun _ => ?_) (fun h => absurd h (by simp))
      refine e_aload_n 3 (dec_at dX5_size 14) rfl rfl ?_
      refine e_iload_n 2 (dec_at dX5_size 15) rfl rfl ?_
      refine e_callVr (M' := mX2_hasPlate) (dec_at dX5_size 16) mlX5_98 (c_hasPlate (μ := ν) l f h_f) oX2_hasPlate iX2_hasPlate rfl rfl rfl rfl (by decide) (by decide) (Nat.le_of_ble_eq_true rfl) ?_
      refine e_bne 37 (dec_at dX5_size 17) (by decide) (fun h31 => ?_) (fun h31 => ?_)
      · refine e_aload_n 3 (dec_at dX5_size 20) rfl rfl ?_
        refine e_iload_n 2 (dec_at dX5_size 21) rfl rfl ?_
        refine e_callVr (M' := mX2_sizeOf) (dec_at dX5_size 22) mlX5_153 (c_sizeOf (μ := ν) l f (by omega)) oX2_sizeOf iX2_sizeOf rfl rfl rfl rfl (by decide) (by decide) (Nat.le_of_ble_eq_true rfl) ?_
        refine e_ireturn (dec_at dX5_size 23) rfl ?_
        refine ⟨fx, hI.go fx hx, fun k p hk => ?_⟩
        have hk0 := (hk.uq hF).1
        refine congrArg (fun z => some (vI z)) ?_
        unfold sizeA
        refine Eq.trans ?_ (if_neg (by omega)).symm
        refine Eq.trans ?_ (if_neg (fun z => z hk0)).symm
        refine Eq.trans ?_ (if_neg (by omega)).symm
        rw [qf f (by omega) (by omega), qf (f + 1) (by omega) (by omega)]
      · refine e_bipush (dec_at dX5_size 18) (by decide) ?_
        refine e_ireturn (dec_at dX5_size 19) rfl ?_
        refine ⟨fx, hI.go fx hx, fun k p hk => ?_⟩
        have hk0 := (hk.uq hF).1
        refine congrArg (fun z => some (vI z)) ?_
        unfold sizeA
        refine Eq.trans ?_ (if_neg (by omega)).symm
        refine Eq.trans ?_ (if_neg (fun z => z hk0)).symm
        refine Eq.trans ?_ (if_pos (by omega)).symm
        rfl
  · refine e_bipush (dec_at dX5_size 3) (by decide) ?_
    refine e_ireturn (dec_at dX5_size 4) rfl ?_
    refine ⟨FX.rf, hI, fun k p _ => ?_⟩
    refine congrArg (fun z => some (vI z)) ?_
    unfold sizeA
    refine Eq.trans ?_ (if_pos (by omega)).symm
    rfl

set_option maxRecDepth 100000 in
set_option maxHeartbeats 4000000 in
theorem x_ring {μ : Mm} (l f j : Int) (h_l : inR l) (h_f : inR f) (h_j : inR j) (hI : XI μ) : Mc mX5_ring 6 [vR 0 0, vI l, vI f, vI j] μ (QQ μ (fun k => vI (ringA μ l f j k))) := by
  refine Mc.of (L := [some (vR 0 0), some (vI l), some (vI f), some (vI j), none]) (by decide +kernel) (by simp [leL, entA, isLong, mX5_ring]) (by simp [entA, isLong, mX5_ring]) ?_
  refine e_iload_n 1 (dec_at dX5_ring 0) rfl rfl ?_
  refine e_callSr (M' := mX5_isLevel) (dec_at dX5_ring 1) mlX5_126 (c_isLevel l h_l) oX5_isLevel sX5_isLevel rfl rfl (by decide) (by decide) (Nat.le_of_ble_eq_true rfl) ?_
  refine e_bne 10 (dec_at dX5_ring 2) (by decide) (fun h4 => ?_) (fun h4 => ?_)
  · refine e_aload_n 0 (dec_at dX5_ring 5) rfl rfl ?_
    refine e_getr 1 (dec_at dX5_ring 6) flX5_19 rfl rfl ?_
    refine e_iload_n 1 (dec_at dX5_ring 7) rfl rfl ?_
    refine e_callV (M' := mX4_reach) (dec_at dX5_ring 8) mlX5_129 (c_reach (μ := μ) l hI.1 hI.2.1 hI.2.2.1 (by omega) hI.2.2.2) oX4_reach iX4_reach rfl rfl rfl rfl (by decide) (by decide) (Nat.le_of_ble_eq_true rfl) (fun r ν hQ => ?_)
    obtain ⟨fr, hx, hq4, hor⟩ := hQ
    have fx : FX μ ν := fr
    rcases hor with ⟨h51, rfl⟩ | ⟨h51, rfl, h6⟩
    · show Ev mX5_ring 6 18 _ [vN] ν _
      refine e_as4 (dec_at dX5_ring 9) (by decide) rfl ?_
      refine e_aload (dec_at dX5_ring 10) rfl ?_
      refine e_ifnonnull 28 (dec_at dX5_ring 11) (by decide) (fun h => absurd rfl h) (fun _ => ?_)
      refine e_bipush (dec_at dX5_ring 12) (by decide) ?_
      refine e_ireturn (dec_at dX5_ring 13) rfl ?_
      refine ⟨fx, hI.go fx hx, fun k p hk => ?_⟩
      have hke := (hk.uq (IsF_cg fx.sb.bse (hx.resolve_left (fun q => by omega)).2.1)).1
      have hk0 : k ≠ 0 := by rw [hke]; exact h51
      refine congrArg (fun z => some (vI z)) ?_
      unfold ringA
      refine Eq.trans ?_ (if_neg (by omega)).symm
      refine Eq.trans ?_ (if_pos hk0).symm
      rfl
    · show Ev mX5_ring 6 18 _ [vR 11 l] ν _
      obtain ⟨nb1, nb2, ns, hc1, gA, aA, hw, hF⟩ := XL hI fx hx hq4 h51 (by omega) h6
      have q0 : Lv μ l 0 0 = ν 11 l 0 := aA.1.1
      have q1 : Lv μ l 0 1 = ν 11 l 1 := aA.1.2.1
      have q2 : Lv μ l 0 2 = ν 11 l 2 := aA.2.1
      have qn : nN (Lv μ l) = ν 13 l (ν 11 l 1) := aA.n gA.1.2.1.1
      have qf : ∀ f, 0 ≤ f → f ≤ ν 11 l 1 → Lv μ l 2 f = ν 13 l f := fun f a b => aA.1.2.2.1 f a (by rw [q1]; exact b)
      have qr : ∀ s, 0 ≤ s → s < ν 13 l (ν 11 l 1) → Lv μ l 3 s = ν 14 l s := fun s a b => aA.1.2.2.2 s a (by rw [qn]; exact b)
      have qm : ∀ e, 0 ≤ e → e < ν 11 l 2 → Lv μ l 7 e = ν 18 l e := fun e a b => aA.2.2.2.1 e a (by rw [q2]; exact b)
      have qx : ∀ s, 0 ≤ s → s < ν 13 l (ν 11 l 1) → nx (Lv μ l) s = nxF (ν 13 l) (ν 15 l) s := fun s a b => (aA.nxe gA.1.2.1 a (by rw [qn]; exact b)).symm
      have hCc := capC_in l
      have hCp := capP_in l
      have hCe := capE_in l
      have hb1 := nb1.1
      have hb2 := nb1.2.1
      have hb3 := nb1.2.2.1
      have hb4 := nb2.1
      refine e_as4 (dec_at dX5_ring 9) (by decide) rfl ?_
      refine e_aload (dec_at dX5_ring 10) rfl ?_
      refine e_ifnonnull 28 (dec_at dX5_ring 11) (by decide) (fun _ => ?_) (fun h => absurd h (by simp))
      refine e_aload (dec_at dX5_ring 14) rfl ?_
      refine e_iload_n 2 (dec_at dX5_ring 15) rfl rfl ?_
      refine e_callVr (M' := mX2_hasPlate) (dec_at dX5_ring 16) mlX5_98 (c_hasPlate (μ := ν) l f h_f) oX2_hasPlate iX2_hasPlate rfl rfl rfl rfl (by decide) (by decide) (Nat.le_of_ble_eq_true rfl) ?_
      refine e_bne 40 (dec_at dX5_ring 17) (by decide) (fun h34 => ?_) (fun h34 => ?_)
      · have hff := nb1.2.2.2.1 f (by omega) (by omega)
        refine e_iload_n 3 (dec_at dX5_ring 20) rfl rfl ?_
        refine e_if_lt 54 (dec_at dX5_ring 21) (by decide) (by omega) (fun h41 => ?_) (fun h41 => ?_)
        · refine e_iconst (dec_at dX5_ring 27) ?_
          refine e_ireturn (dec_at dX5_ring 28) rfl ?_
          refine ⟨fx, hI.go fx hx, fun k p hk => ?_⟩
          have hk0 := (hk.uq hF).1
          refine congrArg (fun z => some (vI z)) ?_
          unfold ringA
          refine Eq.trans ?_ (if_neg (by omega)).symm
          refine Eq.trans ?_ (if_neg (fun z => z hk0)).symm
          refine Eq.trans ?_ (if_neg (by omega)).symm
          rw [qf f (by omega) (by omega), qf (f + 1) (by omega) (by omega)]
          exact (if_pos (by omega)).symm
        · refine e_iload_n 3 (dec_at dX5_ring 22) rfl rfl ?_
          refine e_aload (dec_at dX5_ring 23) rfl ?_
          refine e_iload_n 2 (dec_at dX5_ring 24) rfl rfl ?_
          refine e_callVr (M' := mX2_sizeOf) (dec_at dX5_ring 25) mlX5_153 (c_sizeOf (μ := ν) l f (by omega)) oX2_sizeOf iX2_sizeOf rfl rfl rfl rfl (by decide) (by decide) (Nat.le_of_ble_eq_true rfl) ?_
          refine e_icmp_lt 56 (dec_at dX5_ring 26) (by decide) (by omega) (by omega) (fun h51 => ?_) (fun h51 => ?_)
          · refine e_aload (dec_at dX5_ring 29) rfl ?_
            refine e_getr 5 (dec_at dX5_ring 30) flX5_156 rfl rfl ?_
            refine e_aload (dec_at dX5_ring 31) rfl ?_
            refine e_getr 4 (dec_at dX5_ring 32) flX5_159 rfl rfl ?_
            refine e_iload_n 2 (dec_at dX5_ring 33) rfl rfl ?_
            refine e_iald (dec_at dX5_ring 34) rfl (by decide) (aLk_13 _) (by omega) (fun r67 => ?_)
            refine e_iload_n 3 (dec_at dX5_ring 35) rfl rfl ?_
            refine e_iadd (dec_at dX5_ring 36) ?_
            refine e_iald (dec_at dX5_ring 37) rfl (by decide) (aLk_14 _) (by omega) (fun r70 => ?_)
            refine e_ireturn (dec_at dX5_ring 38) rfl ?_
            refine ⟨fx, hI.go fx hx, fun k p hk => ?_⟩
            have hk0 := (hk.uq hF).1
            refine congrArg (fun z => some (vI z)) ?_
            unfold ringA
            refine Eq.trans ?_ (if_neg (by omega)).symm
            refine Eq.trans ?_ (if_neg (fun z => z hk0)).symm
            refine Eq.trans ?_ (if_neg (by omega)).symm
            rw [qf f (by omega) (by omega), qf (f + 1) (by omega) (by omega)]
            refine Eq.trans ?_ (if_neg (by omega)).symm
            rw [qr _ (by omega) (by omega)]
          · refine e_iconst (dec_at dX5_ring 27) ?_
            refine e_ireturn (dec_at dX5_ring 28) rfl ?_
            refine ⟨fx, hI.go fx hx, fun k p hk => ?_⟩
            have hk0 := (hk.uq hF).1
            refine congrArg (fun z => some (vI z)) ?_
            unfold ringA
            refine Eq.trans ?_ (if_neg (by omega)).symm
            refine Eq.trans ?_ (if_neg (fun z => z hk0)).symm
            refine Eq.trans ?_ (if_neg (by omega)).symm
            rw [qf f (by omega) (by omega), qf (f + 1) (by omega) (by omega)]
            exact (if_pos (by omega)).symm
      · refine e_bipush (dec_at dX5_ring 18) (by decide) ?_
        refine e_ireturn (dec_at dX5_ring 19) rfl ?_
        refine ⟨fx, hI.go fx hx, fun k p hk => ?_⟩
        have hk0 := (hk.uq hF).1
        refine congrArg (fun z => some (vI z)) ?_
        unfold ringA
        refine Eq.trans ?_ (if_neg (by omega)).symm
        refine Eq.trans ?_ (if_neg (fun z => z hk0)).symm
        refine Eq.trans ?_ (if_pos (by omega)).symm
        rfl
  · refine e_bipush (dec_at dX5_ring 3) (by decide) ?_
    refine e_ireturn (dec_at dX5_ring 4) rfl ?_
    refine ⟨FX.rf, hI, fun k p _ => ?_⟩
    refine congrArg (fun z => some (vI z)) ?_
    unfold ringA
    refine Eq.trans ?_ (if_pos (by omega)).symm
    rfl

set_option maxRecDepth 100000 in
set_option maxHeartbeats 4000000 in
theorem x_middle {μ : Mm} (l f a : Int) (h_l : inR l) (h_f : inR f) (h_a : inR a) (hI : XI μ) : Mc mX5_middle 6 [vR 0 0, vI l, vI f, vI a] μ (QQ μ (fun k => vI (middleA μ l f a k))) := by
  refine Mc.of (L := [some (vR 0 0), some (vI l), some (vI f), some (vI a), none]) (by decide +kernel) (by simp [leL, entA, isLong, mX5_middle]) (by simp [entA, isLong, mX5_middle]) ?_
  refine e_iload_n 1 (dec_at dX5_middle 0) rfl rfl ?_
  refine e_callSr (M' := mX5_isLevel) (dec_at dX5_middle 1) mlX5_126 (c_isLevel l h_l) oX5_isLevel sX5_isLevel rfl rfl (by decide) (by decide) (Nat.le_of_ble_eq_true rfl) ?_
  refine e_beq 14 (dec_at dX5_middle 2) (by decide) (fun h4 => ?_) (fun h4 => ?_)
  · refine e_ldc (-2000000001) (dec_at dX5_middle 6) kcX5_142 (by decide) ?_
    refine e_ireturn (dec_at dX5_middle 7) rfl ?_
    refine ⟨FX.rf, hI, fun k p _ => ?_⟩
    refine congrArg (fun z => some (vI z)) ?_
    unfold middleA
    refine Eq.trans ?_ (if_pos (by omega)).symm
    rfl
  · refine e_iload_n 3 (dec_at dX5_middle 3) rfl rfl ?_
    refine e_callSr (M' := mX5_isAxis) (dec_at dX5_middle 4) mlX5_79 (c_isAxis a h_a) oX5_isAxis sX5_isAxis rfl rfl (by decide) (by decide) (Nat.le_of_ble_eq_true rfl) ?_
    refine e_bne 17 (dec_at dX5_middle 5) (by decide) (fun h11 => ?_) (fun h11 => ?_)
    · refine e_aload_n 0 (dec_at dX5_middle 8) rfl rfl ?_
      refine e_getr 1 (dec_at dX5_middle 9) flX5_19 rfl rfl ?_
      refine e_iload_n 1 (dec_at dX5_middle 10) rfl rfl ?_
      refine e_callV (M' := mX4_reach) (dec_at dX5_middle 11) mlX5_129 (c_reach (μ := μ) l hI.1 hI.2.1 hI.2.2.1 (by omega) hI.2.2.2) oX4_reach iX4_reach rfl rfl rfl rfl (by decide) (by decide) (Nat.le_of_ble_eq_true rfl) (fun r ν hQ => ?_)
      obtain ⟨fr, hx, hq4, hor⟩ := hQ
      have fx : FX μ ν := fr
      rcases hor with ⟨h51, rfl⟩ | ⟨h51, rfl, h6⟩
      · show Ev mX5_middle 6 25 _ [vN] ν _
        refine e_as4 (dec_at dX5_middle 12) (by decide) rfl ?_
        refine e_aload (dec_at dX5_middle 13) rfl ?_
        refine e_ifnonnull 35 (dec_at dX5_middle 14) (by decide) (fun h => absurd rfl h) (fun _ => ?_)
        refine e_ldc (-2000000003) (dec_at dX5_middle 15) kcX5_143 (by decide) ?_
        refine e_ireturn (dec_at dX5_middle 16) rfl ?_
        refine ⟨fx, hI.go fx hx, fun k p hk => ?_⟩
        have hke := (hk.uq (IsF_cg fx.sb.bse (hx.resolve_left (fun q => by omega)).2.1)).1
        have hk0 : k ≠ 0 := by rw [hke]; exact h51
        refine congrArg (fun z => some (vI z)) ?_
        unfold middleA
        refine Eq.trans ?_ (if_neg (by omega)).symm
        refine Eq.trans ?_ (if_pos hk0).symm
        rfl
      · show Ev mX5_middle 6 25 _ [vR 11 l] ν _
        obtain ⟨nb1, nb2, ns, hc1, gA, aA, hw, hF⟩ := XL hI fx hx hq4 h51 (by omega) h6
        have q0 : Lv μ l 0 0 = ν 11 l 0 := aA.1.1
        have q1 : Lv μ l 0 1 = ν 11 l 1 := aA.1.2.1
        have q2 : Lv μ l 0 2 = ν 11 l 2 := aA.2.1
        have qn : nN (Lv μ l) = ν 13 l (ν 11 l 1) := aA.n gA.1.2.1.1
        have qf : ∀ f, 0 ≤ f → f ≤ ν 11 l 1 → Lv μ l 2 f = ν 13 l f := fun f a b => aA.1.2.2.1 f a (by rw [q1]; exact b)
        have qr : ∀ s, 0 ≤ s → s < ν 13 l (ν 11 l 1) → Lv μ l 3 s = ν 14 l s := fun s a b => aA.1.2.2.2 s a (by rw [qn]; exact b)
        have qm : ∀ e, 0 ≤ e → e < ν 11 l 2 → Lv μ l 7 e = ν 18 l e := fun e a b => aA.2.2.2.1 e a (by rw [q2]; exact b)
        have qx : ∀ s, 0 ≤ s → s < ν 13 l (ν 11 l 1) → nx (Lv μ l) s = nxF (ν 13 l) (ν 15 l) s := fun s a b => (aA.nxe gA.1.2.1 a (by rw [qn]; exact b)).symm
        have hCc := capC_in l
        have hCp := capP_in l
        have hCe := capE_in l
        have hb1 := nb1.1
        have hb2 := nb1.2.1
        have hb3 := nb1.2.2.1
        have hb4 := nb2.1
        refine e_as4 (dec_at dX5_middle 12) (by decide) rfl ?_
        refine e_aload (dec_at dX5_middle 13) rfl ?_
        refine e_ifnonnull 35 (dec_at dX5_middle 14) (by decide) (fun _ => ?_) (fun h => absurd h (by simp))
        refine e_aload (dec_at dX5_middle 17) rfl ?_
        refine e_iload_n 2 (dec_at dX5_middle 18) rfl rfl ?_
        refine e_callVr (M' := mX2_hasPlate) (dec_at dX5_middle 19) mlX5_98 (c_hasPlate (μ := ν) l f h_f) oX2_hasPlate iX2_hasPlate rfl rfl rfl rfl (by decide) (by decide) (Nat.le_of_ble_eq_true rfl) ?_
        refine e_bne 47 (dec_at dX5_middle 20) (by decide) (fun h41 => ?_) (fun h41 => ?_)
        · have hff := nb1.2.2.2.1 f (by omega) (by omega)
          refine e_aload (dec_at dX5_middle 23) rfl ?_
          refine e_iload_n 2 (dec_at dX5_middle 24) rfl rfl ?_
          refine e_iload_n 3 (dec_at dX5_middle 25) rfl rfl ?_
          refine e_callVr (M' := mX2_sumOfPlate) (dec_at dX5_middle 26) mlX5_162 (c_sumOfPlate (μ := ν) l f a nb1 (by omega) (by omega) (by omega)) oX2_sumOfPlate iX2_sumOfPlate rfl rfl rfl rfl (by decide) (by decide) (Nat.le_of_ble_eq_true rfl) ?_
          refine e_ireturn (dec_at dX5_middle 27) rfl ?_
          refine ⟨fx, hI.go fx hx, fun k p hk => ?_⟩
          have hk0 := (hk.uq hF).1
          refine congrArg (fun z => some (vI z)) ?_
          unfold middleA
          refine Eq.trans ?_ (if_neg (by omega)).symm
          refine Eq.trans ?_ (if_neg (fun z => z hk0)).symm
          refine Eq.trans ?_ (if_neg (by omega)).symm
          refine (flo_eq (qf f (by omega) (by omega)).symm (qf (f + 1) (by omega) (by omega)).symm rfl (fun s b s0 s1 => ?_))
          have hs := nb1.2.2.2.2 s (by omega) (by omega)
          rw [qr s (by omega) (by omega), hw _ a hs.1.1 hs.1.2 (by omega) (by omega)]
        · refine e_ldc (-2000000001) (dec_at dX5_middle 21) kcX5_142 (by decide) ?_
          refine e_ireturn (dec_at dX5_middle 22) rfl ?_
          refine ⟨fx, hI.go fx hx, fun k p hk => ?_⟩
          have hk0 := (hk.uq hF).1
          refine congrArg (fun z => some (vI z)) ?_
          unfold middleA
          refine Eq.trans ?_ (if_neg (by omega)).symm
          refine Eq.trans ?_ (if_neg (fun z => z hk0)).symm
          refine Eq.trans ?_ (if_pos (by omega)).symm
          rfl
    · refine e_ldc (-2000000001) (dec_at dX5_middle 6) kcX5_142 (by decide) ?_
      refine e_ireturn (dec_at dX5_middle 7) rfl ?_
      refine ⟨FX.rf, hI, fun k p _ => ?_⟩
      refine congrArg (fun z => some (vI z)) ?_
      unfold middleA
      refine Eq.trans ?_ (if_pos (by omega)).symm
      rfl

set_option maxRecDepth 100000 in
set_option maxHeartbeats 4000000 in
theorem x_box {μ : Mm} (l a s : Int) (h_l : inR l) (h_a : inR a) (h_s : inR s) (hI : XI μ) : Mc mX5_box 6 [vR 0 0, vI l, vI a, vI s] μ (QQ μ (fun k => vI (boxA μ l a s k))) := by
  refine Mc.of (L := [some (vR 0 0), some (vI l), some (vI a), some (vI s), none]) (by decide +kernel) (by simp [leL, entA, isLong, mX5_box]) (by simp [entA, isLong, mX5_box]) ?_
  refine e_iload_n 1 (dec_at dX5_box 0) rfl rfl ?_
  refine e_callSr (M' := mX5_isLevel) (dec_at dX5_box 1) mlX5_126 (c_isLevel l h_l) oX5_isLevel sX5_isLevel rfl rfl (by decide) (by decide) (Nat.le_of_ble_eq_true rfl) ?_
  refine e_beq 14 (dec_at dX5_box 2) (by decide) (fun h4 => ?_) (fun h4 => ?_)
  · refine e_ldc (-2000000001) (dec_at dX5_box 6) kcX5_142 (by decide) ?_
    refine e_ireturn (dec_at dX5_box 7) rfl ?_
    refine ⟨FX.rf, hI, fun k p _ => ?_⟩
    refine congrArg (fun z => some (vI z)) ?_
    unfold boxA
    refine Eq.trans ?_ (if_pos (by omega)).symm
    rfl
  · refine e_iload_n 2 (dec_at dX5_box 3) rfl rfl ?_
    refine e_callSr (M' := mX5_isAxis) (dec_at dX5_box 4) mlX5_79 (c_isAxis a h_a) oX5_isAxis sX5_isAxis rfl rfl (by decide) (by decide) (Nat.le_of_ble_eq_true rfl) ?_
    refine e_bne 17 (dec_at dX5_box 5) (by decide) (fun h11 => ?_) (fun h11 => ?_)
    · refine e_iload_n 3 (dec_at dX5_box 8) rfl rfl ?_
      refine e_callSr (M' := mX5_isSide) (dec_at dX5_box 9) mlX5_144 (c_isSide s h_s) oX5_isSide sX5_isSide rfl rfl (by decide) (by decide) (Nat.le_of_ble_eq_true rfl) ?_
      refine e_bne 27 (dec_at dX5_box 10) (by decide) (fun h21 => ?_) (fun h21 => ?_)
      · refine e_aload_n 0 (dec_at dX5_box 13) rfl rfl ?_
        refine e_getr 1 (dec_at dX5_box 14) flX5_19 rfl rfl ?_
        refine e_iload_n 1 (dec_at dX5_box 15) rfl rfl ?_
        refine e_callV (M' := mX4_reach) (dec_at dX5_box 16) mlX5_129 (c_reach (μ := μ) l hI.1 hI.2.1 hI.2.2.1 (by omega) hI.2.2.2) oX4_reach iX4_reach rfl rfl rfl rfl (by decide) (by decide) (Nat.le_of_ble_eq_true rfl) (fun r ν hQ => ?_)
        obtain ⟨fr, hx, hq4, hor⟩ := hQ
        have fx : FX μ ν := fr
        rcases hor with ⟨h51, rfl⟩ | ⟨h51, rfl, h6⟩
        · show Ev mX5_box 6 35 _ [vN] ν _
          refine e_as4 (dec_at dX5_box 17) (by decide) rfl ?_
          refine e_aload (dec_at dX5_box 18) rfl ?_
          refine e_ifnonnull 45 (dec_at dX5_box 19) (by decide) (fun h => absurd rfl h) (fun _ => ?_)
          refine e_ldc (-2000000003) (dec_at dX5_box 20) kcX5_143 (by decide) ?_
          refine e_ireturn (dec_at dX5_box 21) rfl ?_
          refine ⟨fx, hI.go fx hx, fun k p hk => ?_⟩
          have hke := (hk.uq (IsF_cg fx.sb.bse (hx.resolve_left (fun q => by omega)).2.1)).1
          have hk0 : k ≠ 0 := by rw [hke]; exact h51
          refine congrArg (fun z => some (vI z)) ?_
          unfold boxA
          refine Eq.trans ?_ (if_neg (by omega)).symm
          refine Eq.trans ?_ (if_neg (by omega)).symm
          refine Eq.trans ?_ (if_pos hk0).symm
          rfl
        · show Ev mX5_box 6 35 _ [vR 11 l] ν _
          obtain ⟨nb1, nb2, ns, hc1, gA, aA, hw, hF⟩ := XL hI fx hx hq4 h51 (by omega) h6
          have q0 : Lv μ l 0 0 = ν 11 l 0 := aA.1.1
          have q1 : Lv μ l 0 1 = ν 11 l 1 := aA.1.2.1
          have q2 : Lv μ l 0 2 = ν 11 l 2 := aA.2.1
          have qn : nN (Lv μ l) = ν 13 l (ν 11 l 1) := aA.n gA.1.2.1.1
          have qf : ∀ f, 0 ≤ f → f ≤ ν 11 l 1 → Lv μ l 2 f = ν 13 l f := fun f a b => aA.1.2.2.1 f a (by rw [q1]; exact b)
          have qr : ∀ s, 0 ≤ s → s < ν 13 l (ν 11 l 1) → Lv μ l 3 s = ν 14 l s := fun s a b => aA.1.2.2.2 s a (by rw [qn]; exact b)
          have qm : ∀ e, 0 ≤ e → e < ν 11 l 2 → Lv μ l 7 e = ν 18 l e := fun e a b => aA.2.2.2.1 e a (by rw [q2]; exact b)
          have qx : ∀ s, 0 ≤ s → s < ν 13 l (ν 11 l 1) → nx (Lv μ l) s = nxF (ν 13 l) (ν 15 l) s := fun s a b => (aA.nxe gA.1.2.1 a (by rw [qn]; exact b)).symm
          have hCc := capC_in l
          have hCp := capP_in l
          have hCe := capE_in l
          have hb1 := nb1.1
          have hb2 := nb1.2.1
          have hb3 := nb1.2.2.1
          have hb4 := nb2.1
          refine e_as4 (dec_at dX5_box 17) (by decide) rfl ?_
          refine e_aload (dec_at dX5_box 18) rfl ?_
          refine e_ifnonnull 45 (dec_at dX5_box 19) (by decide) (fun _ => ?_) (fun h => absurd h (by simp))
          refine e_iload_n 3 (dec_at dX5_box 22) rfl rfl ?_
          refine e_if_ne 58 (dec_at dX5_box 23) (by decide) (by omega) (fun h46 => ?_) (fun h46 => ?_)
          · refine e_aload (dec_at dX5_box 28) rfl ?_
            refine e_iload_n 2 (dec_at dX5_box 29) rfl rfl ?_
            refine e_callVr (M' := mX2_greatest) (dec_at dX5_box 30) mlX5_170 (c_greatest (μ := ν) l a (by omega) (by omega)) oX2_greatest iX2_greatest rfl rfl rfl rfl (by decide) (by decide) (Nat.le_of_ble_eq_true rfl) ?_
            refine e_ireturn (dec_at dX5_box 31) rfl ?_
            refine ⟨fx, hI.go fx hx, fun k p hk => ?_⟩
            have hk0 := (hk.uq hF).1
            refine congrArg (fun z => some (vI z)) ?_
            unfold boxA
            refine Eq.trans ?_ (if_neg (by omega)).symm
            refine Eq.trans ?_ (if_neg (by omega)).symm
            refine Eq.trans ?_ (if_neg (fun z => z hk0)).symm
            by_cases hs0 : s = 0
            · refine Eq.trans ?_ (if_pos hs0).symm
              first
              | (refine flo_eq rfl q0.symm (by rw [← hw 0 a (by omega) (by omega) (by omega) (by omega)]; congr 1; omega) (fun c b c0 c1 => ?_)
                 show min b _ = min b _
                 rw [hw c a (by omega) (by omega) (by omega) (by omega)]
                 done)
              | (exfalso; omega)
            · refine Eq.trans ?_ (if_neg hs0).symm
              first
              | (refine flo_eq rfl q0.symm (by rw [← hw 0 a (by omega) (by omega) (by omega) (by omega)]; congr 1; omega) (fun c b c0 c1 => ?_)
                 show max b _ = max b _
                 rw [hw c a (by omega) (by omega) (by omega) (by omega)]
                 done)
              | (exfalso; omega)
          · refine e_aload (dec_at dX5_box 24) rfl ?_
            refine e_iload_n 2 (dec_at dX5_box 25) rfl rfl ?_
            refine e_callVr (M' := mX2_least) (dec_at dX5_box 26) mlX5_167 (c_least (μ := ν) l a (by omega) (by omega)) oX2_least iX2_least rfl rfl rfl rfl (by decide) (by decide) (Nat.le_of_ble_eq_true rfl) ?_
            refine e_goto 64 (dec_at dX5_box 27) (by decide) ?_
            refine e_ireturn (dec_at dX5_box 31) rfl ?_
            refine ⟨fx, hI.go fx hx, fun k p hk => ?_⟩
            have hk0 := (hk.uq hF).1
            refine congrArg (fun z => some (vI z)) ?_
            unfold boxA
            refine Eq.trans ?_ (if_neg (by omega)).symm
            refine Eq.trans ?_ (if_neg (by omega)).symm
            refine Eq.trans ?_ (if_neg (fun z => z hk0)).symm
            by_cases hs0 : s = 0
            · refine Eq.trans ?_ (if_pos hs0).symm
              first
              | (refine flo_eq rfl q0.symm (by rw [← hw 0 a (by omega) (by omega) (by omega) (by omega)]; congr 1; omega) (fun c b c0 c1 => ?_)
                 show min b _ = min b _
                 rw [hw c a (by omega) (by omega) (by omega) (by omega)]
                 done)
              | (exfalso; omega)
            · refine Eq.trans ?_ (if_neg hs0).symm
              first
              | (refine flo_eq rfl q0.symm (by rw [← hw 0 a (by omega) (by omega) (by omega) (by omega)]; congr 1; omega) (fun c b c0 c1 => ?_)
                 show max b _ = max b _
                 rw [hw c a (by omega) (by omega) (by omega) (by omega)]
                 done)
              | (exfalso; omega)
      · refine e_ldc (-2000000002) (dec_at dX5_box 11) kcX5_166 (by decide) ?_
        refine e_ireturn (dec_at dX5_box 12) rfl ?_
        refine ⟨FX.rf, hI, fun k p _ => ?_⟩
        refine congrArg (fun z => some (vI z)) ?_
        unfold boxA
        refine Eq.trans ?_ (if_neg (by omega)).symm
        refine Eq.trans ?_ (if_pos (by omega)).symm
        rfl
    · refine e_ldc (-2000000001) (dec_at dX5_box 6) kcX5_142 (by decide) ?_
      refine e_ireturn (dec_at dX5_box 7) rfl ?_
      refine ⟨FX.rf, hI, fun k p _ => ?_⟩
      refine congrArg (fun z => some (vI z)) ?_
      unfold boxA
      refine Eq.trans ?_ (if_pos (by omega)).symm
      rfl

set_option maxRecDepth 100000 in
set_option maxHeartbeats 4000000 in
theorem x_room {μ : Mm} (l : Int) (h_l : inR l) (hI : XI μ) : Mc mX5_room 6 [vR 0 0, vI l] μ (QQ μ (fun k => vL (roomA μ l k))) := by
  refine Mc.of (L := [some (vR 0 0), some (vI l), none]) (by decide +kernel) (by simp [leL, entA, isLong, mX5_room]) (by simp [entA, isLong, mX5_room]) ?_
  refine e_iload_n 1 (dec_at dX5_room 0) rfl rfl ?_
  refine e_callSr (M' := mX5_isLevel) (dec_at dX5_room 1) mlX5_126 (c_isLevel l h_l) oX5_isLevel sX5_isLevel rfl rfl (by decide) (by decide) (Nat.le_of_ble_eq_true rfl) ?_
  refine e_bne 11 (dec_at dX5_room 2) (by decide) (fun h4 => ?_) (fun h4 => ?_)
  · refine e_aload_n 0 (dec_at dX5_room 5) rfl rfl ?_
    refine e_getr 1 (dec_at dX5_room 6) flX5_19 rfl rfl ?_
    refine e_iload_n 1 (dec_at dX5_room 7) rfl rfl ?_
    refine e_callV (M' := mX4_reach) (dec_at dX5_room 8) mlX5_129 (c_reach (μ := μ) l hI.1 hI.2.1 hI.2.2.1 (by omega) hI.2.2.2) oX4_reach iX4_reach rfl rfl rfl rfl (by decide) (by decide) (Nat.le_of_ble_eq_true rfl) (fun r ν hQ => ?_)
    obtain ⟨fr, hx, hq4, hor⟩ := hQ
    have fx : FX μ ν := fr
    rcases hor with ⟨h51, rfl⟩ | ⟨h51, rfl, h6⟩
    · show Ev mX5_room 6 19 _ [vN] ν _
      refine e_as2 (dec_at dX5_room 9) (by decide) rfl ?_
      refine e_aload_n 2 (dec_at dX5_room 10) rfl rfl ?_
      refine e_ifnonnull 28 (dec_at dX5_room 11) (by decide) (fun h => absurd rfl h) (fun _ => ?_)
      refine e_ldc2 (-103) (dec_at dX5_room 12) klX5_175 (by decide) ?_
      refine e_lreturn (dec_at dX5_room 13) rfl ?_
      refine ⟨fx, hI.go fx hx, fun k p hk => ?_⟩
      have hke := (hk.uq (IsF_cg fx.sb.bse (hx.resolve_left (fun q => by omega)).2.1)).1
      have hk0 : k ≠ 0 := by rw [hke]; exact h51
      refine congrArg (fun z => some (vL z)) ?_
      unfold roomA
      refine Eq.trans ?_ (if_neg (by omega)).symm
      refine Eq.trans ?_ (if_pos hk0).symm
      rfl
    · show Ev mX5_room 6 19 _ [vR 11 l] ν _
      obtain ⟨nb1, nb2, ns, hc1, gA, aA, hw, hF⟩ := XL hI fx hx hq4 h51 (by omega) h6
      have q0 : Lv μ l 0 0 = ν 11 l 0 := aA.1.1
      have q1 : Lv μ l 0 1 = ν 11 l 1 := aA.1.2.1
      have q2 : Lv μ l 0 2 = ν 11 l 2 := aA.2.1
      have qn : nN (Lv μ l) = ν 13 l (ν 11 l 1) := aA.n gA.1.2.1.1
      have qf : ∀ f, 0 ≤ f → f ≤ ν 11 l 1 → Lv μ l 2 f = ν 13 l f := fun f a b => aA.1.2.2.1 f a (by rw [q1]; exact b)
      have qr : ∀ s, 0 ≤ s → s < ν 13 l (ν 11 l 1) → Lv μ l 3 s = ν 14 l s := fun s a b => aA.1.2.2.2 s a (by rw [qn]; exact b)
      have qm : ∀ e, 0 ≤ e → e < ν 11 l 2 → Lv μ l 7 e = ν 18 l e := fun e a b => aA.2.2.2.1 e a (by rw [q2]; exact b)
      have qx : ∀ s, 0 ≤ s → s < ν 13 l (ν 11 l 1) → nx (Lv μ l) s = nxF (ν 13 l) (ν 15 l) s := fun s a b => (aA.nxe gA.1.2.1 a (by rw [qn]; exact b)).symm
      have hCc := capC_in l
      have hCp := capP_in l
      have hCe := capE_in l
      have hb1 := nb1.1
      have hb2 := nb1.2.1
      have hb3 := nb1.2.2.1
      have hb4 := nb2.1
      refine e_as2 (dec_at dX5_room 9) (by decide) rfl ?_
      refine e_aload_n 2 (dec_at dX5_room 10) rfl rfl ?_
      refine e_ifnonnull 28 (dec_at dX5_room 11) (by decide) (fun _ => ?_) (fun h => absurd h (by simp))
      refine e_aload_n 2 (dec_at dX5_room 14) rfl rfl ?_
      refine e_callVr (M' := mX2_sixfoldRoom) (dec_at dX5_room 15) mlX5_177 (c_sixfoldRoom (μ := ν) l nb1) oX2_sixfoldRoom iX2_sixfoldRoom rfl rfl rfl rfl (by decide) (by decide) (Nat.le_of_ble_eq_true rfl) ?_
      refine e_lreturn (dec_at dX5_room 16) rfl ?_
      refine ⟨fx, hI.go fx hx, fun k p hk => ?_⟩
      have hk0 := (hk.uq hF).1
      refine congrArg (fun z => some (vL z)) ?_
      unfold roomA
      refine Eq.trans ?_ (if_neg (by omega)).symm
      refine Eq.trans ?_ (if_neg (fun z => z hk0)).symm
      refine (flo_eq rfl q1.symm rfl (fun f b f0 f1 => ?_))
      have hff := nb1.2.2.2.1 f f0 f1
      have hp := nb1.2.2.2.2 (ν 13 l f) (by omega) (by omega)
      refine flo_eq (by rw [qf f (by omega) (by omega)]) (by rw [qf (f + 1) (by omega) (by omega)]) rfl (fun s y s0 s1 => ?_)
      have hs := nb1.2.2.2.2 s (by omega) (by omega)
      have hs2 := nb1.2.2.2.2 (s + 1) (by omega) (by omega)
      rw [qf f (by omega) (by omega), qr _ (by omega) (by omega), qr s (by omega) (by omega), qr (s + 1) (by omega) (by omega)]
      have z0 : ∀ c, 0 ≤ c → c < ν 11 l 0 → ν 12 l (3 * c) = Wn μ l c 0 := fun c c0 c1 => by rw [← hw c 0 c0 c1 (by omega) (by omega), Int.add_zero]
      unfold wdF wdA
      rw [z0 _ hp.1.1 hp.1.2, z0 _ hs.1.1 hs.1.2, z0 _ hs2.1.1 hs2.1.2, hw _ 1 hp.1.1 hp.1.2 (by omega) (by omega), hw _ 2 hp.1.1 hp.1.2 (by omega) (by omega), hw _ 1 hs.1.1 hs.1.2 (by omega) (by omega), hw _ 2 hs.1.1 hs.1.2 (by omega) (by omega), hw _ 1 hs2.1.1 hs2.1.2 (by omega) (by omega), hw _ 2 hs2.1.1 hs2.1.2 (by omega) (by omega)]
  · refine e_ldc2 (-101) (dec_at dX5_room 3) klX5_173 (by decide) ?_
    refine e_lreturn (dec_at dX5_room 4) rfl ?_
    refine ⟨FX.rf, hI, fun k p _ => ?_⟩
    refine congrArg (fun z => some (vL z)) ?_
    unfold roomA
    refine Eq.trans ?_ (if_pos (by omega)).symm
    rfl

set_option maxRecDepth 100000 in
set_option maxHeartbeats 4000000 in
theorem x_cut {μ : Mm} (l a v : Int) (h_l : inR l) (h_a : inR a) (h_v : inR v) (hI : XI μ) : Mc mX5_cut 6 [vR 0 0, vI l, vI a, vI v] μ (QQ μ (fun k => vI (cutA μ l a v k))) := by
  refine Mc.of (L := [some (vR 0 0), some (vI l), some (vI a), some (vI v), none]) (by decide +kernel) (by simp [leL, entA, isLong, mX5_cut]) (by simp [entA, isLong, mX5_cut]) ?_
  refine e_iload_n 1 (dec_at dX5_cut 0) rfl rfl ?_
  refine e_callSr (M' := mX5_isLevel) (dec_at dX5_cut 1) mlX5_126 (c_isLevel l h_l) oX5_isLevel sX5_isLevel rfl rfl (by decide) (by decide) (Nat.le_of_ble_eq_true rfl) ?_
  refine e_beq 14 (dec_at dX5_cut 2) (by decide) (fun h4 => ?_) (fun h4 => ?_)
  · refine e_bipush (dec_at dX5_cut 6) (by decide) ?_
    refine e_ireturn (dec_at dX5_cut 7) rfl ?_
    refine ⟨FX.rf, hI, fun k p _ => ?_⟩
    refine congrArg (fun z => some (vI z)) ?_
    unfold cutA
    refine Eq.trans ?_ (if_pos (by omega)).symm
    rfl
  · refine e_iload_n 2 (dec_at dX5_cut 3) rfl rfl ?_
    refine e_callSr (M' := mX5_isAxis) (dec_at dX5_cut 4) mlX5_79 (c_isAxis a h_a) oX5_isAxis sX5_isAxis rfl rfl (by decide) (by decide) (Nat.le_of_ble_eq_true rfl) ?_
    refine e_bne 17 (dec_at dX5_cut 5) (by decide) (fun h11 => ?_) (fun h11 => ?_)
    · refine e_aload_n 0 (dec_at dX5_cut 8) rfl rfl ?_
      refine e_getr 1 (dec_at dX5_cut 9) flX5_19 rfl rfl ?_
      refine e_iload_n 1 (dec_at dX5_cut 10) rfl rfl ?_
      refine e_callV (M' := mX4_reach) (dec_at dX5_cut 11) mlX5_129 (c_reach (μ := μ) l hI.1 hI.2.1 hI.2.2.1 (by omega) hI.2.2.2) oX4_reach iX4_reach rfl rfl rfl rfl (by decide) (by decide) (Nat.le_of_ble_eq_true rfl) (fun r ν hQ => ?_)
      obtain ⟨fr, hx, hq4, hor⟩ := hQ
      have fx : FX μ ν := fr
      rcases hor with ⟨h51, rfl⟩ | ⟨h51, rfl, h6⟩
      · show Ev mX5_cut 6 25 _ [vN] ν _
        refine e_as4 (dec_at dX5_cut 12) (by decide) rfl ?_
        refine e_aload (dec_at dX5_cut 13) rfl ?_
        refine e_ifnonnull 35 (dec_at dX5_cut 14) (by decide) (fun h => absurd rfl h) (fun _ => ?_)
        refine e_bipush (dec_at dX5_cut 15) (by decide) ?_
        refine e_ireturn (dec_at dX5_cut 16) rfl ?_
        refine ⟨fx, hI.go fx hx, fun k p hk => ?_⟩
        have hke := (hk.uq (IsF_cg fx.sb.bse (hx.resolve_left (fun q => by omega)).2.1)).1
        have hk0 : k ≠ 0 := by rw [hke]; exact h51
        refine congrArg (fun z => some (vI z)) ?_
        unfold cutA
        refine Eq.trans ?_ (if_neg (by omega)).symm
        refine Eq.trans ?_ (if_pos hk0).symm
        rfl
      · show Ev mX5_cut 6 25 _ [vR 11 l] ν _
        obtain ⟨nb1, nb2, ns, hc1, gA, aA, hw, hF⟩ := XL hI fx hx hq4 h51 (by omega) h6
        have q0 : Lv μ l 0 0 = ν 11 l 0 := aA.1.1
        have q1 : Lv μ l 0 1 = ν 11 l 1 := aA.1.2.1
        have q2 : Lv μ l 0 2 = ν 11 l 2 := aA.2.1
        have qn : nN (Lv μ l) = ν 13 l (ν 11 l 1) := aA.n gA.1.2.1.1
        have qf : ∀ f, 0 ≤ f → f ≤ ν 11 l 1 → Lv μ l 2 f = ν 13 l f := fun f a b => aA.1.2.2.1 f a (by rw [q1]; exact b)
        have qr : ∀ s, 0 ≤ s → s < ν 13 l (ν 11 l 1) → Lv μ l 3 s = ν 14 l s := fun s a b => aA.1.2.2.2 s a (by rw [qn]; exact b)
        have qm : ∀ e, 0 ≤ e → e < ν 11 l 2 → Lv μ l 7 e = ν 18 l e := fun e a b => aA.2.2.2.1 e a (by rw [q2]; exact b)
        have qx : ∀ s, 0 ≤ s → s < ν 13 l (ν 11 l 1) → nx (Lv μ l) s = nxF (ν 13 l) (ν 15 l) s := fun s a b => (aA.nxe gA.1.2.1 a (by rw [qn]; exact b)).symm
        have hCc := capC_in l
        have hCp := capP_in l
        have hCe := capE_in l
        have hb1 := nb1.1
        have hb2 := nb1.2.1
        have hb3 := nb1.2.2.1
        have hb4 := nb2.1
        refine e_as4 (dec_at dX5_cut 12) (by decide) rfl ?_
        refine e_aload (dec_at dX5_cut 13) rfl ?_
        refine e_ifnonnull 35 (dec_at dX5_cut 14) (by decide) (fun _ => ?_) (fun h => absurd h (by simp))
        refine e_aload (dec_at dX5_cut 17) rfl ?_
        refine e_iload_n 2 (dec_at dX5_cut 18) rfl rfl ?_
        refine e_iload_n 3 (dec_at dX5_cut 19) rfl rfl ?_
        refine e_callVr (M' := mX2_crossings) (dec_at dX5_cut 20) mlX5_181 (c_crossings (μ := ν) l a v nb1 nb2 (by omega) h_v) oX2_crossings iX2_crossings rfl rfl rfl rfl (by decide) (by decide) (Nat.le_of_ble_eq_true rfl) ?_
        refine e_ireturn (dec_at dX5_cut 21) rfl ?_
        refine ⟨fx, hI.go fx hx, fun k p hk => ?_⟩
        have hk0 := (hk.uq hF).1
        refine congrArg (fun z => some (vI z)) ?_
        unfold cutA
        refine Eq.trans ?_ (if_neg (by omega)).symm
        refine Eq.trans ?_ (if_neg (fun z => z hk0)).symm
        refine (flo_eq rfl q2.symm rfl (fun e x e0 e1 => ?_))
        have he := nb2.2 e (by omega) (by omega)
        have hs := nb1.2.2.2.2 _ he.1 he.2
        have hxx := nb1.nx he.1 he.2
        have ht := nb1.2.2.2.2 _ hxx.1 hxx.2
        rw [qm e e0 e1, qx _ he.1 he.2, qr _ he.1 he.2, qr _ hxx.1 hxx.2, hw _ a hs.1.1 hs.1.2 (by omega) (by omega), hw _ a ht.1.1 ht.1.2 (by omega) (by omega)]
    · refine e_bipush (dec_at dX5_cut 6) (by decide) ?_
      refine e_ireturn (dec_at dX5_cut 7) rfl ?_
      refine ⟨FX.rf, hI, fun k p _ => ?_⟩
      refine congrArg (fun z => some (vI z)) ?_
      unfold cutA
      refine Eq.trans ?_ (if_pos (by omega)).symm
      rfl

set_option maxRecDepth 100000 in
set_option maxHeartbeats 4000000 in
theorem x_near {μ : Mm} (l x y z : Int) (h_l : inR l) (h_x : inR x) (h_y : inR y) (h_z : inR z) (hI : XI μ) : Mc mX5_near 6 [vR 0 0, vI l, vI x, vI y, vI z] μ (QQ μ (fun k => vI (nearA μ l x y z k))) := by
  refine Mc.of (L := [some (vR 0 0), some (vI l), some (vI x), some (vI y), some (vI z), none]) (by decide +kernel) (by simp [leL, entA, isLong, mX5_near]) (by simp [entA, isLong, mX5_near]) ?_
  refine e_iload_n 1 (dec_at dX5_near 0) rfl rfl ?_
  refine e_callSr (M' := mX5_isLevel) (dec_at dX5_near 1) mlX5_126 (c_isLevel l h_l) oX5_isLevel sX5_isLevel rfl rfl (by decide) (by decide) (Nat.le_of_ble_eq_true rfl) ?_
  refine e_bne 10 (dec_at dX5_near 2) (by decide) (fun h4 => ?_) (fun h4 => ?_)
  · refine e_iload_n 2 (dec_at dX5_near 5) rfl rfl ?_
    refine e_iload_n 3 (dec_at dX5_near 6) rfl rfl ?_
    refine e_iload (dec_at dX5_near 7) rfl ?_
    refine e_ldc 100000 (dec_at dX5_near 8) kcX5_184 (by decide) ?_
    refine e_callSr (M' := mX5_areWithin) (dec_at dX5_near 9) mlX5_185 (c_areWithin x y z 100000 h_x h_y h_z (by omega)) oX5_areWithin sX5_areWithin rfl rfl (by decide) (by decide) (Nat.le_of_ble_eq_true rfl) ?_
    refine e_bne 25 (dec_at dX5_near 10) (by decide) (fun h19 => ?_) (fun h19 => ?_)
    · refine e_aload_n 0 (dec_at dX5_near 13) rfl rfl ?_
      refine e_getr 1 (dec_at dX5_near 14) flX5_19 rfl rfl ?_
      refine e_iload_n 1 (dec_at dX5_near 15) rfl rfl ?_
      refine e_callV (M' := mX4_reach) (dec_at dX5_near 16) mlX5_129 (c_reach (μ := μ) l hI.1 hI.2.1 hI.2.2.1 (by omega) hI.2.2.2) oX4_reach iX4_reach rfl rfl rfl rfl (by decide) (by decide) (Nat.le_of_ble_eq_true rfl) (fun r ν hQ => ?_)
      obtain ⟨fr, hx, hq4, hor⟩ := hQ
      have fx : FX μ ν := fr
      rcases hor with ⟨h51, rfl⟩ | ⟨h51, rfl, h6⟩
      · show Ev mX5_near 6 33 _ [vN] ν _
        refine e_as5 (dec_at dX5_near 17) (by decide) rfl ?_
        refine e_aload (dec_at dX5_near 18) rfl ?_
        refine e_ifnonnull 43 (dec_at dX5_near 19) (by decide) (fun h => absurd rfl h) (fun _ => ?_)
        refine e_bipush (dec_at dX5_near 20) (by decide) ?_
        refine e_ireturn (dec_at dX5_near 21) rfl ?_
        refine ⟨fx, hI.go fx hx, fun k p hk => ?_⟩
        have hke := (hk.uq (IsF_cg fx.sb.bse (hx.resolve_left (fun q => by omega)).2.1)).1
        have hk0 : k ≠ 0 := by rw [hke]; exact h51
        refine congrArg (fun z => some (vI z)) ?_
        unfold nearA
        refine Eq.trans ?_ (if_neg (by omega)).symm
        refine Eq.trans ?_ (if_neg (by omega)).symm
        refine Eq.trans ?_ (if_pos hk0).symm
        rfl
      · show Ev mX5_near 6 33 _ [vR 11 l] ν _
        obtain ⟨nb1, nb2, ns, hc1, gA, aA, hw, hF⟩ := XL hI fx hx hq4 h51 (by omega) h6
        have q0 : Lv μ l 0 0 = ν 11 l 0 := aA.1.1
        have q1 : Lv μ l 0 1 = ν 11 l 1 := aA.1.2.1
        have q2 : Lv μ l 0 2 = ν 11 l 2 := aA.2.1
        have qn : nN (Lv μ l) = ν 13 l (ν 11 l 1) := aA.n gA.1.2.1.1
        have qf : ∀ f, 0 ≤ f → f ≤ ν 11 l 1 → Lv μ l 2 f = ν 13 l f := fun f a b => aA.1.2.2.1 f a (by rw [q1]; exact b)
        have qr : ∀ s, 0 ≤ s → s < ν 13 l (ν 11 l 1) → Lv μ l 3 s = ν 14 l s := fun s a b => aA.1.2.2.2 s a (by rw [qn]; exact b)
        have qm : ∀ e, 0 ≤ e → e < ν 11 l 2 → Lv μ l 7 e = ν 18 l e := fun e a b => aA.2.2.2.1 e a (by rw [q2]; exact b)
        have qx : ∀ s, 0 ≤ s → s < ν 13 l (ν 11 l 1) → nx (Lv μ l) s = nxF (ν 13 l) (ν 15 l) s := fun s a b => (aA.nxe gA.1.2.1 a (by rw [qn]; exact b)).symm
        have hCc := capC_in l
        have hCp := capP_in l
        have hCe := capE_in l
        have hb1 := nb1.1
        have hb2 := nb1.2.1
        have hb3 := nb1.2.2.1
        have hb4 := nb2.1
        refine e_as5 (dec_at dX5_near 17) (by decide) rfl ?_
        refine e_aload (dec_at dX5_near 18) rfl ?_
        refine e_ifnonnull 43 (dec_at dX5_near 19) (by decide) (fun _ => ?_) (fun h => absurd h (by simp))
        refine e_aload (dec_at dX5_near 22) rfl ?_
        refine e_iload_n 2 (dec_at dX5_near 23) rfl rfl ?_
        refine e_iload_n 3 (dec_at dX5_near 24) rfl rfl ?_
        refine e_iload (dec_at dX5_near 25) rfl ?_
        refine e_callVr (M' := mX2_nearest) (dec_at dX5_near 26) mlX5_189 (c_nearest (μ := ν) l x y z (by omega) ns (by omega)) oX2_nearest iX2_nearest rfl rfl rfl rfl (by decide) (by decide) (Nat.le_of_ble_eq_true rfl) ?_
        refine e_ireturn (dec_at dX5_near 27) rfl ?_
        refine ⟨fx, hI.go fx hx, fun k p hk => ?_⟩
        have hk0 := (hk.uq hF).1
        have sq : ∀ c, 0 ≤ c → c < ν 11 l 0 → sqF (ν 12 l) x y z c = sqA (Wn μ l) x y z c := fun c c0 c1 => by
          have z0 : ν 12 l (3 * c) = Wn μ l c 0 := by rw [← hw c 0 c0 c1 (by omega) (by omega), Int.add_zero]
          unfold sqF sqA
          rw [z0, hw c 1 c0 c1 (by omega) (by omega), hw c 2 c0 c1 (by omega) (by omega)]
        refine congrArg (fun z => some (vI z)) ?_
        unfold nearA
        refine Eq.trans ?_ (if_neg (by omega)).symm
        refine Eq.trans ?_ (if_neg (by omega)).symm
        refine Eq.trans ?_ (if_neg (fun z => z hk0)).symm
        refine congrArg (fun z : Int × Int => z.1) (flo_eq rfl q0.symm ?_ (fun c b c0 c1 => ?_))
        · rw [sq 0 (by omega) (by omega)]
        · rw [sq c (by omega) (by omega)]
    · refine e_bipush (dec_at dX5_near 11) (by decide) ?_
      refine e_ireturn (dec_at dX5_near 12) rfl ?_
      refine ⟨FX.rf, hI, fun k p _ => ?_⟩
      refine congrArg (fun z => some (vI z)) ?_
      unfold nearA
      refine Eq.trans ?_ (if_neg (by omega)).symm
      refine Eq.trans ?_ (if_pos (by omega)).symm
      rfl
  · refine e_bipush (dec_at dX5_near 3) (by decide) ?_
    refine e_ireturn (dec_at dX5_near 4) rfl ?_
    refine ⟨FX.rf, hI, fun k p _ => ?_⟩
    refine congrArg (fun z => some (vI z)) ?_
    unfold nearA
    refine Eq.trans ?_ (if_pos (by omega)).symm
    rfl

set_option maxRecDepth 100000 in
set_option maxHeartbeats 4000000 in
theorem x_many {μ : Mm} (l w : Int) (h_l : inR l) (h_w : inR w) (hI : XI μ) : Mc mX5_many 6 [vR 0 0, vI l, vI w] μ (QQ μ (fun k => vI (manyA μ l w k))) := by
  refine Mc.of (L := [some (vR 0 0), some (vI l), some (vI w), none]) (by decide +kernel) (by simp [leL, entA, isLong, mX5_many]) (by simp [entA, isLong, mX5_many]) ?_
  refine e_iload_n 1 (dec_at dX5_many 0) rfl rfl ?_
  refine e_callSr (M' := mX5_isLevel) (dec_at dX5_many 1) mlX5_126 (c_isLevel l h_l) oX5_isLevel sX5_isLevel rfl rfl (by decide) (by decide) (Nat.le_of_ble_eq_true rfl) ?_
  refine e_bne 10 (dec_at dX5_many 2) (by decide) (fun h4 => ?_) (fun h4 => ?_)
  · refine e_iload_n 2 (dec_at dX5_many 5) rfl rfl ?_
    refine e_if_lt 19 (dec_at dX5_many 6) (by decide) (by omega) (fun h11 => ?_) (fun h11 => ?_)
    · refine e_bipush (dec_at dX5_many 10) (by decide) ?_
      refine e_ireturn (dec_at dX5_many 11) rfl ?_
      refine ⟨FX.rf, hI, fun k p _ => ?_⟩
      refine congrArg (fun z => some (vI z)) ?_
      unfold manyA
      refine Eq.trans ?_ (if_neg (by omega)).symm
      refine Eq.trans ?_ (if_pos (by omega)).symm
      rfl
    · refine e_iload_n 2 (dec_at dX5_many 7) rfl rfl ?_
      refine e_iconst (dec_at dX5_many 8) ?_
      refine e_icmp_le 22 (dec_at dX5_many 9) (by decide) (by omega) (by omega) (fun h16 => ?_) (fun h16 => ?_)
      · refine e_aload_n 0 (dec_at dX5_many 12) rfl rfl ?_
        refine e_getr 1 (dec_at dX5_many 13) flX5_19 rfl rfl ?_
        refine e_iload_n 1 (dec_at dX5_many 14) rfl rfl ?_
        refine e_callV (M' := mX4_reach) (dec_at dX5_many 15) mlX5_129 (c_reach (μ := μ) l hI.1 hI.2.1 hI.2.2.1 (by omega) hI.2.2.2) oX4_reach iX4_reach rfl rfl rfl rfl (by decide) (by decide) (Nat.le_of_ble_eq_true rfl) (fun r ν hQ => ?_)
        obtain ⟨fr, hx, hq4, hor⟩ := hQ
        have fx : FX μ ν := fr
        rcases hor with ⟨h51, rfl⟩ | ⟨h51, rfl, h6⟩
        · show Ev mX5_many 6 30 _ [vN] ν _
          refine e_as3 (dec_at dX5_many 16) (by decide) rfl ?_
          refine e_aload_n 3 (dec_at dX5_many 17) rfl rfl ?_
          refine e_ifnonnull 38 (dec_at dX5_many 18) (by decide) (fun h => absurd rfl h) (fun _ => ?_)
          refine e_bipush (dec_at dX5_many 19) (by decide) ?_
          refine e_ireturn (dec_at dX5_many 20) rfl ?_
          refine ⟨fx, hI.go fx hx, fun k p hk => ?_⟩
          have hke := (hk.uq (IsF_cg fx.sb.bse (hx.resolve_left (fun q => by omega)).2.1)).1
          have hk0 : k ≠ 0 := by rw [hke]; exact h51
          refine congrArg (fun z => some (vI z)) ?_
          unfold manyA
          refine Eq.trans ?_ (if_neg (by omega)).symm
          refine Eq.trans ?_ (if_neg (by omega)).symm
          refine Eq.trans ?_ (if_pos hk0).symm
          rfl
        · show Ev mX5_many 6 30 _ [vR 11 l] ν _
          obtain ⟨nb1, nb2, ns, hc1, gA, aA, hw, hF⟩ := XL hI fx hx hq4 h51 (by omega) h6
          have q0 : Lv μ l 0 0 = ν 11 l 0 := aA.1.1
          have q1 : Lv μ l 0 1 = ν 11 l 1 := aA.1.2.1
          have q2 : Lv μ l 0 2 = ν 11 l 2 := aA.2.1
          have qn : nN (Lv μ l) = ν 13 l (ν 11 l 1) := aA.n gA.1.2.1.1
          have qf : ∀ f, 0 ≤ f → f ≤ ν 11 l 1 → Lv μ l 2 f = ν 13 l f := fun f a b => aA.1.2.2.1 f a (by rw [q1]; exact b)
          have qr : ∀ s, 0 ≤ s → s < ν 13 l (ν 11 l 1) → Lv μ l 3 s = ν 14 l s := fun s a b => aA.1.2.2.2 s a (by rw [qn]; exact b)
          have qm : ∀ e, 0 ≤ e → e < ν 11 l 2 → Lv μ l 7 e = ν 18 l e := fun e a b => aA.2.2.2.1 e a (by rw [q2]; exact b)
          have qx : ∀ s, 0 ≤ s → s < ν 13 l (ν 11 l 1) → nx (Lv μ l) s = nxF (ν 13 l) (ν 15 l) s := fun s a b => (aA.nxe gA.1.2.1 a (by rw [qn]; exact b)).symm
          have hCc := capC_in l
          have hCp := capP_in l
          have hCe := capE_in l
          have hb1 := nb1.1
          have hb2 := nb1.2.1
          have hb3 := nb1.2.2.1
          have hb4 := nb2.1
          refine e_as3 (dec_at dX5_many 16) (by decide) rfl ?_
          refine e_aload_n 3 (dec_at dX5_many 17) rfl rfl ?_
          refine e_ifnonnull 38 (dec_at dX5_many 18) (by decide) (fun _ => ?_) (fun h => absurd h (by simp))
          refine e_iload_n 2 (dec_at dX5_many 21) rfl rfl ?_
          obtain rfl | rfl | rfl | rfl | rfl | rfl : w = 0 ∨ w = 1 ∨ w = 2 ∨ w = 3 ∨ w = 4 ∨ w = 5 := by omega
          · refine e_tableIn 72 (dec_at dX5_many 22) (by decide) (by decide) (by decide) rfl (by decide) ?_
            refine e_aload_n 3 (dec_at dX5_many 23) rfl rfl ?_
            refine e_geti 0 0 (dec_at dX5_many 24) flX5_60 rfl rfl rfl (fun r73 => ?_)
            refine e_ireturn (dec_at dX5_many 25) rfl ?_
            refine ⟨fx, hI.go fx hx, fun k p hk => ?_⟩
            have hk0 := (hk.uq hF).1
            refine congrArg (fun z => some (vI z)) ?_
            unfold manyA
            refine Eq.trans ?_ (if_neg (by omega)).symm
            refine Eq.trans ?_ (if_neg (by decide)).symm
            refine Eq.trans ?_ (if_neg (fun z => z hk0)).symm
            refine Eq.trans ?_ (if_pos rfl).symm
            rw [q0]
          · refine e_tableIn 77 (dec_at dX5_many 22) (by decide) (by decide) (by decide) rfl (by decide) ?_
            refine e_aload_n 3 (dec_at dX5_many 26) rfl rfl ?_
            refine e_geti 2 2 (dec_at dX5_many 27) flX5_133 rfl rfl rfl (fun r78 => ?_)
            refine e_ireturn (dec_at dX5_many 28) rfl ?_
            refine ⟨fx, hI.go fx hx, fun k p hk => ?_⟩
            have hk0 := (hk.uq hF).1
            refine congrArg (fun z => some (vI z)) ?_
            unfold manyA
            refine Eq.trans ?_ (if_neg (by omega)).symm
            refine Eq.trans ?_ (if_neg (by decide)).symm
            refine Eq.trans ?_ (if_neg (fun z => z hk0)).symm
            refine Eq.trans ?_ (if_neg (by decide)).symm
            refine Eq.trans ?_ (if_pos rfl).symm
            rw [q2]
          · refine e_tableIn 82 (dec_at dX5_many 22) (by decide) (by decide) (by decide) rfl (by decide) ?_
            refine e_aload_n 3 (dec_at dX5_many 29) rfl rfl ?_
            refine e_geti 1 1 (dec_at dX5_many 30) flX5_91 rfl rfl rfl (fun r83 => ?_)
            refine e_ireturn (dec_at dX5_many 31) rfl ?_
            refine ⟨fx, hI.go fx hx, fun k p hk => ?_⟩
            have hk0 := (hk.uq hF).1
            refine congrArg (fun z => some (vI z)) ?_
            unfold manyA
            refine Eq.trans ?_ (if_neg (by omega)).symm
            refine Eq.trans ?_ (if_neg (by decide)).symm
            refine Eq.trans ?_ (if_neg (fun z => z hk0)).symm
            refine Eq.trans ?_ (if_neg (by decide)).symm
            refine Eq.trans ?_ (if_neg (by decide)).symm
            refine Eq.trans ?_ (if_pos rfl).symm
            rw [q1]
          · refine e_tableIn 87 (dec_at dX5_many 22) (by decide) (by decide) (by decide) rfl (by decide) ?_
            refine e_aload_n 3 (dec_at dX5_many 32) rfl rfl ?_
            refine e_callVr (M' := mX2_oddCorners) (dec_at dX5_many 33) mlX5_136 (c_oddCorners (μ := ν) l (by omega)) oX2_oddCorners iX2_oddCorners rfl rfl rfl rfl (by decide) (by decide) (Nat.le_of_ble_eq_true rfl) ?_
            refine e_ireturn (dec_at dX5_many 34) rfl ?_
            refine ⟨fx, hI.go fx hx, fun k p hk => ?_⟩
            have hk0 := (hk.uq hF).1
            refine congrArg (fun z => some (vI z)) ?_
            unfold manyA
            refine Eq.trans ?_ (if_neg (by omega)).symm
            refine Eq.trans ?_ (if_neg (by decide)).symm
            refine Eq.trans ?_ (if_neg (fun z => z hk0)).symm
            refine Eq.trans ?_ (if_neg (by decide)).symm
            refine Eq.trans ?_ (if_neg (by decide)).symm
            refine Eq.trans ?_ (if_neg (by decide)).symm
            refine Eq.trans ?_ (if_pos rfl).symm
            refine (flo_eq rfl q0.symm rfl (fun c b c0 c1 => ?_))
            have e8 : Lv μ l 8 c = ν 19 l c := (aA.2.2.2.2 c c0 (by rw [q0]; exact c1)).1
            rw [e8]
          · refine e_tableIn 92 (dec_at dX5_many 22) (by decide) (by decide) (by decide) rfl (by decide) ?_
            refine e_aload_n 3 (dec_at dX5_many 35) rfl rfl ?_
            refine e_callVr (M' := mX2_oddPlates) (dec_at dX5_many 36) mlX5_139 (c_oddPlates (μ := ν) l nb1) oX2_oddPlates iX2_oddPlates rfl rfl rfl rfl (by decide) (by decide) (Nat.le_of_ble_eq_true rfl) ?_
            refine e_ireturn (dec_at dX5_many 37) rfl ?_
            refine ⟨fx, hI.go fx hx, fun k p hk => ?_⟩
            have hk0 := (hk.uq hF).1
            refine congrArg (fun z => some (vI z)) ?_
            unfold manyA
            refine Eq.trans ?_ (if_neg (by omega)).symm
            refine Eq.trans ?_ (if_neg (by decide)).symm
            refine Eq.trans ?_ (if_neg (fun z => z hk0)).symm
            refine Eq.trans ?_ (if_neg (by decide)).symm
            refine Eq.trans ?_ (if_neg (by decide)).symm
            refine Eq.trans ?_ (if_neg (by decide)).symm
            refine Eq.trans ?_ (if_neg (by decide)).symm
            refine Eq.trans ?_ (if_pos rfl).symm
            refine (flo_eq rfl q1.symm rfl (fun f b f0 f1 => ?_))
            rw [qf f f0 (by omega), qf (f + 1) (by omega) (by omega)]
          · refine e_tableOut 97 (dec_at dX5_many 22) (by decide) (by decide) (by decide) ?_
            refine e_aload_n 3 (dec_at dX5_many 38) rfl rfl ?_
            refine e_geti 0 0 (dec_at dX5_many 39) flX5_60 rfl rfl rfl (fun r98 => ?_)
            refine e_aload_n 3 (dec_at dX5_many 40) rfl rfl ?_
            refine e_geti 1 1 (dec_at dX5_many 41) flX5_91 rfl rfl rfl (fun r102 => ?_)
            refine e_iadd (dec_at dX5_many 42) ?_
            refine e_aload_n 3 (dec_at dX5_many 43) rfl rfl ?_
            refine e_geti 2 2 (dec_at dX5_many 44) flX5_133 rfl rfl rfl (fun r107 => ?_)
            refine e_isub (dec_at dX5_many 45) ?_
            refine e_ireturn (dec_at dX5_many 46) rfl ?_
            refine ⟨fx, hI.go fx hx, fun k p hk => ?_⟩
            have hk0 := (hk.uq hF).1
            refine congrArg (fun z => some (vI z)) ?_
            unfold manyA
            refine Eq.trans ?_ (if_neg (by omega)).symm
            refine Eq.trans ?_ (if_neg (by decide)).symm
            refine Eq.trans ?_ (if_neg (fun z => z hk0)).symm
            refine Eq.trans ?_ (if_neg (by decide)).symm
            refine Eq.trans ?_ (if_neg (by decide)).symm
            refine Eq.trans ?_ (if_neg (by decide)).symm
            refine Eq.trans ?_ (if_neg (by decide)).symm
            refine Eq.trans ?_ (if_neg (by decide)).symm
            rw [q0, q1, q2]
      · refine e_bipush (dec_at dX5_many 10) (by decide) ?_
        refine e_ireturn (dec_at dX5_many 11) rfl ?_
        refine ⟨FX.rf, hI, fun k p _ => ?_⟩
        refine congrArg (fun z => some (vI z)) ?_
        unfold manyA
        refine Eq.trans ?_ (if_neg (by omega)).symm
        refine Eq.trans ?_ (if_pos (by omega)).symm
        rfl
  · refine e_bipush (dec_at dX5_many 3) (by decide) ?_
    refine e_ireturn (dec_at dX5_many 4) rfl ?_
    refine ⟨FX.rf, hI, fun k p _ => ?_⟩
    refine congrArg (fun z => some (vI z)) ?_
    unfold manyA
    refine Eq.trans ?_ (if_pos (by omega)).symm
    rfl
