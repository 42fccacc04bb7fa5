/-! THE REFERENCE answers: the nearest, the digest -/
theorem sqs (a b : Int) : (a - b) * (a - b) = (b - a) * (b - a) := by
  rw [← Int.neg_mul_neg (a - b) (a - b), Int.neg_sub]
theorem sqA_in {w : Int → Int → Int} {x y z c : Int} (h : ∀ a, 0 ≤ a → a < 3 → -15000 ≤ w c a ∧ w c a ≤ 15000) (hx : -100000 ≤ x ∧ x ≤ 100000) (hy : -100000 ≤ y ∧ y ≤ 100000) (hz : -100000 ≤ z ∧ z ≤ 100000) : 0 ≤ sqA w x y z c ∧ sqA w x y z c ≤ 120000000000000000 := by
  have a0 := h 0 (by omega) (by omega)
  have a1 := h 1 (by omega) (by omega)
  have a2 := h 2 (by omega) (by omega)
  have b0 := sq_in (d := w c 0 - x) (by omega)
  have b1 := sq_in (d := w c 1 - y) (by omega)
  have b2 := sq_in (d := w c 2 - z) (by omega)
  unfold sqA
  omega

set_option maxRecDepth 100000 in
set_option maxHeartbeats 4000000 in
theorem l_near {μ ν : Mm} {l x y z : Int} {Q : Option Vv → Mm → Prop} (X : XMd μ ν l) (hx : -100000 ≤ x ∧ x ≤ 100000) (hy : -100000 ≤ y ∧ y ≤ 100000) (hz : -100000 ≤ z ∧ z ≤ 100000) : ∀ (q : Nat) (c : Int) (m : Int) (b : Int), (Lv μ l 0 0 - c).toNat = q → 1 ≤ c → c ≤ Lv μ l 0 0 → 0 ≤ m ∧ m < c → 0 ≤ b ∧ b ≤ 120000000000000000 → Q (some (vI (flo (fun c q => if sqA (Wn μ l) x y z c < q.2 then (c, sqA (Wn μ l) x y z c) else q) c (Lv μ l 0 0) (m, b)).1)) ν → Ev mX6_near 7 75 [some (vR 21 0), some (vI l), some (vI x), some (vI y), some (vI z), some (vI m), some (vL (b)), none, some (vI c), none, none] [] ν (Q) := by
  intro q
  induction q using Nat.strongRecOn with
  | _ q ih =>
  intro c m b hq c0 c1 hm hb K
  have nb := X.nb
  refine e_iload (dec_at dX6_near 36) rfl ?_
  refine e_aload_n 0 (dec_at dX6_near 37) rfl rfl ?_
  refine e_getr 7 (dec_at dX6_near 38) flX6_13 rfl rfl ?_
  refine e_iload_n 1 (dec_at dX6_near 39) rfl rfl ?_
  refine e_ialdv (Lv μ l 0 0) (dec_at dX6_near 40) rfl (by decide) (aLk_23 _) (by omega) (by exact X.mp.2.1) (fun r82 => ?_)
  refine e_icmp_ge 164 (dec_at dX6_near 41) (by decide) (by omega) (by omega) (fun h83 => ?_) (fun h83 => ?_)
  · refine e_iload (dec_at dX6_near 88) rfl ?_
    refine e_ireturn (dec_at dX6_near 89) rfl ?_
    exact flo_z (P := fun z : Int × Int => Q (some (vI z.1)) ν) K (by omega)
  · have W0 := X.bd (c := c) (a := 0) (by omega) (by omega)
    have W1 := X.bd (c := c) (a := 1) (by omega) (by omega)
    have W2 := X.bd (c := c) (a := 2) (by omega) (by omega)
    have B := sqA_in (w := Wn μ l) (c := c) (x := x) (y := y) (z := z) (fun a a0 a1 => X.bd (by omega) ⟨a0, a1⟩) (by omega) (by omega) (by omega)
    have E : (x - Wn μ l c 0) * (x - Wn μ l c 0) + (y - Wn μ l c 1) * (y - Wn μ l c 1) + (z - Wn μ l c 2) * (z - Wn μ l c 2) = sqA (Wn μ l) x y z c := by
      unfold sqA
      rw [sqs x, sqs y, sqs z]
    refine e_iload_n 2 (dec_at dX6_near 42) rfl rfl ?_
    refine e_i2l (dec_at dX6_near 43) (by omega) ?_
    refine e_aload_n 0 (dec_at dX6_near 44) rfl rfl ?_
    refine e_iload_n 1 (dec_at dX6_near 45) rfl rfl ?_
    refine e_iload (dec_at dX6_near 46) rfl ?_
    refine e_iconst (dec_at dX6_near 47) ?_
    refine e_callVr (M' := mX6_number) (dec_at dX6_near 48) mlX6_161 (m_num X c 0 (by omega) (by omega)) oX6_number iX6_number rfl rfl rfl rfl (by decide) (by decide) (Nat.le_of_ble_eq_true rfl) ?_
    refine e_i2l (dec_at dX6_near 49) (by omega) ?_
    refine e_lsub (dec_at dX6_near 50) ?_
    refine e_callSr (M' := mX6_square) (dec_at dX6_near 51) mlX6_180 (m_square _) oX6_square sX6_square rfl rfl (by decide) (by decide) (Nat.le_of_ble_eq_true rfl) ?_
    refine e_iload_n 3 (dec_at dX6_near 52) rfl rfl ?_
    refine e_i2l (dec_at dX6_near 53) (by omega) ?_
    refine e_aload_n 0 (dec_at dX6_near 54) rfl rfl ?_
    refine e_iload_n 1 (dec_at dX6_near 55) rfl rfl ?_
    refine e_iload (dec_at dX6_near 56) rfl ?_
    refine e_iconst (dec_at dX6_near 57) ?_
    refine e_callVr (M' := mX6_number) (dec_at dX6_near 58) mlX6_161 (m_num X c 1 (by omega) (by omega)) oX6_number iX6_number rfl rfl rfl rfl (by decide) (by decide) (Nat.le_of_ble_eq_true rfl) ?_
    refine e_i2l (dec_at dX6_near 59) (by omega) ?_
    refine e_lsub (dec_at dX6_near 60) ?_
    refine e_callSr (M' := mX6_square) (dec_at dX6_near 61) mlX6_180 (m_square _) oX6_square sX6_square rfl rfl (by decide) (by decide) (Nat.le_of_ble_eq_true rfl) ?_
    refine e_ladd (dec_at dX6_near 62) ?_
    refine e_iload (dec_at dX6_near 63) rfl ?_
    refine e_i2l (dec_at dX6_near 64) (by omega) ?_
    refine e_aload_n 0 (dec_at dX6_near 65) rfl rfl ?_
    refine e_iload_n 1 (dec_at dX6_near 66) rfl rfl ?_
    refine e_iload (dec_at dX6_near 67) rfl ?_
    refine e_iconst (dec_at dX6_near 68) ?_
    refine e_callVr (M' := mX6_number) (dec_at dX6_near 69) mlX6_161 (m_num X c 2 (by omega) (by omega)) oX6_number iX6_number rfl rfl rfl rfl (by decide) (by decide) (Nat.le_of_ble_eq_true rfl) ?_
    refine e_i2l (dec_at dX6_near 70) (by omega) ?_
    refine e_lsub (dec_at dX6_near 71) ?_
    refine e_callSr (M' := mX6_square) (dec_at dX6_near 72) mlX6_180 (m_square _) oX6_square sX6_square rfl rfl (by decide) (by decide) (Nat.le_of_ble_eq_true rfl) ?_
    refine e_ladd (dec_at dX6_near 73) ?_
    rw [E]
    refine e_ls9 (dec_at dX6_near 74) (by decide) rfl ?_
    refine e_iload (dec_at dX6_near 75) rfl ?_
    refine e_iconst (dec_at dX6_near 76) ?_
    refine e_icmp_eq 150 (dec_at dX6_near 77) (by decide) (by omega) (by omega) (fun h139 => ?_) (fun h139 => ?_)
    · exfalso; omega
    · refine e_lload (dec_at dX6_near 78) rfl ?_
      refine e_lload (dec_at dX6_near 79) rfl ?_
      refine e_lcmp (dec_at dX6_near 80) (by omega) (by omega) ?_
      refine e_cge 158 (dec_at dX6_near 81) (by decide) (fun h147 => ?_) (fun h147 => ?_)
      · refine e_ii8 (dec_at dX6_near 86) (by decide) rfl ?_
        refine e_goto 75 (dec_at dX6_near 87) (by decide) ?_
        refine e_le [some (vR 21 0), some (vI l), some (vI x), some (vI y), some (vI z), some (vI m), some (vL (b)), none, some (vI (c + 1)), none, none] (by simp [leL]) (ih _ (by omega) (c + 1) m b rfl (by omega) (by omega) (by omega) hb (flo_k (P := fun z : Int × Int => Q (some (vI z.1)) ν) K (by omega) (if_neg (show ¬ sqA (Wn μ l) x y z c < b by omega))))
      · refine e_iload (dec_at dX6_near 82) rfl ?_
        refine e_is5 (dec_at dX6_near 83) (by decide) rfl ?_
        refine e_lload (dec_at dX6_near 84) rfl ?_
        refine e_ls6 (dec_at dX6_near 85) (by decide) rfl ?_
        refine e_ii8 (dec_at dX6_near 86) (by decide) rfl ?_
        refine e_goto 75 (dec_at dX6_near 87) (by decide) ?_
        refine e_le [some (vR 21 0), some (vI l), some (vI x), some (vI y), some (vI z), some (vI c), some (vL (sqA (Wn μ l) x y z c)), none, some (vI (c + 1)), none, none] (by simp [leL]) (ih _ (by omega) (c + 1) c _ rfl (by omega) (by omega) (by omega) B (flo_k (P := fun z : Int × Int => Q (some (vI z.1)) ν) K (by omega) (if_pos (show sqA (Wn μ l) x y z c < b by omega))))

set_option maxRecDepth 100000 in
set_option maxHeartbeats 4000000 in
theorem m_near {μ : Mm} (l x y z : Int) (h_l : inR l) (h_x : inR x) (h_y : inR y) (h_z : inR z) (hJ : JSM μ) : Mc mX6_near 7 [vR 21 0, vI l, vI x, vI y, vI z] μ (MA μ (fun k => vI (nearA μ l x y z k))) := by
  refine Mc.of (L := [some (vR 21 0), some (vI l), some (vI x), some (vI y), some (vI z), none, none, none, none, none, none]) (by decide +kernel) (by simp [leL, entA, isLong, mX6_near]) (by simp [entA, isLong, mX6_near]) ?_
  refine e_iload_n 1 (dec_at dX6_near 0) rfl rfl ?_
  refine e_callSr (M' := mX6_isLevel) (dec_at dX6_near 1) mlX6_143 (m_isLevel l h_l) oX6_isLevel sX6_isLevel rfl rfl (by decide) (by decide) (Nat.le_of_ble_eq_true rfl) ?_
  refine e_bne 10 (dec_at dX6_near 2) (by decide) (fun h4 => ?_) (fun h4 => ?_)
  · refine e_iload_n 2 (dec_at dX6_near 5) rfl rfl ?_
    refine e_i2l (dec_at dX6_near 6) (by omega) ?_
    refine e_ldc2 (-100000) (dec_at dX6_near 7) klX6_176 (by decide) ?_
    refine e_ldc2 100000 (dec_at dX6_near 8) klX6_178 (by decide) ?_
    refine e_callSr (M' := mX6_in) (dec_at dX6_near 9) mlX6_59 (m_in x (-100000) 100000 (by omega) (by omega) (by omega)) oX6_in sX6_in rfl rfl (by decide) (by decide) (Nat.le_of_ble_eq_true rfl) ?_
    refine e_beq 53 (dec_at dX6_near 10) (by decide) (fun h21 => ?_) (fun h21 => ?_)
    · refine e_bipush (dec_at dX6_near 23) (by decide) ?_
      refine e_ireturn (dec_at dX6_near 24) rfl ?_
      refine ⟨FM.rf, hJ, fun k p _ => ?_⟩
      refine congrArg (fun z => some (vI z)) ?_
      unfold nearA
      refine Eq.trans ?_ (if_neg (by omega)).symm
      refine Eq.trans ?_ (if_pos (by omega)).symm
      rfl
    · refine e_iload_n 3 (dec_at dX6_near 11) rfl rfl ?_
      refine e_i2l (dec_at dX6_near 12) (by omega) ?_
      refine e_ldc2 (-100000) (dec_at dX6_near 13) klX6_176 (by decide) ?_
      refine e_ldc2 100000 (dec_at dX6_near 14) klX6_178 (by decide) ?_
      refine e_callSr (M' := mX6_in) (dec_at dX6_near 15) mlX6_59 (m_in y (-100000) 100000 (by omega) (by omega) (by omega)) oX6_in sX6_in rfl rfl (by decide) (by decide) (Nat.le_of_ble_eq_true rfl) ?_
      refine e_beq 53 (dec_at dX6_near 16) (by decide) (fun h35 => ?_) (fun h35 => ?_)
      · refine e_bipush (dec_at dX6_near 23) (by decide) ?_
        refine e_ireturn (dec_at dX6_near 24) rfl ?_
        refine ⟨FM.rf, hJ, fun k p _ => ?_⟩
        refine congrArg (fun z => some (vI z)) ?_
        unfold nearA
        refine Eq.trans ?_ (if_neg (by omega)).symm
        refine Eq.trans ?_ (if_pos (by omega)).symm
        rfl
      · refine e_iload (dec_at dX6_near 17) rfl ?_
        refine e_i2l (dec_at dX6_near 18) (by omega) ?_
        refine e_ldc2 (-100000) (dec_at dX6_near 19) klX6_176 (by decide) ?_
        refine e_ldc2 100000 (dec_at dX6_near 20) klX6_178 (by decide) ?_
        refine e_callSr (M' := mX6_in) (dec_at dX6_near 21) mlX6_59 (m_in z (-100000) 100000 (by omega) (by omega) (by omega)) oX6_in sX6_in rfl rfl (by decide) (by decide) (Nat.le_of_ble_eq_true rfl) ?_
        refine e_bne 56 (dec_at dX6_near 22) (by decide) (fun h50 => ?_) (fun h50 => ?_)
        · refine e_aload_n 0 (dec_at dX6_near 25) rfl rfl ?_
          refine e_callV (M' := mX6_isGood) (dec_at dX6_near 26) mlX6_149 (m_isGood hJ) oX6_isGood iX6_isGood rfl rfl rfl rfl (by decide) (by decide) (Nat.le_of_ble_eq_true rfl) (fun r ν hQ => ?_)
          obtain ⟨rfl, fm, mk⟩ := hQ
          show Ev mX6_near 7 60 _ [vI (b01 (ν 21 0 5 = 0))] ν _
          refine e_bne 66 (dec_at dX6_near 27) (by decide) (fun h60 => ?_) (fun h60 => ?_)
          · obtain ⟨X, hF⟩ := XM (l := l) hJ mk h60 (by omega)
            have nb := X.nb
            refine e_iconst (dec_at dX6_near 30) ?_
            refine e_is5 (dec_at dX6_near 31) (by decide) rfl ?_
            refine e_lconst 0 (dec_at dX6_near 32) rfl ?_
            refine e_ls6 (dec_at dX6_near 33) (by decide) rfl ?_
            refine e_iconst (dec_at dX6_near 34) ?_
            refine e_is8 (dec_at dX6_near 35) (by decide) rfl ?_
            refine e_iload (dec_at dX6_near 36) rfl ?_
            refine e_aload_n 0 (dec_at dX6_near 37) rfl rfl ?_
            refine e_getr 7 (dec_at dX6_near 38) flX6_13 rfl rfl ?_
            refine e_iload_n 1 (dec_at dX6_near 39) rfl rfl ?_
            refine e_ialdv (Lv μ l 0 0) (dec_at dX6_near 40) rfl (by decide) (aLk_23 _) (by omega) (by exact X.mp.2.1) (fun r82 => ?_)
            refine e_icmp_ge 164 (dec_at dX6_near 41) (by decide) (by omega) (by omega) (fun h83 => ?_) (fun h83 => ?_)
            · exfalso; omega
            · have W0 := X.bd (c := 0) (a := 0) (by omega) (by omega)
              have W1 := X.bd (c := 0) (a := 1) (by omega) (by omega)
              have W2 := X.bd (c := 0) (a := 2) (by omega) (by omega)
              have B := sqA_in (w := Wn μ l) (c := 0) (x := x) (y := y) (z := z) (fun a a0 a1 => X.bd (by omega) ⟨a0, a1⟩) (by omega) (by omega) (by omega)
              have E : (x - Wn μ l 0 0) * (x - Wn μ l 0 0) + (y - Wn μ l 0 1) * (y - Wn μ l 0 1) + (z - Wn μ l 0 2) * (z - Wn μ l 0 2) = sqA (Wn μ l) x y z 0 := by
                unfold sqA
                rw [sqs x, sqs y, sqs z]
              refine e_iload_n 2 (dec_at dX6_near 42) rfl rfl ?_
              refine e_i2l (dec_at dX6_near 43) (by omega) ?_
              refine e_aload_n 0 (dec_at dX6_near 44) rfl rfl ?_
              refine e_iload_n 1 (dec_at dX6_near 45) rfl rfl ?_
              refine e_iload (dec_at dX6_near 46) rfl ?_
              refine e_iconst (dec_at dX6_near 47) ?_
              refine e_callVr (M' := mX6_number) (dec_at dX6_near 48) mlX6_161 (m_num X 0 0 (by omega) (by omega)) oX6_number iX6_number rfl rfl rfl rfl (by decide) (by decide) (Nat.le_of_ble_eq_true rfl) ?_
              refine e_i2l (dec_at dX6_near 49) (by omega) ?_
              refine e_lsub (dec_at dX6_near 50) ?_
              refine e_callSr (M' := mX6_square) (dec_at dX6_near 51) mlX6_180 (m_square _) oX6_square sX6_square rfl rfl (by decide) (by decide) (Nat.le_of_ble_eq_true rfl) ?_
              refine e_iload_n 3 (dec_at dX6_near 52) rfl rfl ?_
              refine e_i2l (dec_at dX6_near 53) (by omega) ?_
              refine e_aload_n 0 (dec_at dX6_near 54) rfl rfl ?_
              refine e_iload_n 1 (dec_at dX6_near 55) rfl rfl ?_
              refine e_iload (dec_at dX6_near 56) rfl ?_
              refine e_iconst (dec_at dX6_near 57) ?_
              refine e_callVr (M' := mX6_number) (dec_at dX6_near 58) mlX6_161 (m_num X 0 1 (by omega) (by omega)) oX6_number iX6_number rfl rfl rfl rfl (by decide) (by decide) (Nat.le_of_ble_eq_true rfl) ?_
              refine e_i2l (dec_at dX6_near 59) (by omega) ?_
              refine e_lsub (dec_at dX6_near 60) ?_
              refine e_callSr (M' := mX6_square) (dec_at dX6_near 61) mlX6_180 (m_square _) oX6_square sX6_square rfl rfl (by decide) (by decide) (Nat.le_of_ble_eq_true rfl) ?_
              refine e_ladd (dec_at dX6_near 62) ?_
              refine e_iload (dec_at dX6_near 63) rfl ?_
              refine e_i2l (dec_at dX6_near 64) (by omega) ?_
              refine e_aload_n 0 (dec_at dX6_near 65) rfl rfl ?_
              refine e_iload_n 1 (dec_at dX6_near 66) rfl rfl ?_
              refine e_iload (dec_at dX6_near 67) rfl ?_
              refine e_iconst (dec_at dX6_near 68) ?_
              refine e_callVr (M' := mX6_number) (dec_at dX6_near 69) mlX6_161 (m_num X 0 2 (by omega) (by omega)) oX6_number iX6_number rfl rfl rfl rfl (by decide) (by decide) (Nat.le_of_ble_eq_true rfl) ?_
              refine e_i2l (dec_at dX6_near 70) (by omega) ?_
              refine e_lsub (dec_at dX6_near 71) ?_
              refine e_callSr (M' := mX6_square) (dec_at dX6_near 72) mlX6_180 (m_square _) oX6_square sX6_square rfl rfl (by decide) (by decide) (Nat.le_of_ble_eq_true rfl) ?_
              refine e_ladd (dec_at dX6_near 73) ?_
              rw [E]
              refine e_ls9 (dec_at dX6_near 74) (by decide) rfl ?_
              refine e_iload (dec_at dX6_near 75) rfl ?_
              refine e_iconst (dec_at dX6_near 76) ?_
              refine e_icmp_eq 150 (dec_at dX6_near 77) (by decide) (by decide) (by decide) (fun _ => ?_) (fun h => absurd h (by decide))
              refine e_iload (dec_at dX6_near 82) rfl ?_
              refine e_is5 (dec_at dX6_near 83) (by decide) rfl ?_
              refine e_lload (dec_at dX6_near 84) rfl ?_
              refine e_ls6 (dec_at dX6_near 85) (by decide) rfl ?_
              refine e_ii8 (dec_at dX6_near 86) (by decide) rfl ?_
              refine e_goto 75 (dec_at dX6_near 87) (by decide) ?_
              refine e_le [some (vR 21 0), some (vI l), some (vI x), some (vI y), some (vI z), some (vI 0), some (vL (sqA (Wn μ l) x y z 0)), none, some (vI 1), none, none] (by simp [leL]) (l_near X (by omega) (by omega) (by omega) _ 1 0 _ rfl (by omega) (by omega) (by omega) B ?_)
              refine ⟨fm, hJ.go fm mk, fun k p hk => ?_⟩
              have hk0 := (hk.uq hF).1
              refine congrArg (fun z => some (vI z)) ?_
              unfold nearA
              refine Eq.trans ?_ (if_neg (by omega)).symm
              refine Eq.trans ?_ (if_neg (by omega)).symm
              refine Eq.trans ?_ (if_neg (fun z => z hk0)).symm
              rfl
          · refine e_bipush (dec_at dX6_near 28) (by decide) ?_
            refine e_ireturn (dec_at dX6_near 29) rfl ?_
            refine ⟨fm, hJ.go fm mk, fun k p hk => ?_⟩
            have hke := (hk.uq mk.2.1).1
            have hk0 : k ≠ 0 := by rw [hke]; exact h60
            refine congrArg (fun z => some (vI z)) ?_
            unfold nearA
            refine Eq.trans ?_ (if_neg (by omega)).symm
            refine Eq.trans ?_ (if_neg (by omega)).symm
            refine Eq.trans ?_ (if_pos hk0).symm
            rfl
        · refine e_bipush (dec_at dX6_near 23) (by decide) ?_
          refine e_ireturn (dec_at dX6_near 24) rfl ?_
          refine ⟨FM.rf, hJ, fun k p _ => ?_⟩
          refine congrArg (fun z => some (vI z)) ?_
          unfold nearA
          refine Eq.trans ?_ (if_neg (by omega)).symm
          refine Eq.trans ?_ (if_pos (by omega)).symm
          rfl
  · refine e_bipush (dec_at dX6_near 3) (by decide) ?_
    refine e_ireturn (dec_at dX6_near 4) rfl ?_
    refine ⟨FM.rf, hJ, fun k p _ => ?_⟩
    refine congrArg (fun z => some (vI z)) ?_
    unfold nearA
    refine Eq.trans ?_ (if_pos (by omega)).symm
    rfl

theorem dg_num {μ ν : Mm} (jb : JB μ) (fm : FM μ ν) (hX : XB μ) {i : Int} (i0 : 0 ≤ i) (i1 : i < 3 * μ 11 0 0) : ν 26 0 i = μ 12 0 i := by
  have hC := hX.2.1
  have w := jb.2 (i / 3) (i % 3) (by omega) (by omega) (by omega) (by omega)
  unfold gN at w
  rw [show 3 * (200 * 0 + i / 3) + i % 3 = i by omega, show 3 * (i / 3) + i % 3 = i by omega] at w
  rw [fm 26 0 i (by omega)]; exact w
theorem dg_mp {μ ν : Mm} (jb : JB μ) (fm : FM μ ν) : MP ν 0 (Nt μ 0) :=
  jb.1.fr (fm 23 0 0 (by omega)) (fm 24 0 0 (by omega)) (fun i a b => ⟨fm 27 0 i (by omega), fm 28 0 i (by omega)⟩) (fun i a b => fm 29 0 i (by omega))
theorem dg_size {μ ν : Mm} (m : MP ν 0 (Nt μ 0)) {f : Int} (f0 : 0 ≤ f) (f1 : f < μ 11 0 1) : ν 28 0 f = μ 13 0 (f + 1) - μ 13 0 f := by
  have w := (m.2.2.2.1 f f0 f1).2
  unfold gS at w
  rw [show (160 : Int) * 0 + f = f by omega] at w
  exact w
theorem flo_3 {W : Int → Int → Int} {c C a : Int} (h : c < C) : flo (fun i a => 31 * a + W (i / 3) (i % 3)) (3 * c) (3 * C) a = flo (fun i a => 31 * a + W (i / 3) (i % 3)) (3 * (c + 1)) (3 * C) (31 * (31 * (31 * a + W c 0) + W c 1) + W c 2) := by
  rw [flo_step (by omega), flo_step (by omega), flo_step (by omega)]
  refine flo_eq (by omega) rfl ?_ (fun _ _ _ _ => rfl)
  rw [show 3 * c / 3 = c by omega, show (3 * c + 1) / 3 = c by omega, show (3 * c + 1 + 1) / 3 = c by omega, show 3 * c % 3 = 0 by omega, show (3 * c + 1) % 3 = 1 by omega, show (3 * c + 1 + 1) % 3 = 2 by omega]

set_option maxRecDepth 100000 in
set_option maxHeartbeats 4000000 in
theorem l_dA {μ ν : Mm} {Q : Option Vv → Mm → Prop} (hJ : JSM μ) (fm : FM μ ν) : ∀ (q : Nat) (i : Int) (x : Int), (3 * μ 11 0 0 - i).toNat = q → 0 ≤ i → i ≤ 3 * μ 11 0 0 → Ev mX6_digest 6 42 [some (vR 21 0), some (vL (flo (fun i a => 31 * a + μ 12 0 i) i (3 * μ 11 0 0) x)), none, none, none] [] ν Q → Ev mX6_digest 6 10 [some (vR 21 0), some (vL (x)), none, some (vI i), none] [] ν (Q) := by
  intro q
  induction q using Nat.strongRecOn with
  | _ q ih =>
  intro i x hq i0 i1 K
  have hX := hJ.1
  have nb := hX.nb
  have hC := hX.2
  have jb := hJ.2.2.2.2.1
  have m := dg_mp jb fm
  have hC0 := hX.1.1
  have hP0 : 0 ≤ μ 11 0 1 := hX.1.2.1.1
  refine e_iload_n 3 (dec_at dX6_digest 6) rfl rfl ?_
  refine e_iconst (dec_at dX6_digest 7) ?_
  refine e_aload_n 0 (dec_at dX6_digest 8) rfl rfl ?_
  refine e_getr 7 (dec_at dX6_digest 9) flX6_13 rfl rfl ?_
  refine e_iconst (dec_at dX6_digest 10) ?_
  refine e_ialdv (μ 11 0 0) (dec_at dX6_digest 11) rfl (by decide) (aLk_23 _) (by omega) (by exact m.2.1) (fun r17 => ?_)
  refine e_imul (dec_at dX6_digest 12) ?_
  refine e_icmp_ge 42 (dec_at dX6_digest 13) (by decide) (by omega) (by omega) (fun h19 => ?_) (fun h19 => ?_)
  · rw [flo_stop (by omega)] at K
    exact e_le [some (vR 21 0), some (vL (x)), none, none, none] (by simp [leL]) K
  · have W := hJ.2.1 i i0 (by omega)
    refine e_ldc2 31 (dec_at dX6_digest 14) klX6_189 (by decide) ?_
    refine e_lload_n 1 (dec_at dX6_digest 15) rfl rfl ?_
    refine e_lmul (dec_at dX6_digest 16) ?_
    refine e_aload_n 0 (dec_at dX6_digest 17) rfl rfl ?_
    refine e_getr 10 (dec_at dX6_digest 18) flX6_22 rfl rfl ?_
    refine e_iload_n 3 (dec_at dX6_digest 19) rfl rfl ?_
    refine e_ialdv (μ 12 0 i) (dec_at dX6_digest 20) rfl (by decide) (aLk_26 _) (by omega) (by exact dg_num jb fm hX i0 (by omega)) (fun r32 => ?_)
    refine e_i2l (dec_at dX6_digest 21) (by omega) ?_
    refine e_ladd (dec_at dX6_digest 22) ?_
    refine e_ls1 (dec_at dX6_digest 23) (by decide) rfl ?_
    refine e_ii3 (dec_at dX6_digest 24) (by decide) rfl ?_
    refine e_goto 10 (dec_at dX6_digest 25) (by decide) ?_
    exact ih _ (by omega) (i + 1) _ rfl (by omega) (by omega) (flo_k (P := fun z => Ev mX6_digest 6 42 [some (vR 21 0), some (vL (z)), none, none, none] [] ν Q) K (by omega) rfl)

set_option maxRecDepth 100000 in
set_option maxHeartbeats 4000000 in
theorem l_dB1 {μ ν : Mm} {Q : Option Vv → Mm → Prop} (hJ : JSM μ) (fm : FM μ ν) {f : Int} (hf : 0 ≤ f ∧ f < μ 11 0 1) : ∀ (q : Nat) (k : Int) (x : Int), (μ 13 0 (f + 1) - (μ 13 0 f + k)).toNat = q → 0 ≤ k → μ 13 0 f + k ≤ μ 13 0 (f + 1) → Ev mX6_digest 6 104 [some (vR 21 0), some (vL (flo (fun s b => 31 * b + μ 14 0 s) (μ 13 0 f + k) (μ 13 0 (f + 1)) x)), none, some (vI f), none] [] ν Q → Ev mX6_digest 6 71 [some (vR 21 0), some (vL (x)), none, some (vI f), some (vI k)] [] ν (Q) := by
  intro q
  induction q using Nat.strongRecOn with
  | _ q ih =>
  intro k x hq k0 k1 K
  have hX := hJ.1
  have nb := hX.nb
  have hC := hX.2
  have jb := hJ.2.2.2.2.1
  have m := dg_mp jb fm
  have hC0 := hX.1.1
  have hP0 : 0 ≤ μ 11 0 1 := hX.1.2.1.1
  have A := m.at hf.1 hf.2
  have A1 : 0 ≤ μ 13 0 f ∧ μ 13 0 f + 3 ≤ μ 13 0 (f + 1) ∧ μ 13 0 (f + 1) ≤ nN (Nt μ 0) := A.1
  have A2 := A.2
  refine e_iload (dec_at dX6_digest 46) rfl ?_
  refine e_aload_n 0 (dec_at dX6_digest 47) rfl rfl ?_
  refine e_getr 12 (dec_at dX6_digest 48) flX6_28 rfl rfl ?_
  refine e_iload_n 3 (dec_at dX6_digest 49) rfl rfl ?_
  refine e_ialdv (μ 13 0 (f + 1) - μ 13 0 f) (dec_at dX6_digest 50) rfl (by decide) (aLk_28 _) (by omega) (by exact dg_size m hf.1 hf.2) (fun r78 => ?_)
  refine e_icmp_ge 104 (dec_at dX6_digest 51) (by decide) (by omega) (by omega) (fun h79 => ?_) (fun h79 => ?_)
  · rw [flo_stop (by omega)] at K
    exact e_le [some (vR 21 0), some (vL (x)), none, some (vI f), none] (by simp [leL]) K
  · have G := m.rg (s := μ 13 0 f + k) (by omega) (by omega)
    have G1 : 0 ≤ μ 14 0 (μ 13 0 f + k) ∧ μ 14 0 (μ 13 0 f + k) < μ 11 0 0 := G.1
    refine e_ldc2 31 (dec_at dX6_digest 52) klX6_189 (by decide) ?_
    refine e_lload_n 1 (dec_at dX6_digest 53) rfl rfl ?_
    refine e_lmul (dec_at dX6_digest 54) ?_
    refine e_aload_n 0 (dec_at dX6_digest 55) rfl rfl ?_
    refine e_iconst (dec_at dX6_digest 56) ?_
    refine e_iload_n 3 (dec_at dX6_digest 57) rfl rfl ?_
    refine e_iload (dec_at dX6_digest 58) rfl ?_
    refine e_callVr (M' := mX6_cornerOf) (dec_at dX6_digest 59) mlX6_74 (m_cornerOf (μ := ν) (B := Nt μ 0) 0 f k m hf.1 hf.2 k0 (show k < μ 13 0 (f + 1) - μ 13 0 f by omega)) oX6_cornerOf iX6_cornerOf rfl rfl rfl rfl (by decide) (by decide) (Nat.le_of_ble_eq_true rfl) ?_
    show Ev mX6_digest 6 95 _ [vI (μ 14 0 (μ 13 0 f + k)), vL (31 * x)] ν _
    refine e_i2l (dec_at dX6_digest 60) (by omega) ?_
    refine e_ladd (dec_at dX6_digest 61) ?_
    refine e_ls1 (dec_at dX6_digest 62) (by decide) rfl ?_
    refine e_ii4 (dec_at dX6_digest 63) (by decide) rfl ?_
    refine e_goto 71 (dec_at dX6_digest 64) (by decide) ?_
    refine ih _ (by omega) (k + 1) _ rfl (by omega) (by omega) ?_
    rw [← Int.add_assoc]
    exact flo_k (P := fun z => Ev mX6_digest 6 104 [some (vR 21 0), some (vL (z)), none, some (vI f), none] [] ν Q) K (by omega) rfl

set_option maxRecDepth 100000 in
set_option maxHeartbeats 4000000 in
theorem l_dB {μ ν : Mm} {Q : Option Vv → Mm → Prop} (hJ : JSM μ) (fm : FM μ ν) : ∀ (q : Nat) (f : Int) (x : Int), (μ 11 0 1 - f).toNat = q → 0 ≤ f → f ≤ μ 11 0 1 → Ev mX6_digest 6 110 [some (vR 21 0), some (vL (flo (fun f a => flo (fun s b => 31 * b + μ 14 0 s) (μ 13 0 f) (μ 13 0 (f + 1)) (31 * a + (μ 13 0 (f + 1) - μ 13 0 f))) f (μ 11 0 1) x)), none, none, none] [] ν Q → Ev mX6_digest 6 44 [some (vR 21 0), some (vL (x)), none, some (vI f), none] [] ν (Q) := by
  intro q
  induction q using Nat.strongRecOn with
  | _ q ih =>
  intro f x hq f0 f1 K
  have hX := hJ.1
  have nb := hX.nb
  have hC := hX.2
  have jb := hJ.2.2.2.2.1
  have m := dg_mp jb fm
  have hC0 := hX.1.1
  have hP0 : 0 ≤ μ 11 0 1 := hX.1.2.1.1
  refine e_iload_n 3 (dec_at dX6_digest 28) rfl rfl ?_
  refine e_aload_n 0 (dec_at dX6_digest 29) rfl rfl ?_
  refine e_getr 8 (dec_at dX6_digest 30) flX6_16 rfl rfl ?_
  refine e_iconst (dec_at dX6_digest 31) ?_
  refine e_ialdv (μ 11 0 1) (dec_at dX6_digest 32) rfl (by decide) (aLk_24 _) (by omega) (by exact m.2.2.1) (fun r50 => ?_)
  refine e_icmp_ge 110 (dec_at dX6_digest 33) (by decide) (by omega) (by omega) (fun h51 => ?_) (fun h51 => ?_)
  · rw [flo_stop (by omega)] at K
    exact e_le [some (vR 21 0), some (vL (x)), none, none, none] (by simp [leL]) K
  · have A := m.at f0 (show f < μ 11 0 1 by omega)
    have A1 : 0 ≤ μ 13 0 f ∧ μ 13 0 f + 3 ≤ μ 13 0 (f + 1) ∧ μ 13 0 (f + 1) ≤ nN (Nt μ 0) := A.1
    have A2 := A.2
    refine e_ldc2 31 (dec_at dX6_digest 34) klX6_189 (by decide) ?_
    refine e_lload_n 1 (dec_at dX6_digest 35) rfl rfl ?_
    refine e_lmul (dec_at dX6_digest 36) ?_
    refine e_aload_n 0 (dec_at dX6_digest 37) rfl rfl ?_
    refine e_getr 12 (dec_at dX6_digest 38) flX6_28 rfl rfl ?_
    refine e_iload_n 3 (dec_at dX6_digest 39) rfl rfl ?_
    refine e_ialdv (μ 13 0 (f + 1) - μ 13 0 f) (dec_at dX6_digest 40) rfl (by decide) (aLk_28 _) (by omega) (by exact dg_size m f0 (by omega)) (fun r64 => ?_)
    refine e_i2l (dec_at dX6_digest 41) (by omega) ?_
    refine e_ladd (dec_at dX6_digest 42) ?_
    refine e_ls1 (dec_at dX6_digest 43) (by decide) rfl ?_
    refine e_iconst (dec_at dX6_digest 44) ?_
    refine e_is4 (dec_at dX6_digest 45) (by decide) rfl ?_
    refine l_dB1 hJ fm (by omega) _ 0 _ rfl (by omega) (by omega) ?_
    rw [Int.add_zero]
    refine e_ii3 (dec_at dX6_digest 65) (by decide) rfl ?_
    refine e_goto 44 (dec_at dX6_digest 66) (by decide) ?_
    exact ih _ (by omega) (f + 1) _ rfl (by omega) (by omega) (flo_k (P := fun z => Ev mX6_digest 6 110 [some (vR 21 0), some (vL (z)), none, none, none] [] ν Q) K (by omega) rfl)

set_option maxRecDepth 100000 in
set_option maxHeartbeats 4000000 in
theorem l_dC {μ ν : Mm} {Q : Option Vv → Mm → Prop} (hJ : JSM μ) (fm : FM μ ν) : ∀ (q : Nat) (i : Int) (x : Int), (μ 7 0 3 - i).toNat = q → 0 ≤ i → i ≤ μ 7 0 3 → Ev mX6_digest 6 178 [some (vR 21 0), some (vL (flo (fun m a => 31 * (31 * (31 * (31 * a + μ 9 0 m) + μ 10 0 (3 * m + 0)) + μ 10 0 (3 * m + 1)) + μ 10 0 (3 * m + 2)) i (μ 7 0 3) x)), none, none, none] [] ν Q → Ev mX6_digest 6 112 [some (vR 21 0), some (vL (x)), none, some (vI i), none] [] ν (Q) := by
  intro q
  induction q using Nat.strongRecOn with
  | _ q ih =>
  intro i x hq i0 i1 K
  have jm := hJ.2.2.2.1
  have mv := hJ.2.2.1
  have mv1 := mv.1
  refine e_iload_n 3 (dec_at dX6_digest 69) rfl rfl ?_
  refine e_aload_n 0 (dec_at dX6_digest 70) rfl rfl ?_
  refine e_getiv 18 18 (μ 7 0 3) (dec_at dX6_digest 71) flX6_86 rfl rfl rfl (by exact (fm 21 0 18 (by omega)).trans jm.1) (fun r114 => ?_)
  refine e_icmp_ge 178 (dec_at dX6_digest 72) (by decide) (by omega) (by omega) (fun h117 => ?_) (fun h117 => ?_)
  · rw [flo_stop (by omega)] at K
    exact e_le [some (vR 21 0), some (vL (x)), none, none, none] (by simp [leL]) K
  · have M := mv.2.1 i i0 (by omega)
    have M0 := M.2.2 0 (by omega) (by omega)
    have M1 := M.2.2 1 (by omega) (by omega)
    have M2 := M.2.2 2 (by omega) (by omega)
    have Y : ky μ i = 10000 * μ 8 0 i + μ 9 0 i := rfl
    have Z : ky μ i % 10000 = μ 9 0 i := by omega
    refine e_ldc2 31 (dec_at dX6_digest 73) klX6_189 (by decide) ?_
    refine e_lload_n 1 (dec_at dX6_digest 74) rfl rfl ?_
    refine e_lmul (dec_at dX6_digest 75) ?_
    refine e_aload_n 0 (dec_at dX6_digest 76) rfl rfl ?_
    refine e_getr 19 (dec_at dX6_digest 77) flX6_40 rfl rfl ?_
    refine e_iload_n 3 (dec_at dX6_digest 78) rfl rfl ?_
    refine e_ialdv (ky μ i) (dec_at dX6_digest 79) rfl (by decide) (aLk_32 _) (by omega) (by exact (fm 32 0 i (by omega)).trans (jm.2 i i0 (by omega)).1) (fun r130 => ?_)
    refine e_sipush (dec_at dX6_digest 80) (by decide) ?_
    refine e_irem (dec_at dX6_digest 81) (by omega) (by omega) ?_
    rw [Z]
    refine e_i2l (dec_at dX6_digest 82) (by omega) ?_
    refine e_ladd (dec_at dX6_digest 83) ?_
    refine e_ls1 (dec_at dX6_digest 84) (by decide) rfl ?_
    refine e_iconst (dec_at dX6_digest 85) ?_
    refine e_is4 (dec_at dX6_digest 86) (by decide) rfl ?_
    refine e_iload (dec_at dX6_digest 87) rfl ?_
    refine e_iconst (dec_at dX6_digest 88) ?_
    refine e_icmp_ge 172 (dec_at dX6_digest 89) (by decide) (by decide) (by decide) (fun h => absurd h (by decide)) (fun _ => ?_)
    refine e_ldc2 31 (dec_at dX6_digest 90) klX6_189 (by decide) ?_
    refine e_lload_n 1 (dec_at dX6_digest 91) rfl rfl ?_
    refine e_lmul (dec_at dX6_digest 92) ?_
    refine e_aload_n 0 (dec_at dX6_digest 93) rfl rfl ?_
    refine e_getr 20 (dec_at dX6_digest 94) flX6_43 rfl rfl ?_
    refine e_iconst (dec_at dX6_digest 95) ?_
    refine e_iload_n 3 (dec_at dX6_digest 96) rfl rfl ?_
    refine e_imul (dec_at dX6_digest 97) ?_
    refine e_iload (dec_at dX6_digest 98) rfl ?_
    refine e_iadd (dec_at dX6_digest 99) ?_
    refine e_ialdv (μ 10 0 (3 * i + 0)) (dec_at dX6_digest 100) rfl (by decide) (aLk_33 _) (by omega) (by exact (fm 33 0 _ (by omega)).trans ((jm.2 i i0 (by omega)).2 0 (by omega) (by omega))) (fun r162 => ?_)
    refine e_i2l (dec_at dX6_digest 101) (by omega) ?_
    refine e_ladd (dec_at dX6_digest 102) ?_
    refine e_ls1 (dec_at dX6_digest 103) (by decide) rfl ?_
    refine e_ii4 (dec_at dX6_digest 104) (by decide) rfl ?_
    refine e_goto 141 (dec_at dX6_digest 105) (by decide) ?_
    refine e_iload (dec_at dX6_digest 87) rfl ?_
    refine e_iconst (dec_at dX6_digest 88) ?_
    refine e_icmp_ge 172 (dec_at dX6_digest 89) (by decide) (by decide) (by decide) (fun h => absurd h (by decide)) (fun _ => ?_)
    refine e_ldc2 31 (dec_at dX6_digest 90) klX6_189 (by decide) ?_
    refine e_lload_n 1 (dec_at dX6_digest 91) rfl rfl ?_
    refine e_lmul (dec_at dX6_digest 92) ?_
    refine e_aload_n 0 (dec_at dX6_digest 93) rfl rfl ?_
    refine e_getr 20 (dec_at dX6_digest 94) flX6_43 rfl rfl ?_
    refine e_iconst (dec_at dX6_digest 95) ?_
    refine e_iload_n 3 (dec_at dX6_digest 96) rfl rfl ?_
    refine e_imul (dec_at dX6_digest 97) ?_
    refine e_iload (dec_at dX6_digest 98) rfl ?_
    refine e_iadd (dec_at dX6_digest 99) ?_
    refine e_ialdv (μ 10 0 (3 * i + 1)) (dec_at dX6_digest 100) rfl (by decide) (aLk_33 _) (by omega) (by exact (fm 33 0 _ (by omega)).trans ((jm.2 i i0 (by omega)).2 1 (by omega) (by omega))) (fun r162 => ?_)
    refine e_i2l (dec_at dX6_digest 101) (by omega) ?_
    refine e_ladd (dec_at dX6_digest 102) ?_
    refine e_ls1 (dec_at dX6_digest 103) (by decide) rfl ?_
    refine e_ii4 (dec_at dX6_digest 104) (by decide) rfl ?_
    refine e_goto 141 (dec_at dX6_digest 105) (by decide) ?_
    refine e_iload (dec_at dX6_digest 87) rfl ?_
    refine e_iconst (dec_at dX6_digest 88) ?_
    refine e_icmp_ge 172 (dec_at dX6_digest 89) (by decide) (by decide) (by decide) (fun h => absurd h (by decide)) (fun _ => ?_)
    refine e_ldc2 31 (dec_at dX6_digest 90) klX6_189 (by decide) ?_
    refine e_lload_n 1 (dec_at dX6_digest 91) rfl rfl ?_
    refine e_lmul (dec_at dX6_digest 92) ?_
    refine e_aload_n 0 (dec_at dX6_digest 93) rfl rfl ?_
    refine e_getr 20 (dec_at dX6_digest 94) flX6_43 rfl rfl ?_
    refine e_iconst (dec_at dX6_digest 95) ?_
    refine e_iload_n 3 (dec_at dX6_digest 96) rfl rfl ?_
    refine e_imul (dec_at dX6_digest 97) ?_
    refine e_iload (dec_at dX6_digest 98) rfl ?_
    refine e_iadd (dec_at dX6_digest 99) ?_
    refine e_ialdv (μ 10 0 (3 * i + 2)) (dec_at dX6_digest 100) rfl (by decide) (aLk_33 _) (by omega) (by exact (fm 33 0 _ (by omega)).trans ((jm.2 i i0 (by omega)).2 2 (by omega) (by omega))) (fun r162 => ?_)
    refine e_i2l (dec_at dX6_digest 101) (by omega) ?_
    refine e_ladd (dec_at dX6_digest 102) ?_
    refine e_ls1 (dec_at dX6_digest 103) (by decide) rfl ?_
    refine e_ii4 (dec_at dX6_digest 104) (by decide) rfl ?_
    refine e_goto 141 (dec_at dX6_digest 105) (by decide) ?_
    refine e_iload (dec_at dX6_digest 87) rfl ?_
    refine e_iconst (dec_at dX6_digest 88) ?_
    refine e_icmp_ge 172 (dec_at dX6_digest 89) (by decide) (by decide) (by decide) (fun _ => ?_) (fun h => absurd h (by decide))
    refine e_ii3 (dec_at dX6_digest 106) (by decide) rfl ?_
    refine e_goto 112 (dec_at dX6_digest 107) (by decide) ?_
    refine e_le [some (vR 21 0), some (vL (31 * (31 * (31 * (31 * x + μ 9 0 i) + μ 10 0 (3 * i + 0)) + μ 10 0 (3 * i + 1)) + μ 10 0 (3 * i + 2))), none, some (vI (i + 1)), none] (by simp [leL]) (ih _ (by omega) (i + 1) _ rfl (by omega) (by omega) (flo_k (P := fun z => Ev mX6_digest 6 178 [some (vR 21 0), some (vL (z)), none, none, none] [] ν Q) K (by omega) rfl))

set_option maxRecDepth 100000 in
set_option maxHeartbeats 4000000 in
theorem l_dD {μ ν : Mm} {Q : Option Vv → Mm → Prop} (X : XMd μ ν 2) (h5 : ν 21 0 5 = 0) : ∀ (q : Nat) (c : Int) (x : Int), (Lv μ 2 0 0 - c).toNat = q → 0 ≤ c → c ≤ Lv μ 2 0 0 → Q (some (vL (flo (fun i a => 31 * a + Wn μ 2 (i / 3) (i % 3)) (3 * c) (3 * Lv μ 2 0 0) x))) ν → Ev mX6_digest 6 192 [some (vR 21 0), some (vL (x)), none, some (vI c), none] [] ν (Q) := by
  intro q
  induction q using Nat.strongRecOn with
  | _ q ih =>
  intro c x hq c0 c1 K
  have nb := X.nb
  refine e_iload_n 3 (dec_at dX6_digest 118) rfl rfl ?_
  refine e_aload_n 0 (dec_at dX6_digest 119) rfl rfl ?_
  refine e_getr 7 (dec_at dX6_digest 120) flX6_13 rfl rfl ?_
  refine e_iconst (dec_at dX6_digest 121) ?_
  refine e_ialdv (Lv μ 2 0 0) (dec_at dX6_digest 122) rfl (by decide) (aLk_23 _) (by omega) (by exact X.mp.2.1) (fun r198 => ?_)
  refine e_icmp_ge 246 (dec_at dX6_digest 123) (by decide) (by omega) (by omega) (fun h199 => ?_) (fun h199 => ?_)
  · refine e_lload_n 1 (dec_at dX6_digest 147) rfl rfl ?_
    refine e_lreturn (dec_at dX6_digest 148) rfl ?_
    rw [flo_stop (by omega)] at K
    exact K
  · have _ := X.bd (c := c) (a := 0) (by omega) (by omega)
    have _ := X.bd (c := c) (a := 1) (by omega) (by omega)
    have _ := X.bd (c := c) (a := 2) (by omega) (by omega)
    have _ := X.bd (c := c) (a := (0 + 1)) (by omega) (by omega)
    have _ := X.bd (c := c) (a := (0 + 1 + 1)) (by omega) (by omega)
    refine e_aload_n 0 (dec_at dX6_digest 124) rfl rfl ?_
    refine e_getiv 5 5 (0) (dec_at dX6_digest 125) flX6_99 rfl rfl rfl (by exact h5) (fun r203 => ?_)
    refine e_if_ne 246 (dec_at dX6_digest 126) (by decide) (by omega) (fun h206 => ?_) (fun h206 => ?_)
    · exact absurd rfl h206
    · refine e_iconst (dec_at dX6_digest 127) ?_
      refine e_is4 (dec_at dX6_digest 128) (by decide) rfl ?_
      refine e_iload (dec_at dX6_digest 129) rfl ?_
      refine e_iconst (dec_at dX6_digest 130) ?_
      refine e_icmp_ge 240 (dec_at dX6_digest 131) (by decide) (by decide) (by decide) (fun h => absurd h (by decide)) (fun _ => ?_)
      refine e_ldc2 31 (dec_at dX6_digest 132) klX6_189 (by decide) ?_
      refine e_lload_n 1 (dec_at dX6_digest 133) rfl rfl ?_
      refine e_lmul (dec_at dX6_digest 134) ?_
      refine e_aload_n 0 (dec_at dX6_digest 135) rfl rfl ?_
      refine e_iconst (dec_at dX6_digest 136) ?_
      refine e_iload_n 3 (dec_at dX6_digest 137) rfl rfl ?_
      refine e_iload (dec_at dX6_digest 138) rfl ?_
      refine e_callVr (M' := mX6_number) (dec_at dX6_digest 139) mlX6_161 (m_num X c _ (by omega) (by omega)) oX6_number iX6_number rfl rfl rfl rfl (by decide) (by decide) (Nat.le_of_ble_eq_true rfl) ?_
      refine e_i2l (dec_at dX6_digest 140) (by omega) ?_
      refine e_ladd (dec_at dX6_digest 141) ?_
      refine e_ls1 (dec_at dX6_digest 142) (by decide) rfl ?_
      refine e_ii4 (dec_at dX6_digest 143) (by decide) rfl ?_
      refine e_goto 212 (dec_at dX6_digest 144) (by decide) ?_
      refine e_iload (dec_at dX6_digest 129) rfl ?_
      refine e_iconst (dec_at dX6_digest 130) ?_
      refine e_icmp_ge 240 (dec_at dX6_digest 131) (by decide) (by decide) (by decide) (fun h => absurd h (by decide)) (fun _ => ?_)
      refine e_ldc2 31 (dec_at dX6_digest 132) klX6_189 (by decide) ?_
      refine e_lload_n 1 (dec_at dX6_digest 133) rfl rfl ?_
      refine e_lmul (dec_at dX6_digest 134) ?_
      refine e_aload_n 0 (dec_at dX6_digest 135) rfl rfl ?_
      refine e_iconst (dec_at dX6_digest 136) ?_
      refine e_iload_n 3 (dec_at dX6_digest 137) rfl rfl ?_
      refine e_iload (dec_at dX6_digest 138) rfl ?_
      refine e_callVr (M' := mX6_number) (dec_at dX6_digest 139) mlX6_161 (m_num X c _ (by omega) (by omega)) oX6_number iX6_number rfl rfl rfl rfl (by decide) (by decide) (Nat.le_of_ble_eq_true rfl) ?_
      refine e_i2l (dec_at dX6_digest 140) (by omega) ?_
      refine e_ladd (dec_at dX6_digest 141) ?_
      refine e_ls1 (dec_at dX6_digest 142) (by decide) rfl ?_
      refine e_ii4 (dec_at dX6_digest 143) (by decide) rfl ?_
      refine e_goto 212 (dec_at dX6_digest 144) (by decide) ?_
      refine e_iload (dec_at dX6_digest 129) rfl ?_
      refine e_iconst (dec_at dX6_digest 130) ?_
      refine e_icmp_ge 240 (dec_at dX6_digest 131) (by decide) (by decide) (by decide) (fun h => absurd h (by decide)) (fun _ => ?_)
      refine e_ldc2 31 (dec_at dX6_digest 132) klX6_189 (by decide) ?_
      refine e_lload_n 1 (dec_at dX6_digest 133) rfl rfl ?_
      refine e_lmul (dec_at dX6_digest 134) ?_
      refine e_aload_n 0 (dec_at dX6_digest 135) rfl rfl ?_
      refine e_iconst (dec_at dX6_digest 136) ?_
      refine e_iload_n 3 (dec_at dX6_digest 137) rfl rfl ?_
      refine e_iload (dec_at dX6_digest 138) rfl ?_
      refine e_callVr (M' := mX6_number) (dec_at dX6_digest 139) mlX6_161 (m_num X c _ (by omega) (by omega)) oX6_number iX6_number rfl rfl rfl rfl (by decide) (by decide) (Nat.le_of_ble_eq_true rfl) ?_
      refine e_i2l (dec_at dX6_digest 140) (by omega) ?_
      refine e_ladd (dec_at dX6_digest 141) ?_
      refine e_ls1 (dec_at dX6_digest 142) (by decide) rfl ?_
      refine e_ii4 (dec_at dX6_digest 143) (by decide) rfl ?_
      refine e_goto 212 (dec_at dX6_digest 144) (by decide) ?_
      refine e_iload (dec_at dX6_digest 129) rfl ?_
      refine e_iconst (dec_at dX6_digest 130) ?_
      refine e_icmp_ge 240 (dec_at dX6_digest 131) (by decide) (by decide) (by decide) (fun _ => ?_) (fun h => absurd h (by decide))
      refine e_ii3 (dec_at dX6_digest 145) (by decide) rfl ?_
      refine e_goto 192 (dec_at dX6_digest 146) (by decide) ?_
      refine e_le [some (vR 21 0), some (vL (31 * (31 * (31 * x + Wn μ 2 c 0) + Wn μ 2 c 1) + Wn μ 2 c 2)), none, some (vI (c + 1)), none] (by simp [leL]) (ih _ (by omega) (c + 1) _ rfl (by omega) (by omega) ?_)
      rw [flo_3 (W := Wn μ 2) (by omega)] at K
      exact K

set_option maxRecDepth 100000 in
set_option maxHeartbeats 4000000 in
theorem m_digest {μ : Mm} (hJ : JSM μ) : Mc mX6_digest 6 [vR 21 0] μ (MA μ (fun k => vL (digestA μ k))) := by
  refine Mc.of (L := [some (vR 21 0), none, none, none, none]) (by decide +kernel) (by simp [leL, entA, isLong, mX6_digest]) (by simp [entA, isLong, mX6_digest]) ?_
  have mv1 := hJ.2.2.1.1
  have hC0 : 0 ≤ μ 11 0 0 := hJ.1.1.1
  have hP0 : 0 ≤ μ 11 0 1 := hJ.1.1.2.1.1
  refine e_aload_n 0 (dec_at dX6_digest 0) rfl rfl ?_
  refine e_callV (M' := mX6_make) (dec_at dX6_digest 1) mlX6_140 (m_make hJ.1 hJ.2.1 hJ.2.2.1 hJ.2.2.2.1 hJ.2.2.2.2.1 hJ.2.2.2.2.2) oX6_make iX6_make rfl rfl rfl rfl (by decide) (by decide) (Nat.le_of_ble_eq_true rfl) (fun r ν hQ => ?_)
  obtain ⟨rfl, fm, mk⟩ := hQ
  show Ev mX6_digest 6 4 _ [] ν _
  refine e_ldc2 149 (dec_at dX6_digest 2) klX6_187 (by decide) ?_
  refine e_ls1 (dec_at dX6_digest 3) (by decide) rfl ?_
  refine e_iconst (dec_at dX6_digest 4) ?_
  refine e_is3 (dec_at dX6_digest 5) (by decide) rfl ?_
  refine l_dA hJ fm _ 0 _ rfl (by omega) (by omega) ?_
  refine e_iconst (dec_at dX6_digest 26) ?_
  refine e_is3 (dec_at dX6_digest 27) (by decide) rfl ?_
  refine l_dB hJ fm _ 0 _ rfl (by omega) (by omega) ?_
  refine e_iconst (dec_at dX6_digest 67) ?_
  refine e_is3 (dec_at dX6_digest 68) (by decide) rfl ?_
  refine l_dC hJ fm _ 0 _ rfl (by omega) (by omega) ?_
  refine e_ldc2 31 (dec_at dX6_digest 108) klX6_189 (by decide) ?_
  refine e_lload_n 1 (dec_at dX6_digest 109) rfl rfl ?_
  refine e_lmul (dec_at dX6_digest 110) ?_
  refine e_aload_n 0 (dec_at dX6_digest 111) rfl rfl ?_
  refine e_geti 5 5 (dec_at dX6_digest 112) flX6_99 rfl rfl rfl (fun r184 => ?_)
  refine e_i2l (dec_at dX6_digest 113) (by omega) ?_
  refine e_ladd (dec_at dX6_digest 114) ?_
  refine e_ls1 (dec_at dX6_digest 115) (by decide) rfl ?_
  refine e_iconst (dec_at dX6_digest 116) ?_
  refine e_is3 (dec_at dX6_digest 117) (by decide) rfl ?_
  by_cases h5 : ν 21 0 5 = 0
  · obtain ⟨X, hF⟩ := XM (l := 2) hJ mk h5 (by omega)
    have nb := X.nb
    refine l_dD X h5 _ 0 _ rfl (by omega) (by omega) ?_
    refine ⟨fm, hJ.go fm mk, fun k p hk => ?_⟩
    have hk0 := (hk.uq hF).1
    refine congrArg (fun z => some (vL z)) ?_
    unfold digestA
    refine Eq.trans ?_ (if_neg (fun z => z hk0)).symm
    refine flo_eq rfl rfl ?_ (fun _ _ _ _ => rfl)
    rw [h5, hk0]
  · skip
    refine e_iload_n 3 (dec_at dX6_digest 118) rfl rfl ?_
    refine e_aload_n 0 (dec_at dX6_digest 119) rfl rfl ?_
    refine e_getr 7 (dec_at dX6_digest 120) flX6_13 rfl rfl ?_
    refine e_iconst (dec_at dX6_digest 121) ?_
    refine e_iald (dec_at dX6_digest 122) rfl (by decide) (aLk_23 _) (by omega) (fun r198 => ?_)
    refine e_icmp_ge 246 (dec_at dX6_digest 123) (by decide) (by omega) (by omega) (fun h199 => ?_) (fun h199 => ?_)
    · refine e_lload_n 1 (dec_at dX6_digest 147) rfl rfl ?_
      refine e_lreturn (dec_at dX6_digest 148) rfl ?_
      refine ⟨fm, hJ.go fm mk, fun k p hk => ?_⟩
      have hke := (hk.uq mk.2.1).1
      have hk0 : k ≠ 0 := by rw [hke]; exact h5
      refine congrArg (fun z => some (vL z)) ?_
      unfold digestA
      refine Eq.trans ?_ (if_pos hk0).symm
      rw [hke]
    · refine e_aload_n 0 (dec_at dX6_digest 124) rfl rfl ?_
      refine e_geti 5 5 (dec_at dX6_digest 125) flX6_99 rfl rfl rfl (fun r203 => ?_)
      refine e_if_ne 246 (dec_at dX6_digest 126) (by decide) (by omega) (fun h206 => ?_) (fun h206 => ?_)
      · refine e_lload_n 1 (dec_at dX6_digest 147) rfl rfl ?_
        refine e_lreturn (dec_at dX6_digest 148) rfl ?_
        refine ⟨fm, hJ.go fm mk, fun k p hk => ?_⟩
        have hke := (hk.uq mk.2.1).1
        have hk0 : k ≠ 0 := by rw [hke]; exact h5
        refine congrArg (fun z => some (vL z)) ?_
        unfold digestA
        refine Eq.trans ?_ (if_pos hk0).symm
        rw [hke]
      · exact absurd (by omega) h5
