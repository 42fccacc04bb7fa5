/-! THE REFERENCE answers: its public methods -/
theorem flo_k {α : Type} {F : Int → α → α} {i e : Int} {a b : α} {P : α → Prop} (K : P (flo F i e a)) (h : i < e) (hb : F i a = b) : P (flo F (i + 1) e b) := by
  rw [flo_step h, hb] at K
  exact K
theorem flo_z {α : Type} {F : Int → α → α} {i e : Int} {a : α} {P : α → Prop} (K : P (flo F i e a)) (h : e ≤ i) : P a := by
  rw [flo_stop h] at K
  exact K
theorem XMd.d8 {μ ν : Mm} {l c : Int} (X : XMd μ ν l) (c0 : 0 ≤ c) (c1 : c < Lv μ l 0 0) : 0 ≤ Lv μ l 8 c ∧ Lv μ l 8 c ≤ 350 := by
  have nb := X.nb
  rw [← ed_deg X.2.2.2.1 nb.2.2.2.2.1 c0 c1]
  have w := ctz_in (p := fun e => Lv μ l 3 (Lv μ l 7 e) = c ∨ Lv μ l 3 (nx (Lv μ l) (Lv μ l 7 e)) = c) nb.2.2.2.2.1
  omega

set_option maxRecDepth 100000 in
set_option maxHeartbeats 4000000 in
theorem m_fault {μ : Mm} (w : Int) (h_w : inR w) (hJ : JSM μ) : Mc mX6_fault 6 [vR 21 0, vI w] μ (fun r ν => FM μ ν ∧ JSM ν ∧ ∀ k p, IsF (Nt μ 0) k p → r = some (vI (faultA w k p))) := by
  refine Mc.of (L := [some (vR 21 0), some (vI w)]) (by decide +kernel) (by simp [leL, entA, isLong, mX6_fault]) (by simp [entA, isLong, mX6_fault]) ?_
  refine e_iload_n 1 (dec_at dX6_fault 0) rfl rfl ?_
  refine e_i2l (dec_at dX6_fault 1) (by omega) ?_
  refine e_lconst 0 (dec_at dX6_fault 2) rfl ?_
  refine e_lconst 1 (dec_at dX6_fault 3) rfl ?_
  refine e_callSr (M' := mX6_in) (dec_at dX6_fault 4) mlX6_59 (m_in w 0 1 (by omega) (by omega) (by omega)) oX6_in sX6_in rfl rfl (by decide) (by decide) (Nat.le_of_ble_eq_true rfl) ?_
  refine e_bne 13 (dec_at dX6_fault 5) (by decide) (fun h7 => ?_) (fun h7 => ?_)
  · refine e_aload_n 0 (dec_at dX6_fault 8) rfl rfl ?_
    refine e_callV (M' := mX6_make) (dec_at dX6_fault 9) mlX6_140 (m_make hJ.1 hJ.2.1 hJ.2.2.1 hJ.2.2.2.1 hJ.2.2.2.2.1 hJ.2.2.2.2.2) oX6_make iX6_make rfl rfl rfl rfl (by decide) (by decide) (Nat.le_of_ble_eq_true rfl) (fun r ν hQ => ?_)
    obtain ⟨rfl, fm, mk⟩ := hQ
    show Ev mX6_fault 6 17 _ [] ν _
    refine e_iload_n 1 (dec_at dX6_fault 10) rfl rfl ?_
    refine e_if_ne 28 (dec_at dX6_fault 11) (by decide) (by omega) (fun h18 => ?_) (fun h18 => ?_)
    · refine e_aload_n 0 (dec_at dX6_fault 15) rfl rfl ?_
      refine e_geti 6 6 (dec_at dX6_fault 16) flX6_102 rfl rfl rfl (fun r29 => ?_)
      refine e_ireturn (dec_at dX6_fault 17) rfl ?_
      refine ⟨fm, hJ.go fm mk, fun k p hk => congrArg (fun z => some (vI z)) ?_⟩
      have hu := hk.uq mk.2.1
      unfold faultA
      refine Eq.trans ?_ (if_neg (by omega)).symm
      by_cases hw0 : w = 0
      · refine Eq.trans ?_ (if_pos hw0).symm
        first | exact hu.1.symm | (exfalso; omega)
      · refine Eq.trans ?_ (if_neg hw0).symm
        first | exact hu.2.symm | (exfalso; omega)
    · refine e_aload_n 0 (dec_at dX6_fault 12) rfl rfl ?_
      refine e_geti 5 5 (dec_at dX6_fault 13) flX6_99 rfl rfl rfl (fun r22 => ?_)
      refine e_goto 32 (dec_at dX6_fault 14) (by decide) ?_
      refine e_ireturn (dec_at dX6_fault 17) rfl ?_
      refine ⟨fm, hJ.go fm mk, fun k p hk => congrArg (fun z => some (vI z)) ?_⟩
      have hu := hk.uq mk.2.1
      unfold faultA
      refine Eq.trans ?_ (if_neg (by omega)).symm
      by_cases hw0 : w = 0
      · refine Eq.trans ?_ (if_pos hw0).symm
        first | exact hu.1.symm | (exfalso; omega)
      · refine Eq.trans ?_ (if_neg hw0).symm
        first | exact hu.2.symm | (exfalso; omega)
  · refine e_bipush (dec_at dX6_fault 6) (by decide) ?_
    refine e_ireturn (dec_at dX6_fault 7) rfl ?_
    refine ⟨FM.rf, hJ, fun k p _ => ?_⟩
    refine congrArg (fun z => some (vI z)) ?_
    unfold faultA
    exact (if_pos (by omega)).symm

set_option maxRecDepth 100000 in
set_option maxHeartbeats 4000000 in
theorem l_many3 {μ ν : Mm} {l : Int} {Q : Option Vv → Mm → Prop} (X : XMd μ ν l) : ∀ (q : Nat) (c : Int) (x : Int), (Lv μ l 0 0 - c).toNat = q → 0 ≤ c → c ≤ Lv μ l 0 0 → Q (some (vI (flo (fun c a => if Lv μ l 8 c = 4 then a else a + 1) c (Lv μ l 0 0) x))) ν → Ev mX6_many 7 96 [some (vR 21 0), some (vI l), some (vI 3), some (vI x), some (vI c)] [] ν (Q) := by
  intro q
  induction q using Nat.strongRecOn with
  | _ q ih =>
  intro c x hq c0 c1 K
  have nb := X.nb
  refine e_iload (dec_at dX6_many 39) rfl ?_
  refine e_aload_n 0 (dec_at dX6_many 40) rfl rfl ?_
  refine e_getr 7 (dec_at dX6_many 41) flX6_13 rfl rfl ?_
  refine e_iload_n 1 (dec_at dX6_many 42) rfl rfl ?_
  refine e_ialdv (Lv μ l 0 0) (dec_at dX6_many 43) rfl (by decide) (aLk_23 _) (by omega) (by exact X.mp.2.1) (fun r103 => ?_)
  refine e_icmp_ge 132 (dec_at dX6_many 44) (by decide) (by omega) (by omega) (fun h104 => ?_) (fun h104 => ?_)
  · refine e_iload_n 3 (dec_at dX6_many 59) rfl rfl ?_
    refine e_ireturn (dec_at dX6_many 60) rfl ?_
    exact flo_z (P := fun z => Q (some (vI z)) ν) K (by omega)
  · have h8 := X.d8 c0 (by omega)
    refine e_iload_n 3 (dec_at dX6_many 45) rfl rfl ?_
    refine e_aload_n 0 (dec_at dX6_many 46) rfl rfl ?_
    refine e_iload_n 1 (dec_at dX6_many 47) rfl rfl ?_
    refine e_iload (dec_at dX6_many 48) rfl ?_
    refine e_callVr (M' := mX6_edgesAt) (dec_at dX6_many 49) mlX6_153 (m_edgesAt c X ⟨by omega, by omega⟩) oX6_edgesAt iX6_edgesAt rfl rfl rfl rfl (by decide) (by decide) (Nat.le_of_ble_eq_true rfl) ?_
    refine e_iconst (dec_at dX6_many 50) ?_
    refine e_icmp_ne 123 (dec_at dX6_many 51) (by decide) (by omega) (by omega) (fun h116 => ?_) (fun h116 => ?_)
    · refine e_iconst (dec_at dX6_many 54) ?_
      refine e_iadd (dec_at dX6_many 55) ?_
      refine e_is3 (dec_at dX6_many 56) (by decide) rfl ?_
      refine e_ii4 (dec_at dX6_many 57) (by decide) rfl ?_
      refine e_goto 96 (dec_at dX6_many 58) (by decide) ?_
      exact ih _ (by omega) (c + 1) _ rfl (by omega) (by omega) (flo_k (P := fun z => Q (some (vI z)) ν) K (by omega) (if_neg (by omega)))
    · refine e_iconst (dec_at dX6_many 52) ?_
      refine e_goto 124 (dec_at dX6_many 53) (by decide) ?_
      refine e_iadd (dec_at dX6_many 55) ?_
      refine e_is3 (dec_at dX6_many 56) (by decide) rfl ?_
      refine e_ii4 (dec_at dX6_many 57) (by decide) rfl ?_
      refine e_goto 96 (dec_at dX6_many 58) (by decide) ?_
      exact ih _ (by omega) (c + 1) _ rfl (by omega) (by omega) (flo_k (P := fun z => Q (some (vI z)) ν) K (by omega) ((if_pos (by omega)).trans (Int.add_zero x).symm))

set_option maxRecDepth 100000 in
set_option maxHeartbeats 4000000 in
theorem l_many4 {μ ν : Mm} {l : Int} {Q : Option Vv → Mm → Prop} (X : XMd μ ν l) : ∀ (q : Nat) (c : Int) (x : Int), (Lv μ l 0 1 - c).toNat = q → 0 ≤ c → c ≤ Lv μ l 0 1 → Q (some (vI (flo (fun f a => if Lv μ l 2 (f + 1) - Lv μ l 2 f = 4 then a else a + 1) c (Lv μ l 0 1) x))) ν → Ev mX6_many 7 137 [some (vR 21 0), some (vI l), some (vI 4), some (vI x), some (vI c)] [] ν (Q) := by
  intro q
  induction q using Nat.strongRecOn with
  | _ q ih =>
  intro c x hq c0 c1 K
  have nb := X.nb
  refine e_iload (dec_at dX6_many 63) rfl ?_
  refine e_aload_n 0 (dec_at dX6_many 64) rfl rfl ?_
  refine e_getr 8 (dec_at dX6_many 65) flX6_16 rfl rfl ?_
  refine e_iload_n 1 (dec_at dX6_many 66) rfl rfl ?_
  refine e_ialdv (Lv μ l 0 1) (dec_at dX6_many 67) rfl (by decide) (aLk_24 _) (by omega) (by exact X.mp.2.2.1) (fun r144 => ?_)
  refine e_icmp_ge 173 (dec_at dX6_many 68) (by decide) (by omega) (by omega) (fun h145 => ?_) (fun h145 => ?_)
  · refine e_iload_n 3 (dec_at dX6_many 83) rfl rfl ?_
    refine e_ireturn (dec_at dX6_many 84) rfl ?_
    exact flo_z (P := fun z => Q (some (vI z)) ν) K (by omega)
  · have h8 := X.mp.at c0 (by omega)
    refine e_iload_n 3 (dec_at dX6_many 69) rfl rfl ?_
    refine e_aload_n 0 (dec_at dX6_many 70) rfl rfl ?_
    refine e_iload_n 1 (dec_at dX6_many 71) rfl rfl ?_
    refine e_iload (dec_at dX6_many 72) rfl ?_
    refine e_callVr (M' := mX6_sizeOf) (dec_at dX6_many 73) mlX6_70 (m_sizeOf (μ := ν) l c X.mp c0 (by omega)) oX6_sizeOf iX6_sizeOf rfl rfl rfl rfl (by decide) (by decide) (Nat.le_of_ble_eq_true rfl) ?_
    refine e_iconst (dec_at dX6_many 74) ?_
    refine e_icmp_ne 164 (dec_at dX6_many 75) (by decide) (by omega) (by omega) (fun h157 => ?_) (fun h157 => ?_)
    · refine e_iconst (dec_at dX6_many 78) ?_
      refine e_iadd (dec_at dX6_many 79) ?_
      refine e_is3 (dec_at dX6_many 80) (by decide) rfl ?_
      refine e_ii4 (dec_at dX6_many 81) (by decide) rfl ?_
      refine e_goto 137 (dec_at dX6_many 82) (by decide) ?_
      exact ih _ (by omega) (c + 1) _ rfl (by omega) (by omega) (flo_k (P := fun z => Q (some (vI z)) ν) K (by omega) (if_neg (by omega)))
    · refine e_iconst (dec_at dX6_many 76) ?_
      refine e_goto 165 (dec_at dX6_many 77) (by decide) ?_
      refine e_iadd (dec_at dX6_many 79) ?_
      refine e_is3 (dec_at dX6_many 80) (by decide) rfl ?_
      refine e_ii4 (dec_at dX6_many 81) (by decide) rfl ?_
      refine e_goto 137 (dec_at dX6_many 82) (by decide) ?_
      exact ih _ (by omega) (c + 1) _ rfl (by omega) (by omega) (flo_k (P := fun z => Q (some (vI z)) ν) K (by omega) ((if_pos (by omega)).trans (Int.add_zero x).symm))

set_option maxRecDepth 100000 in
set_option maxHeartbeats 4000000 in
theorem m_many {μ : Mm} (l w : Int) (h_l : inR l) (h_w : inR w) (hJ : JSM μ) : Mc mX6_many 7 [vR 21 0, vI l, vI w] μ (MA μ (fun k => vI (manyA μ l w k))) := by
  refine Mc.of (L := [some (vR 21 0), some (vI l), some (vI w), none, none]) (by decide +kernel) (by simp [leL, entA, isLong, mX6_many]) (by simp [entA, isLong, mX6_many]) ?_
  refine e_iload_n 1 (dec_at dX6_many 0) rfl rfl ?_
  refine e_callSr (M' := mX6_isLevel) (dec_at dX6_many 1) mlX6_143 (m_isLevel l h_l) oX6_isLevel sX6_isLevel rfl rfl (by decide) (by decide) (Nat.le_of_ble_eq_true rfl) ?_
  refine e_bne 10 (dec_at dX6_many 2) (by decide) (fun h4 => ?_) (fun h4 => ?_)
  · refine e_iload_n 2 (dec_at dX6_many 5) rfl rfl ?_
    refine e_i2l (dec_at dX6_many 6) (by omega) ?_
    refine e_lconst 0 (dec_at dX6_many 7) rfl ?_
    refine e_ldc2 5 (dec_at dX6_many 8) klX6_147 (by decide) ?_
    refine e_callSr (M' := mX6_in) (dec_at dX6_many 9) mlX6_59 (m_in w 0 5 (by omega) (by omega) (by omega)) oX6_in sX6_in rfl rfl (by decide) (by decide) (Nat.le_of_ble_eq_true rfl) ?_
    refine e_bne 25 (dec_at dX6_many 10) (by decide) (fun h19 => ?_) (fun h19 => ?_)
    · refine e_aload_n 0 (dec_at dX6_many 13) rfl rfl ?_
      refine e_callV (M' := mX6_isGood) (dec_at dX6_many 14) mlX6_149 (m_isGood hJ) oX6_isGood iX6_isGood rfl rfl rfl rfl (by decide) (by decide) (Nat.le_of_ble_eq_true rfl) (fun r ν hQ => ?_)
      obtain ⟨rfl, fm, mk⟩ := hQ
      show Ev mX6_many 7 29 _ [vI (b01 (ν 21 0 5 = 0))] ν _
      refine e_bne 35 (dec_at dX6_many 15) (by decide) (fun h29 => ?_) (fun h29 => ?_)
      · obtain ⟨X, hF⟩ := XM (l := l) hJ mk h29 (by omega)
        have nb := X.nb
        refine e_iconst (dec_at dX6_many 18) ?_
        refine e_is3 (dec_at dX6_many 19) (by decide) rfl ?_
        refine e_iload_n 2 (dec_at dX6_many 20) rfl rfl ?_
        obtain rfl | rfl | rfl | rfl | rfl | rfl : w = 0 ∨ w = 1 ∨ w = 2 ∨ w = 3 ∨ w = 4 ∨ w = 5 := by omega
        · refine e_tableIn 72 (dec_at dX6_many 21) (by decide) (by decide) (by decide) rfl (by decide) ?_
          refine e_aload_n 0 (dec_at dX6_many 22) rfl rfl ?_
          refine e_getr 7 (dec_at dX6_many 23) flX6_13 rfl rfl ?_
          refine e_iload_n 1 (dec_at dX6_many 24) rfl rfl ?_
          refine e_ialdv (Lv μ l 0 0) (dec_at dX6_many 25) rfl (by decide) (aLk_23 _) (by omega) (by exact X.mp.2.1) (fun r77 => ?_)
          refine e_ireturn (dec_at dX6_many 26) rfl ?_
          refine ⟨fm, hJ.go fm mk, fun k p hk => ?_⟩
          have hk0 := (hk.uq hF).1
          refine congrArg (fun z => some (vI z)) ?_
          unfold manyA
          refine Eq.trans ?_ (if_neg (by omega)).symm
          refine Eq.trans ?_ (if_neg (by decide)).symm
          refine Eq.trans ?_ (if_neg (fun z => z hk0)).symm
          refine Eq.trans ?_ (if_pos rfl).symm
          rfl
        · refine e_tableIn 79 (dec_at dX6_many 21) (by decide) (by decide) (by decide) rfl (by decide) ?_
          refine e_aload_n 0 (dec_at dX6_many 27) rfl rfl ?_
          refine e_getr 9 (dec_at dX6_many 28) flX6_19 rfl rfl ?_
          refine e_iload_n 1 (dec_at dX6_many 29) rfl rfl ?_
          refine e_ialdv (Lv μ l 0 2) (dec_at dX6_many 30) rfl (by decide) (aLk_25 _) (by omega) (by exact X.2.1.2.1) (fun r84 => ?_)
          refine e_ireturn (dec_at dX6_many 31) rfl ?_
          refine ⟨fm, hJ.go fm mk, fun k p hk => ?_⟩
          have hk0 := (hk.uq hF).1
          refine congrArg (fun z => some (vI z)) ?_
          unfold manyA
          refine Eq.trans ?_ (if_neg (by omega)).symm
          refine Eq.trans ?_ (if_neg (by decide)).symm
          refine Eq.trans ?_ (if_neg (fun z => z hk0)).symm
          refine Eq.trans ?_ (if_neg (by decide)).symm
          refine Eq.trans ?_ (if_pos rfl).symm
          rfl
        · refine e_tableIn 86 (dec_at dX6_many 21) (by decide) (by decide) (by decide) rfl (by decide) ?_
          refine e_aload_n 0 (dec_at dX6_many 32) rfl rfl ?_
          refine e_getr 8 (dec_at dX6_many 33) flX6_16 rfl rfl ?_
          refine e_iload_n 1 (dec_at dX6_many 34) rfl rfl ?_
          refine e_ialdv (Lv μ l 0 1) (dec_at dX6_many 35) rfl (by decide) (aLk_24 _) (by omega) (by exact X.mp.2.2.1) (fun r91 => ?_)
          refine e_ireturn (dec_at dX6_many 36) rfl ?_
          refine ⟨fm, hJ.go fm mk, fun k p hk => ?_⟩
          have hk0 := (hk.uq hF).1
          refine congrArg (fun z => some (vI z)) ?_
          unfold manyA
          refine Eq.trans ?_ (if_neg (by omega)).symm
          refine Eq.trans ?_ (if_neg (by decide)).symm
          refine Eq.trans ?_ (if_neg (fun z => z hk0)).symm
          refine Eq.trans ?_ (if_neg (by decide)).symm
          refine Eq.trans ?_ (if_neg (by decide)).symm
          refine Eq.trans ?_ (if_pos rfl).symm
          rfl
        · refine e_tableIn 93 (dec_at dX6_many 21) (by decide) (by decide) (by decide) rfl (by decide) ?_
          refine e_iconst (dec_at dX6_many 37) ?_
          refine e_is4 (dec_at dX6_many 38) (by decide) rfl ?_
          refine l_many3 X _ 0 0 rfl (by omega) (by omega) ?_
          refine ⟨fm, hJ.go fm mk, fun k p hk => ?_⟩
          have hk0 := (hk.uq hF).1
          refine congrArg (fun z => some (vI z)) ?_
          unfold manyA
          refine Eq.trans ?_ (if_neg (by omega)).symm
          refine Eq.trans ?_ (if_neg (by decide)).symm
          refine Eq.trans ?_ (if_neg (fun z => z hk0)).symm
          refine Eq.trans ?_ (if_neg (by decide)).symm
          refine Eq.trans ?_ (if_neg (by decide)).symm
          refine Eq.trans ?_ (if_neg (by decide)).symm
          refine Eq.trans ?_ (if_pos rfl).symm
          rfl
        · refine e_tableIn 134 (dec_at dX6_many 21) (by decide) (by decide) (by decide) rfl (by decide) ?_
          refine e_iconst (dec_at dX6_many 61) ?_
          refine e_is4 (dec_at dX6_many 62) (by decide) rfl ?_
          refine l_many4 X _ 0 0 rfl (by omega) (by omega) ?_
          refine ⟨fm, hJ.go fm mk, fun k p hk => ?_⟩
          have hk0 := (hk.uq hF).1
          refine congrArg (fun z => some (vI z)) ?_
          unfold manyA
          refine Eq.trans ?_ (if_neg (by omega)).symm
          refine Eq.trans ?_ (if_neg (by decide)).symm
          refine Eq.trans ?_ (if_neg (fun z => z hk0)).symm
          refine Eq.trans ?_ (if_neg (by decide)).symm
          refine Eq.trans ?_ (if_neg (by decide)).symm
          refine Eq.trans ?_ (if_neg (by decide)).symm
          refine Eq.trans ?_ (if_neg (by decide)).symm
          refine Eq.trans ?_ (if_pos rfl).symm
          rfl
        · refine e_tableOut 175 (dec_at dX6_many 21) (by decide) (by decide) (by decide) ?_
          refine e_aload_n 0 (dec_at dX6_many 85) rfl rfl ?_
          refine e_getr 7 (dec_at dX6_many 86) flX6_13 rfl rfl ?_
          refine e_iload_n 1 (dec_at dX6_many 87) rfl rfl ?_
          refine e_ialdv (Lv μ l 0 0) (dec_at dX6_many 88) rfl (by decide) (aLk_23 _) (by omega) (by exact X.mp.2.1) (fun r180 => ?_)
          refine e_aload_n 0 (dec_at dX6_many 89) rfl rfl ?_
          refine e_getr 8 (dec_at dX6_many 90) flX6_16 rfl rfl ?_
          refine e_iload_n 1 (dec_at dX6_many 91) rfl rfl ?_
          refine e_ialdv (Lv μ l 0 1) (dec_at dX6_many 92) rfl (by decide) (aLk_24 _) (by omega) (by exact X.mp.2.2.1) (fun r186 => ?_)
          refine e_iadd (dec_at dX6_many 93) ?_
          refine e_aload_n 0 (dec_at dX6_many 94) rfl rfl ?_
          refine e_getr 9 (dec_at dX6_many 95) flX6_19 rfl rfl ?_
          refine e_iload_n 1 (dec_at dX6_many 96) rfl rfl ?_
          refine e_ialdv (Lv μ l 0 2) (dec_at dX6_many 97) rfl (by decide) (aLk_25 _) (by omega) (by exact X.2.1.2.1) (fun r193 => ?_)
          refine e_isub (dec_at dX6_many 98) ?_
          refine e_ireturn (dec_at dX6_many 99) rfl ?_
          refine ⟨fm, hJ.go fm mk, fun k p hk => ?_⟩
          have hk0 := (hk.uq hF).1
          refine congrArg (fun z => some (vI z)) ?_
          unfold manyA
          refine Eq.trans ?_ (if_neg (by omega)).symm
          refine Eq.trans ?_ (if_neg (by decide)).symm
          refine Eq.trans ?_ (if_neg (fun z => z hk0)).symm
          refine Eq.trans ?_ (if_neg (by decide)).symm
          refine Eq.trans ?_ (if_neg (by decide)).symm
          refine Eq.trans ?_ (if_neg (by decide)).symm
          refine Eq.trans ?_ (if_neg (by decide)).symm
          refine Eq.trans ?_ (if_neg (by decide)).symm
          rfl
      · refine e_bipush (dec_at dX6_many 16) (by decide) ?_
        refine e_ireturn (dec_at dX6_many 17) rfl ?_
        refine ⟨fm, hJ.go fm mk, fun k p hk => ?_⟩
        have hke := (hk.uq mk.2.1).1
        have hk0 : k ≠ 0 := by rw [hke]; exact h29
        refine congrArg (fun z => some (vI z)) ?_
        unfold manyA
        refine Eq.trans ?_ (if_neg (by omega)).symm
        refine Eq.trans ?_ (if_neg (by omega)).symm
        refine Eq.trans ?_ (if_pos hk0).symm
        rfl
    · refine e_bipush (dec_at dX6_many 11) (by decide) ?_
      refine e_ireturn (dec_at dX6_many 12) rfl ?_
      refine ⟨FM.rf, hJ, fun k p _ => ?_⟩
      refine congrArg (fun z => some (vI z)) ?_
      unfold manyA
      refine Eq.trans ?_ (if_neg (by omega)).symm
      refine Eq.trans ?_ (if_pos (by omega)).symm
      rfl
  · refine e_bipush (dec_at dX6_many 3) (by decide) ?_
    refine e_ireturn (dec_at dX6_many 4) rfl ?_
    refine ⟨FM.rf, hJ, fun k p _ => ?_⟩
    refine congrArg (fun z => some (vI z)) ?_
    unfold manyA
    refine Eq.trans ?_ (if_pos (by omega)).symm
    rfl

set_option maxRecDepth 100000 in
set_option maxHeartbeats 4000000 in
theorem m_at {μ : Mm} (l c a : Int) (h_l : inR l) (h_c : inR c) (h_a : inR a) (hJ : JSM μ) : Mc mX6_at 7 [vR 21 0, vI l, vI c, vI a] μ (MA μ (fun k => vI (atA μ l c a k))) := by
  refine Mc.of (L := [some (vR 21 0), some (vI l), some (vI c), some (vI a)]) (by decide +kernel) (by simp [leL, entA, isLong, mX6_at]) (by simp [entA, isLong, mX6_at]) ?_
  refine e_iload_n 1 (dec_at dX6_at 0) rfl rfl ?_
  refine e_callSr (M' := mX6_isLevel) (dec_at dX6_at 1) mlX6_143 (m_isLevel l h_l) oX6_isLevel sX6_isLevel rfl rfl (by decide) (by decide) (Nat.le_of_ble_eq_true rfl) ?_
  refine e_beq 14 (dec_at dX6_at 2) (by decide) (fun h4 => ?_) (fun h4 => ?_)
  · refine e_ldc (-2000000001) (dec_at dX6_at 6) kcX6_159 (by decide) ?_
    refine e_ireturn (dec_at dX6_at 7) rfl ?_
    refine ⟨FM.rf, hJ, fun k p _ => ?_⟩
    refine congrArg (fun z => some (vI z)) ?_
    unfold atA
    refine Eq.trans ?_ (if_pos (by omega)).symm
    rfl
  · refine e_iload_n 3 (dec_at dX6_at 3) rfl rfl ?_
    refine e_callSr (M' := mX6_isAxis) (dec_at dX6_at 4) mlX6_156 (m_isAxis a h_a) oX6_isAxis sX6_isAxis rfl rfl (by decide) (by decide) (Nat.le_of_ble_eq_true rfl) ?_
    refine e_bne 17 (dec_at dX6_at 5) (by decide) (fun h11 => ?_) (fun h11 => ?_)
    · refine e_aload_n 0 (dec_at dX6_at 8) rfl rfl ?_
      refine e_callV (M' := mX6_isGood) (dec_at dX6_at 9) mlX6_149 (m_isGood hJ) oX6_isGood iX6_isGood rfl rfl rfl rfl (by decide) (by decide) (Nat.le_of_ble_eq_true rfl) (fun r ν hQ => ?_)
      obtain ⟨rfl, fm, mk⟩ := hQ
      show Ev mX6_at 7 21 _ [vI (b01 (ν 21 0 5 = 0))] ν _
      refine e_bne 27 (dec_at dX6_at 10) (by decide) (fun h21 => ?_) (fun h21 => ?_)
      · obtain ⟨X, hF⟩ := XM (l := l) hJ mk h21 (by omega)
        have nb := X.nb
        refine e_iload_n 2 (dec_at dX6_at 13) rfl rfl ?_
        refine e_i2l (dec_at dX6_at 14) (by omega) ?_
        refine e_lconst 0 (dec_at dX6_at 15) rfl ?_
        refine e_aload_n 0 (dec_at dX6_at 16) rfl rfl ?_
        refine e_getr 7 (dec_at dX6_at 17) flX6_13 rfl rfl ?_
        refine e_iload_n 1 (dec_at dX6_at 18) rfl rfl ?_
        refine e_ialdv (Lv μ l 0 0) (dec_at dX6_at 19) rfl (by decide) (aLk_23 _) (by omega) (by exact X.mp.2.1) (fun r35 => ?_)
        refine e_iconst (dec_at dX6_at 20) ?_
        refine e_isub (dec_at dX6_at 21) ?_
        refine e_i2l (dec_at dX6_at 22) (by omega) ?_
        refine e_callSr (M' := mX6_in) (dec_at dX6_at 23) mlX6_59 (m_in c 0 (Lv μ l 0 0 - 1) (by omega) (by omega) (by omega)) oX6_in sX6_in rfl rfl (by decide) (by decide) (Nat.le_of_ble_eq_true rfl) ?_
        refine e_beq 55 (dec_at dX6_at 24) (by decide) (fun h42 => ?_) (fun h42 => ?_)
        · refine e_ldc (-2000000001) (dec_at dX6_at 31) kcX6_159 (by decide) ?_
          refine e_ireturn (dec_at dX6_at 32) rfl ?_
          refine ⟨fm, hJ.go fm mk, fun k p hk => ?_⟩
          have hk0 := (hk.uq hF).1
          refine congrArg (fun z => some (vI z)) ?_
          unfold atA
          refine Eq.trans ?_ (if_neg (by omega)).symm
          refine Eq.trans ?_ (if_neg (fun z => z hk0)).symm
          refine Eq.trans ?_ (if_pos (by omega)).symm
          rfl
        · refine e_aload_n 0 (dec_at dX6_at 25) rfl rfl ?_
          refine e_iload_n 1 (dec_at dX6_at 26) rfl rfl ?_
          refine e_iload_n 2 (dec_at dX6_at 27) rfl rfl ?_
          refine e_iload_n 3 (dec_at dX6_at 28) rfl rfl ?_
          refine e_callVr (M' := mX6_number) (dec_at dX6_at 29) mlX6_161 (m_num X c a (by omega) (by omega)) oX6_number iX6_number rfl rfl rfl rfl (by decide) (by decide) (Nat.le_of_ble_eq_true rfl) ?_
          refine e_goto 57 (dec_at dX6_at 30) (by decide) ?_
          refine e_ireturn (dec_at dX6_at 32) rfl ?_
          refine ⟨fm, hJ.go fm mk, fun k p hk => ?_⟩
          have hk0 := (hk.uq hF).1
          refine congrArg (fun z => some (vI z)) ?_
          unfold atA
          refine Eq.trans ?_ (if_neg (by omega)).symm
          refine Eq.trans ?_ (if_neg (fun z => z hk0)).symm
          refine Eq.trans ?_ (if_neg (by omega)).symm
          rfl
      · refine e_ldc (-2000000003) (dec_at dX6_at 11) kcX6_160 (by decide) ?_
        refine e_ireturn (dec_at dX6_at 12) rfl ?_
        refine ⟨fm, hJ.go fm mk, fun k p hk => ?_⟩
        have hke := (hk.uq mk.2.1).1
        have hk0 : k ≠ 0 := by rw [hke]; exact h21
        refine congrArg (fun z => some (vI z)) ?_
        unfold atA
        refine Eq.trans ?_ (if_neg (by omega)).symm
        refine Eq.trans ?_ (if_pos hk0).symm
        rfl
    · refine e_ldc (-2000000001) (dec_at dX6_at 6) kcX6_159 (by decide) ?_
      refine e_ireturn (dec_at dX6_at 7) rfl ?_
      refine ⟨FM.rf, hJ, fun k p _ => ?_⟩
      refine congrArg (fun z => some (vI z)) ?_
      unfold atA
      refine Eq.trans ?_ (if_pos (by omega)).symm
      rfl

set_option maxRecDepth 100000 in
set_option maxHeartbeats 4000000 in
theorem m_edge {μ : Mm} (l e s : Int) (h_l : inR l) (h_e : inR e) (h_s : inR s) (hJ : JSM μ) : Mc mX6_edge 7 [vR 21 0, vI l, vI e, vI s] μ (MA μ (fun k => vI (edgeA μ l e s k))) := by
  refine Mc.of (L := [some (vR 21 0), some (vI l), some (vI e), some (vI s)]) (by decide +kernel) (by simp [leL, entA, isLong, mX6_edge]) (by simp [entA, isLong, mX6_edge]) ?_
  refine e_iload_n 1 (dec_at dX6_edge 0) rfl rfl ?_
  refine e_callSr (M' := mX6_isLevel) (dec_at dX6_edge 1) mlX6_143 (m_isLevel l h_l) oX6_isLevel sX6_isLevel rfl rfl (by decide) (by decide) (Nat.le_of_ble_eq_true rfl) ?_
  refine e_bne 10 (dec_at dX6_edge 2) (by decide) (fun h4 => ?_) (fun h4 => ?_)
  · refine e_iload_n 3 (dec_at dX6_edge 5) rfl rfl ?_
    refine e_i2l (dec_at dX6_edge 6) (by omega) ?_
    refine e_lconst 0 (dec_at dX6_edge 7) rfl ?_
    refine e_lconst 1 (dec_at dX6_edge 8) rfl ?_
    refine e_callSr (M' := mX6_in) (dec_at dX6_edge 9) mlX6_59 (m_in s 0 1 (by omega) (by omega) (by omega)) oX6_in sX6_in rfl rfl (by decide) (by decide) (Nat.le_of_ble_eq_true rfl) ?_
    refine e_bne 23 (dec_at dX6_edge 10) (by decide) (fun h17 => ?_) (fun h17 => ?_)
    · refine e_aload_n 0 (dec_at dX6_edge 13) rfl rfl ?_
      refine e_callV (M' := mX6_isGood) (dec_at dX6_edge 14) mlX6_149 (m_isGood hJ) oX6_isGood iX6_isGood rfl rfl rfl rfl (by decide) (by decide) (Nat.le_of_ble_eq_true rfl) (fun r ν hQ => ?_)
      obtain ⟨rfl, fm, mk⟩ := hQ
      show Ev mX6_edge 7 27 _ [vI (b01 (ν 21 0 5 = 0))] ν _
      refine e_bne 33 (dec_at dX6_edge 15) (by decide) (fun h27 => ?_) (fun h27 => ?_)
      · obtain ⟨X, hF⟩ := XM (l := l) hJ mk h27 (by omega)
        have nb := X.nb
        refine e_iload_n 2 (dec_at dX6_edge 18) rfl rfl ?_
        refine e_i2l (dec_at dX6_edge 19) (by omega) ?_
        refine e_lconst 0 (dec_at dX6_edge 20) rfl ?_
        refine e_aload_n 0 (dec_at dX6_edge 21) rfl rfl ?_
        refine e_getr 9 (dec_at dX6_edge 22) flX6_19 rfl rfl ?_
        refine e_iload_n 1 (dec_at dX6_edge 23) rfl rfl ?_
        refine e_ialdv (Lv μ l 0 2) (dec_at dX6_edge 24) rfl (by decide) (aLk_25 _) (by omega) (by exact X.2.1.2.1) (fun r41 => ?_)
        refine e_iconst (dec_at dX6_edge 25) ?_
        refine e_isub (dec_at dX6_edge 26) ?_
        refine e_i2l (dec_at dX6_edge 27) (by omega) ?_
        refine e_callSr (M' := mX6_in) (dec_at dX6_edge 28) mlX6_59 (m_in e 0 (Lv μ l 0 2 - 1) (by omega) (by omega) (by omega)) oX6_in sX6_in rfl rfl (by decide) (by decide) (Nat.le_of_ble_eq_true rfl) ?_
        refine e_bne 56 (dec_at dX6_edge 29) (by decide) (fun h48 => ?_) (fun h48 => ?_)
        · have E := X.ed (e := e) (by omega) (by omega)
          refine e_iload_n 3 (dec_at dX6_edge 32) rfl rfl ?_
          refine e_if_ne 75 (dec_at dX6_edge 33) (by decide) (by omega) (fun h57 => ?_) (fun h57 => ?_)
          · refine e_aload_n 0 (dec_at dX6_edge 43) rfl rfl ?_
            refine e_getr 15 (dec_at dX6_edge 44) flX6_37 rfl rfl ?_
            refine e_sipush (dec_at dX6_edge 45) (by decide) ?_
            refine e_iload_n 1 (dec_at dX6_edge 46) rfl rfl ?_
            refine e_imul (dec_at dX6_edge 47) ?_
            refine e_iload_n 2 (dec_at dX6_edge 48) rfl rfl ?_
            refine e_iadd (dec_at dX6_edge 49) ?_
            refine e_ialdv (Lv μ l 3 (nx (Lv μ l) (Lv μ l 7 e))) (dec_at dX6_edge 50) rfl (by decide) (aLk_31 _) (by omega) (by exact E.2.1) (fun r86 => ?_)
            refine e_ireturn (dec_at dX6_edge 51) rfl ?_
            refine ⟨fm, hJ.go fm mk, fun k p hk => ?_⟩
            have hk0 := (hk.uq hF).1
            refine congrArg (fun z => some (vI z)) ?_
            unfold edgeA
            refine Eq.trans ?_ (if_neg (by omega)).symm
            refine Eq.trans ?_ (if_neg (by omega)).symm
            refine Eq.trans ?_ (if_neg (fun z => z hk0)).symm
            refine Eq.trans ?_ (if_neg (by omega)).symm
            refine Eq.trans ?_ (if_neg h57).symm
            rfl
          · refine e_aload_n 0 (dec_at dX6_edge 34) rfl rfl ?_
            refine e_getr 14 (dec_at dX6_edge 35) flX6_34 rfl rfl ?_
            refine e_sipush (dec_at dX6_edge 36) (by decide) ?_
            refine e_iload_n 1 (dec_at dX6_edge 37) rfl rfl ?_
            refine e_imul (dec_at dX6_edge 38) ?_
            refine e_iload_n 2 (dec_at dX6_edge 39) rfl rfl ?_
            refine e_iadd (dec_at dX6_edge 40) ?_
            refine e_ialdv (Lv μ l 3 (Lv μ l 7 e)) (dec_at dX6_edge 41) rfl (by decide) (aLk_30 _) (by omega) (by exact E.1) (fun r71 => ?_)
            refine e_goto 87 (dec_at dX6_edge 42) (by decide) ?_
            refine e_ireturn (dec_at dX6_edge 51) rfl ?_
            refine ⟨fm, hJ.go fm mk, fun k p hk => ?_⟩
            have hk0 := (hk.uq hF).1
            refine congrArg (fun z => some (vI z)) ?_
            unfold edgeA
            refine Eq.trans ?_ (if_neg (by omega)).symm
            refine Eq.trans ?_ (if_neg (by omega)).symm
            refine Eq.trans ?_ (if_neg (fun z => z hk0)).symm
            refine Eq.trans ?_ (if_neg (by omega)).symm
            refine Eq.trans ?_ (if_pos (by omega)).symm
            rfl
        · refine e_bipush (dec_at dX6_edge 30) (by decide) ?_
          refine e_goto 87 (dec_at dX6_edge 31) (by decide) ?_
          refine e_ireturn (dec_at dX6_edge 51) rfl ?_
          refine ⟨fm, hJ.go fm mk, fun k p hk => ?_⟩
          have hk0 := (hk.uq hF).1
          refine congrArg (fun z => some (vI z)) ?_
          unfold edgeA
          refine Eq.trans ?_ (if_neg (by omega)).symm
          refine Eq.trans ?_ (if_neg (by omega)).symm
          refine Eq.trans ?_ (if_neg (fun z => z hk0)).symm
          refine Eq.trans ?_ (if_pos (by omega)).symm
          rfl
      · refine e_bipush (dec_at dX6_edge 16) (by decide) ?_
        refine e_ireturn (dec_at dX6_edge 17) rfl ?_
        refine ⟨fm, hJ.go fm mk, fun k p hk => ?_⟩
        have hke := (hk.uq mk.2.1).1
        have hk0 : k ≠ 0 := by rw [hke]; exact h27
        refine congrArg (fun z => some (vI z)) ?_
        unfold edgeA
        refine Eq.trans ?_ (if_neg (by omega)).symm
        refine Eq.trans ?_ (if_neg (by omega)).symm
        refine Eq.trans ?_ (if_pos hk0).symm
        rfl
    · refine e_bipush (dec_at dX6_edge 11) (by decide) ?_
      refine e_ireturn (dec_at dX6_edge 12) rfl ?_
      refine ⟨FM.rf, hJ, fun k p _ => ?_⟩
      refine congrArg (fun z => some (vI z)) ?_
      unfold edgeA
      refine Eq.trans ?_ (if_neg (by omega)).symm
      refine Eq.trans ?_ (if_pos (by omega)).symm
      rfl
  · refine e_bipush (dec_at dX6_edge 3) (by decide) ?_
    refine e_ireturn (dec_at dX6_edge 4) rfl ?_
    refine ⟨FM.rf, hJ, fun k p _ => ?_⟩
    refine congrArg (fun z => some (vI z)) ?_
    unfold edgeA
    refine Eq.trans ?_ (if_pos (by omega)).symm
    rfl

set_option maxRecDepth 100000 in
set_option maxHeartbeats 4000000 in
theorem m_size {μ : Mm} (l f : Int) (h_l : inR l) (h_f : inR f) (hJ : JSM μ) : Mc mX6_size 8 [vR 21 0, vI l, vI f] μ (MA μ (fun k => vI (sizeA μ l f k))) := by
  refine Mc.of (L := [some (vR 21 0), some (vI l), some (vI f), none]) (by decide +kernel) (by simp [leL, entA, isLong, mX6_size]) (by simp [entA, isLong, mX6_size]) ?_
  refine e_aload_n 0 (dec_at dX6_size 0) rfl rfl ?_
  refine e_iload_n 1 (dec_at dX6_size 1) rfl rfl ?_
  refine e_iload_n 2 (dec_at dX6_size 2) rfl rfl ?_
  refine e_callV (M' := mX6_faceRefusal) (dec_at dX6_size 3) mlX6_164 (m_faceRefusal l f h_l h_f hJ) oX6_faceRefusal iX6_faceRefusal rfl rfl rfl rfl (by decide) (by decide) (Nat.le_of_ble_eq_true rfl) (fun r ν hQ => ?_)
  obtain ⟨fm, hJn, hor⟩ := hQ
  rcases hor with ⟨hl, rfl⟩ | ⟨hl, h5, mk, rfl⟩ | ⟨hl, h5, mk, hf, rfl⟩ | ⟨hl, h5, mk, hf, rfl⟩
  · show Ev mX6_size 8 6 _ [vI (-101)] ν _
    refine e_is3 (dec_at dX6_size 4) (by decide) rfl ?_
    refine e_iload_n 3 (dec_at dX6_size 5) rfl rfl ?_
    refine e_if_eq 15 (dec_at dX6_size 6) (by decide) (by decide) (fun h => absurd h (by decide)) (fun _ => ?_)
    refine e_iload_n 3 (dec_at dX6_size 7) rfl rfl ?_
    refine e_goto 21 (dec_at dX6_size 8) (by decide) ?_
    refine e_ireturn (dec_at dX6_size 13) rfl ?_
    refine ⟨fm, hJn, fun k p hk => ?_⟩
    refine congrArg (fun z => some (vI z)) ?_
    unfold sizeA
    first
    | (exact (if_pos (by omega)).symm)
    | (refine Eq.trans ?_ (if_neg (by omega)).symm
       first
       | (exact (if_pos (by rw [(hk.uq mk.2.1).1]; exact h5)).symm)
       | (refine Eq.trans ?_ (if_neg (fun z => z (hk.uq hF).1)).symm
          first
          | (exact (if_pos (by omega)).symm)
          | (refine Eq.trans ?_ (if_neg (by omega)).symm
             rfl)))
  · show Ev mX6_size 8 6 _ [vI (-103)] ν _
    refine e_is3 (dec_at dX6_size 4) (by decide) rfl ?_
    refine e_iload_n 3 (dec_at dX6_size 5) rfl rfl ?_
    refine e_if_eq 15 (dec_at dX6_size 6) (by decide) (by decide) (fun h => absurd h (by decide)) (fun _ => ?_)
    refine e_iload_n 3 (dec_at dX6_size 7) rfl rfl ?_
    refine e_goto 21 (dec_at dX6_size 8) (by decide) ?_
    refine e_ireturn (dec_at dX6_size 13) rfl ?_
    refine ⟨fm, hJn, fun k p hk => ?_⟩
    refine congrArg (fun z => some (vI z)) ?_
    unfold sizeA
    first
    | (exact (if_pos (by omega)).symm)
    | (refine Eq.trans ?_ (if_neg (by omega)).symm
       first
       | (exact (if_pos (by rw [(hk.uq mk.2.1).1]; exact h5)).symm)
       | (refine Eq.trans ?_ (if_neg (fun z => z (hk.uq hF).1)).symm
          first
          | (exact (if_pos (by omega)).symm)
          | (refine Eq.trans ?_ (if_neg (by omega)).symm
             rfl)))
  · show Ev mX6_size 8 6 _ [vI (-101)] ν _
    obtain ⟨X, hF⟩ := XM (l := l) hJ mk h5 (by omega)
    have nb := X.nb
    refine e_is3 (dec_at dX6_size 4) (by decide) rfl ?_
    refine e_iload_n 3 (dec_at dX6_size 5) rfl rfl ?_
    refine e_if_eq 15 (dec_at dX6_size 6) (by decide) (by decide) (fun h => absurd h (by decide)) (fun _ => ?_)
    refine e_iload_n 3 (dec_at dX6_size 7) rfl rfl ?_
    refine e_goto 21 (dec_at dX6_size 8) (by decide) ?_
    refine e_ireturn (dec_at dX6_size 13) rfl ?_
    refine ⟨fm, hJn, fun k p hk => ?_⟩
    refine congrArg (fun z => some (vI z)) ?_
    unfold sizeA
    first
    | (exact (if_pos (by omega)).symm)
    | (refine Eq.trans ?_ (if_neg (by omega)).symm
       first
       | (exact (if_pos (by rw [(hk.uq mk.2.1).1]; exact h5)).symm)
       | (refine Eq.trans ?_ (if_neg (fun z => z (hk.uq hF).1)).symm
          first
          | (exact (if_pos (by omega)).symm)
          | (refine Eq.trans ?_ (if_neg (by omega)).symm
             rfl)))
  · show Ev mX6_size 8 6 _ [vI (0)] ν _
    obtain ⟨X, hF⟩ := XM (l := l) hJ mk h5 (by omega)
    have nb := X.nb
    refine e_is3 (dec_at dX6_size 4) (by decide) rfl ?_
    refine e_iload_n 3 (dec_at dX6_size 5) rfl rfl ?_
    refine e_if_eq 15 (dec_at dX6_size 6) (by decide) (by decide) (fun _ => ?_) (fun h => absurd h (by decide))
    refine e_aload_n 0 (dec_at dX6_size 9) rfl rfl ?_
    refine e_iload_n 1 (dec_at dX6_size 10) rfl rfl ?_
    refine e_iload_n 2 (dec_at dX6_size 11) rfl rfl ?_
    refine e_callVr (M' := mX6_sizeOf) (dec_at dX6_size 12) mlX6_70 (m_sizeOf (μ := ν) l f X.mp (by omega) (by omega)) oX6_sizeOf iX6_sizeOf rfl rfl rfl rfl (by decide) (by decide) (Nat.le_of_ble_eq_true rfl) ?_
    refine e_ireturn (dec_at dX6_size 13) rfl ?_
    refine ⟨fm, hJn, fun k p hk => ?_⟩
    refine congrArg (fun z => some (vI z)) ?_
    unfold sizeA
    first
    | (exact (if_pos (by omega)).symm)
    | (refine Eq.trans ?_ (if_neg (by omega)).symm
       first
       | (exact (if_pos (by rw [(hk.uq mk.2.1).1]; exact h5)).symm)
       | (refine Eq.trans ?_ (if_neg (fun z => z (hk.uq hF).1)).symm
          first
          | (exact (if_pos (by omega)).symm)
          | (refine Eq.trans ?_ (if_neg (by omega)).symm
             rfl)))

set_option maxRecDepth 100000 in
set_option maxHeartbeats 4000000 in
theorem m_ring {μ : Mm} (l f j : Int) (h_l : inR l) (h_f : inR f) (h_j : inR j) (hJ : JSM μ) : Mc mX6_ring 8 [vR 21 0, vI l, vI f, vI j] μ (MA μ (fun k => vI (ringA μ l f j k))) := by
  refine Mc.of (L := [some (vR 21 0), some (vI l), some (vI f), some (vI j), none]) (by decide +kernel) (by simp [leL, entA, isLong, mX6_ring]) (by simp [entA, isLong, mX6_ring]) ?_
  refine e_aload_n 0 (dec_at dX6_ring 0) rfl rfl ?_
  refine e_iload_n 1 (dec_at dX6_ring 1) rfl rfl ?_
  refine e_iload_n 2 (dec_at dX6_ring 2) rfl rfl ?_
  refine e_callV (M' := mX6_faceRefusal) (dec_at dX6_ring 3) mlX6_164 (m_faceRefusal l f h_l h_f hJ) oX6_faceRefusal iX6_faceRefusal rfl rfl rfl rfl (by decide) (by decide) (Nat.le_of_ble_eq_true rfl) (fun r ν hQ => ?_)
  obtain ⟨fm, hJn, hor⟩ := hQ
  rcases hor with ⟨hl, rfl⟩ | ⟨hl, h5, mk, rfl⟩ | ⟨hl, h5, mk, hf, rfl⟩ | ⟨hl, h5, mk, hf, rfl⟩
  · show Ev mX6_ring 8 6 _ [vI (-101)] ν _
    refine e_is4 (dec_at dX6_ring 4) (by decide) rfl ?_
    refine e_iload (dec_at dX6_ring 5) rfl ?_
    refine e_if_eq 18 (dec_at dX6_ring 6) (by decide) (by decide) (fun h => absurd h (by decide)) (fun _ => ?_)
    refine e_iload (dec_at dX6_ring 7) rfl ?_
    refine e_goto 47 (dec_at dX6_ring 8) (by decide) ?_
    refine e_ireturn (dec_at dX6_ring 28) rfl ?_
    refine ⟨fm, hJn, fun k p hk => ?_⟩
    refine congrArg (fun z => some (vI z)) ?_
    unfold ringA
    first
    | (exact (if_pos (by omega)).symm)
    | (refine Eq.trans ?_ (if_neg (by omega)).symm
       first
       | (exact (if_pos (by rw [(hk.uq mk.2.1).1]; exact h5)).symm)
       | (refine Eq.trans ?_ (if_neg (fun z => z (hk.uq hF).1)).symm
          first
          | (exact (if_pos (by omega)).symm)
          | (refine Eq.trans ?_ (if_neg (by omega)).symm
             first | (exact (if_pos (by omega)).symm) | (exact (if_neg (by omega)).symm))))
  · show Ev mX6_ring 8 6 _ [vI (-103)] ν _
    refine e_is4 (dec_at dX6_ring 4) (by decide) rfl ?_
    refine e_iload (dec_at dX6_ring 5) rfl ?_
    refine e_if_eq 18 (dec_at dX6_ring 6) (by decide) (by decide) (fun h => absurd h (by decide)) (fun _ => ?_)
    refine e_iload (dec_at dX6_ring 7) rfl ?_
    refine e_goto 47 (dec_at dX6_ring 8) (by decide) ?_
    refine e_ireturn (dec_at dX6_ring 28) rfl ?_
    refine ⟨fm, hJn, fun k p hk => ?_⟩
    refine congrArg (fun z => some (vI z)) ?_
    unfold ringA
    first
    | (exact (if_pos (by omega)).symm)
    | (refine Eq.trans ?_ (if_neg (by omega)).symm
       first
       | (exact (if_pos (by rw [(hk.uq mk.2.1).1]; exact h5)).symm)
       | (refine Eq.trans ?_ (if_neg (fun z => z (hk.uq hF).1)).symm
          first
          | (exact (if_pos (by omega)).symm)
          | (refine Eq.trans ?_ (if_neg (by omega)).symm
             first | (exact (if_pos (by omega)).symm) | (exact (if_neg (by omega)).symm))))
  · show Ev mX6_ring 8 6 _ [vI (-101)] ν _
    obtain ⟨X, hF⟩ := XM (l := l) hJ mk h5 (by omega)
    have nb := X.nb
    refine e_is4 (dec_at dX6_ring 4) (by decide) rfl ?_
    refine e_iload (dec_at dX6_ring 5) rfl ?_
    refine e_if_eq 18 (dec_at dX6_ring 6) (by decide) (by decide) (fun h => absurd h (by decide)) (fun _ => ?_)
    refine e_iload (dec_at dX6_ring 7) rfl ?_
    refine e_goto 47 (dec_at dX6_ring 8) (by decide) ?_
    refine e_ireturn (dec_at dX6_ring 28) rfl ?_
    refine ⟨fm, hJn, fun k p hk => ?_⟩
    refine congrArg (fun z => some (vI z)) ?_
    unfold ringA
    first
    | (exact (if_pos (by omega)).symm)
    | (refine Eq.trans ?_ (if_neg (by omega)).symm
       first
       | (exact (if_pos (by rw [(hk.uq mk.2.1).1]; exact h5)).symm)
       | (refine Eq.trans ?_ (if_neg (fun z => z (hk.uq hF).1)).symm
          first
          | (exact (if_pos (by omega)).symm)
          | (refine Eq.trans ?_ (if_neg (by omega)).symm
             first | (exact (if_pos (by omega)).symm) | (exact (if_neg (by omega)).symm))))
  · show Ev mX6_ring 8 6 _ [vI (0)] ν _
    obtain ⟨X, hF⟩ := XM (l := l) hJ mk h5 (by omega)
    have nb := X.nb
    refine e_is4 (dec_at dX6_ring 4) (by decide) rfl ?_
    refine e_iload (dec_at dX6_ring 5) rfl ?_
    refine e_if_eq 18 (dec_at dX6_ring 6) (by decide) (by decide) (fun _ => ?_) (fun h => absurd h (by decide))
    have A := X.mp.at (f := f) (by omega) (by omega)
    refine e_iload_n 3 (dec_at dX6_ring 9) rfl rfl ?_
    refine e_i2l (dec_at dX6_ring 10) (by omega) ?_
    refine e_lconst 0 (dec_at dX6_ring 11) rfl ?_
    refine e_aload_n 0 (dec_at dX6_ring 12) rfl rfl ?_
    refine e_iload_n 1 (dec_at dX6_ring 13) rfl rfl ?_
    refine e_iload_n 2 (dec_at dX6_ring 14) rfl rfl ?_
    refine e_callVr (M' := mX6_sizeOf) (dec_at dX6_ring 15) mlX6_70 (m_sizeOf (μ := ν) l f X.mp (by omega) (by omega)) oX6_sizeOf iX6_sizeOf rfl rfl rfl rfl (by decide) (by decide) (Nat.le_of_ble_eq_true rfl) ?_
    refine e_iconst (dec_at dX6_ring 16) ?_
    refine e_isub (dec_at dX6_ring 17) ?_
    refine e_i2l (dec_at dX6_ring 18) (by omega) ?_
    refine e_callSr (M' := mX6_in) (dec_at dX6_ring 19) mlX6_59 (m_in j 0 (Lv μ l 2 (f + 1) - Lv μ l 2 f - 1) (by omega) (by omega) (by omega)) oX6_in sX6_in rfl rfl (by decide) (by decide) (Nat.le_of_ble_eq_true rfl) ?_
    refine e_beq 46 (dec_at dX6_ring 20) (by decide) (fun h33 => ?_) (fun h33 => ?_)
    · refine e_iconst (dec_at dX6_ring 27) ?_
      refine e_ireturn (dec_at dX6_ring 28) rfl ?_
      refine ⟨fm, hJn, fun k p hk => ?_⟩
      refine congrArg (fun z => some (vI z)) ?_
      unfold ringA
      first
      | (exact (if_pos (by omega)).symm)
      | (refine Eq.trans ?_ (if_neg (by omega)).symm
         first
         | (exact (if_pos (by rw [(hk.uq mk.2.1).1]; exact h5)).symm)
         | (refine Eq.trans ?_ (if_neg (fun z => z (hk.uq hF).1)).symm
            first
            | (exact (if_pos (by omega)).symm)
            | (refine Eq.trans ?_ (if_neg (by omega)).symm
               first | (exact (if_pos (by omega)).symm) | (exact (if_neg (by omega)).symm))))
    · refine e_aload_n 0 (dec_at dX6_ring 21) rfl rfl ?_
      refine e_iload_n 1 (dec_at dX6_ring 22) rfl rfl ?_
      refine e_iload_n 2 (dec_at dX6_ring 23) rfl rfl ?_
      refine e_iload_n 3 (dec_at dX6_ring 24) rfl rfl ?_
      refine e_callVr (M' := mX6_cornerOf) (dec_at dX6_ring 25) mlX6_74 (m_cornerOf (μ := ν) l f j X.mp (by omega) (by omega) (by omega) (by omega)) oX6_cornerOf iX6_cornerOf rfl rfl rfl rfl (by decide) (by decide) (Nat.le_of_ble_eq_true rfl) ?_
      refine e_goto 47 (dec_at dX6_ring 26) (by decide) ?_
      refine e_ireturn (dec_at dX6_ring 28) rfl ?_
      refine ⟨fm, hJn, fun k p hk => ?_⟩
      refine congrArg (fun z => some (vI z)) ?_
      unfold ringA
      first
      | (exact (if_pos (by omega)).symm)
      | (refine Eq.trans ?_ (if_neg (by omega)).symm
         first
         | (exact (if_pos (by rw [(hk.uq mk.2.1).1]; exact h5)).symm)
         | (refine Eq.trans ?_ (if_neg (fun z => z (hk.uq hF).1)).symm
            first
            | (exact (if_pos (by omega)).symm)
            | (refine Eq.trans ?_ (if_neg (by omega)).symm
               first | (exact (if_pos (by omega)).symm) | (exact (if_neg (by omega)).symm))))

set_option maxRecDepth 100000 in
set_option maxHeartbeats 4000000 in
theorem l_mid {μ ν : Mm} {l f a : Int} {Q : Option Vv → Mm → Prop} (X : XMd μ ν l) (ha : 0 ≤ a ∧ a < 3) (hf : 0 ≤ f ∧ f < Lv μ l 0 1) : ∀ (q : Nat) (k : Int) (x : Int), (Lv μ l 2 (f + 1) - (Lv μ l 2 f + k)).toNat = q → 0 ≤ k → Lv μ l 2 f + k ≤ Lv μ l 2 (f + 1) → Q (some (vI (flo (fun s x => x + Wn μ l (Lv μ l 3 s) a) (Lv μ l 2 f + k) (Lv μ l 2 (f + 1)) x))) ν → Ev mX6_middle 7 54 [some (vR 21 0), some (vI l), some (vI f), some (vI a), some (vI x), some (vI k)] [] ν (Q) := by
  intro q
  induction q using Nat.strongRecOn with
  | _ q ih =>
  intro k x hq k0 k1 K
  have nb := X.nb
  have A := X.mp.at hf.1 hf.2
  refine e_iload (dec_at dX6_middle 31) rfl ?_
  refine e_aload_n 0 (dec_at dX6_middle 32) rfl rfl ?_
  refine e_iload_n 1 (dec_at dX6_middle 33) rfl rfl ?_
  refine e_iload_n 2 (dec_at dX6_middle 34) rfl rfl ?_
  refine e_callVr (M' := mX6_sizeOf) (dec_at dX6_middle 35) mlX6_70 (m_sizeOf (μ := ν) l f X.mp hf.1 hf.2) oX6_sizeOf iX6_sizeOf rfl rfl rfl rfl (by decide) (by decide) (Nat.le_of_ble_eq_true rfl) ?_
  refine e_icmp_ge 90 (dec_at dX6_middle 36) (by decide) (by omega) (by omega) (fun h62 => ?_) (fun h62 => ?_)
  · refine e_iload (dec_at dX6_middle 51) rfl ?_
    refine e_ireturn (dec_at dX6_middle 52) rfl ?_
    exact flo_z (P := fun z => Q (some (vI z)) ν) K (by omega)
  · have G := X.mp.rg (s := Lv μ l 2 f + k) (by omega) (by omega)
    refine e_iload (dec_at dX6_middle 37) rfl ?_
    refine e_aload_n 0 (dec_at dX6_middle 38) rfl rfl ?_
    refine e_iload_n 1 (dec_at dX6_middle 39) rfl rfl ?_
    refine e_aload_n 0 (dec_at dX6_middle 40) rfl rfl ?_
    refine e_iload_n 1 (dec_at dX6_middle 41) rfl rfl ?_
    refine e_iload_n 2 (dec_at dX6_middle 42) rfl rfl ?_
    refine e_iload (dec_at dX6_middle 43) rfl ?_
    refine e_callVr (M' := mX6_cornerOf) (dec_at dX6_middle 44) mlX6_74 (m_cornerOf (μ := ν) l f k X.mp hf.1 hf.2 k0 (by omega)) oX6_cornerOf iX6_cornerOf rfl rfl rfl rfl (by decide) (by decide) (Nat.le_of_ble_eq_true rfl) ?_
    refine e_iload_n 3 (dec_at dX6_middle 45) rfl rfl ?_
    refine e_callVr (M' := mX6_number) (dec_at dX6_middle 46) mlX6_161 (m_num X _ a G.1 ha) oX6_number iX6_number rfl rfl rfl rfl (by decide) (by decide) (Nat.le_of_ble_eq_true rfl) ?_
    refine e_iadd (dec_at dX6_middle 47) ?_
    refine e_is4 (dec_at dX6_middle 48) (by decide) rfl ?_
    refine e_ii5 (dec_at dX6_middle 49) (by decide) rfl ?_
    refine e_goto 54 (dec_at dX6_middle 50) (by decide) ?_
    refine ih _ (by omega) (k + 1) _ rfl (by omega) (by omega) ?_
    rw [← Int.add_assoc]
    exact flo_k (P := fun z => Q (some (vI z)) ν) K (by omega) rfl

set_option maxRecDepth 100000 in
set_option maxHeartbeats 4000000 in
theorem m_middle {μ : Mm} (l f a : Int) (h_l : inR l) (h_f : inR f) (h_a : inR a) (hJ : JSM μ) : Mc mX6_middle 7 [vR 21 0, vI l, vI f, vI a] μ (MA μ (fun k => vI (middleA μ l f a k))) := by
  refine Mc.of (L := [some (vR 21 0), some (vI l), some (vI f), some (vI a), none, none]) (by decide +kernel) (by simp [leL, entA, isLong, mX6_middle]) (by simp [entA, isLong, mX6_middle]) ?_
  refine e_iload_n 1 (dec_at dX6_middle 0) rfl rfl ?_
  refine e_callSr (M' := mX6_isLevel) (dec_at dX6_middle 1) mlX6_143 (m_isLevel l h_l) oX6_isLevel sX6_isLevel rfl rfl (by decide) (by decide) (Nat.le_of_ble_eq_true rfl) ?_
  refine e_beq 14 (dec_at dX6_middle 2) (by decide) (fun h4 => ?_) (fun h4 => ?_)
  · refine e_ldc (-2000000001) (dec_at dX6_middle 6) kcX6_159 (by decide) ?_
    refine e_ireturn (dec_at dX6_middle 7) rfl ?_
    refine ⟨FM.rf, hJ, fun k p _ => ?_⟩
    refine congrArg (fun z => some (vI z)) ?_
    unfold middleA
    refine Eq.trans ?_ (if_pos (by omega)).symm
    rfl
  · refine e_iload_n 3 (dec_at dX6_middle 3) rfl rfl ?_
    refine e_callSr (M' := mX6_isAxis) (dec_at dX6_middle 4) mlX6_156 (m_isAxis a h_a) oX6_isAxis sX6_isAxis rfl rfl (by decide) (by decide) (Nat.le_of_ble_eq_true rfl) ?_
    refine e_bne 17 (dec_at dX6_middle 5) (by decide) (fun h11 => ?_) (fun h11 => ?_)
    · refine e_aload_n 0 (dec_at dX6_middle 8) rfl rfl ?_
      refine e_callV (M' := mX6_isGood) (dec_at dX6_middle 9) mlX6_149 (m_isGood hJ) oX6_isGood iX6_isGood rfl rfl rfl rfl (by decide) (by decide) (Nat.le_of_ble_eq_true rfl) (fun r ν hQ => ?_)
      obtain ⟨rfl, fm, mk⟩ := hQ
      show Ev mX6_middle 7 21 _ [vI (b01 (ν 21 0 5 = 0))] ν _
      refine e_bne 27 (dec_at dX6_middle 10) (by decide) (fun h21 => ?_) (fun h21 => ?_)
      · obtain ⟨X, hF⟩ := XM (l := l) hJ mk h21 (by omega)
        have nb := X.nb
        refine e_iload_n 2 (dec_at dX6_middle 13) rfl rfl ?_
        refine e_i2l (dec_at dX6_middle 14) (by omega) ?_
        refine e_lconst 0 (dec_at dX6_middle 15) rfl ?_
        refine e_aload_n 0 (dec_at dX6_middle 16) rfl rfl ?_
        refine e_getr 8 (dec_at dX6_middle 17) flX6_16 rfl rfl ?_
        refine e_iload_n 1 (dec_at dX6_middle 18) rfl rfl ?_
        refine e_ialdv (Lv μ l 0 1) (dec_at dX6_middle 19) rfl (by decide) (aLk_24 _) (by omega) (by exact X.mp.2.2.1) (fun r35 => ?_)
        refine e_iconst (dec_at dX6_middle 20) ?_
        refine e_isub (dec_at dX6_middle 21) ?_
        refine e_i2l (dec_at dX6_middle 22) (by omega) ?_
        refine e_callSr (M' := mX6_in) (dec_at dX6_middle 23) mlX6_59 (m_in f 0 (Lv μ l 0 1 - 1) (by omega) (by omega) (by omega)) oX6_in sX6_in rfl rfl (by decide) (by decide) (Nat.le_of_ble_eq_true rfl) ?_
        refine e_bne 48 (dec_at dX6_middle 24) (by decide) (fun h42 => ?_) (fun h42 => ?_)
        · refine e_iconst (dec_at dX6_middle 27) ?_
          refine e_is4 (dec_at dX6_middle 28) (by decide) rfl ?_
          refine e_iconst (dec_at dX6_middle 29) ?_
          refine e_is5 (dec_at dX6_middle 30) (by decide) rfl ?_
          have A := X.mp.at (f := f) (by omega) (by omega)
          refine l_mid X (by omega) (by omega) _ 0 0 rfl (by omega) (by omega) ?_
          rw [Int.add_zero]
          refine ⟨fm, hJ.go fm mk, fun k p hk => ?_⟩
          have hk0 := (hk.uq hF).1
          refine congrArg (fun z => some (vI z)) ?_
          unfold middleA
          refine Eq.trans ?_ (if_neg (by omega)).symm
          refine Eq.trans ?_ (if_neg (fun z => z hk0)).symm
          refine Eq.trans ?_ (if_neg (by omega)).symm
          rfl
        · refine e_ldc (-2000000001) (dec_at dX6_middle 25) kcX6_159 (by decide) ?_
          refine e_ireturn (dec_at dX6_middle 26) rfl ?_
          refine ⟨fm, hJ.go fm mk, fun k p hk => ?_⟩
          have hk0 := (hk.uq hF).1
          refine congrArg (fun z => some (vI z)) ?_
          unfold middleA
          refine Eq.trans ?_ (if_neg (by omega)).symm
          refine Eq.trans ?_ (if_neg (fun z => z hk0)).symm
          refine Eq.trans ?_ (if_pos (by omega)).symm
          rfl
      · refine e_ldc (-2000000003) (dec_at dX6_middle 11) kcX6_160 (by decide) ?_
        refine e_ireturn (dec_at dX6_middle 12) rfl ?_
        refine ⟨fm, hJ.go fm mk, fun k p hk => ?_⟩
        have hke := (hk.uq mk.2.1).1
        have hk0 : k ≠ 0 := by rw [hke]; exact h21
        refine congrArg (fun z => some (vI z)) ?_
        unfold middleA
        refine Eq.trans ?_ (if_neg (by omega)).symm
        refine Eq.trans ?_ (if_pos hk0).symm
        rfl
    · refine e_ldc (-2000000001) (dec_at dX6_middle 6) kcX6_159 (by decide) ?_
      refine e_ireturn (dec_at dX6_middle 7) rfl ?_
      refine ⟨FM.rf, hJ, fun k p _ => ?_⟩
      refine congrArg (fun z => some (vI z)) ?_
      unfold middleA
      refine Eq.trans ?_ (if_pos (by omega)).symm
      rfl

set_option maxRecDepth 100000 in
set_option maxHeartbeats 4000000 in
theorem l_box {μ ν : Mm} {l a s : Int} {F : Int → Int → Int} {Q : Option Vv → Mm → Prop} (X : XMd μ ν l) (ha : 0 ≤ a ∧ a < 3) (hs : inR s) (hF : (s = 0 → ∀ c x, F c x = min x (Wn μ l c a)) ∧ (s ≠ 0 → ∀ c x, F c x = max x (Wn μ l c a))) : ∀ (q : Nat) (c : Int) (x : Int), (Lv μ l 0 0 - c).toNat = q → 1 ≤ c → c ≤ Lv μ l 0 0 → -15000 ≤ x ∧ x ≤ 15000 → Q (some (vI (flo F c (Lv μ l 0 0) x))) ν → Ev mX6_box 7 52 [some (vR 21 0), some (vI l), some (vI a), some (vI s), some (vI x), some (vI c), none] [] ν (Q) := by
  intro q
  induction q using Nat.strongRecOn with
  | _ q ih =>
  intro c x hq c0 c1 hx K
  have nb := X.nb
  refine e_iload (dec_at dX6_box 29) rfl ?_
  refine e_aload_n 0 (dec_at dX6_box 30) rfl rfl ?_
  refine e_getr 7 (dec_at dX6_box 31) flX6_13 rfl rfl ?_
  refine e_iload_n 1 (dec_at dX6_box 32) rfl rfl ?_
  refine e_ialdv (Lv μ l 0 0) (dec_at dX6_box 33) rfl (by decide) (aLk_23 _) (by omega) (by exact X.mp.2.1) (fun r59 => ?_)
  refine e_icmp_ge 116 (dec_at dX6_box 34) (by decide) (by omega) (by omega) (fun h60 => ?_) (fun h60 => ?_)
  · refine e_iload (dec_at dX6_box 59) rfl ?_
    refine e_ireturn (dec_at dX6_box 60) rfl ?_
    exact flo_z (P := fun z => Q (some (vI z)) ν) K (by omega)
  · have W := X.bd (c := c) (a := a) (by omega) ha
    refine e_aload_n 0 (dec_at dX6_box 35) rfl rfl ?_
    refine e_iload_n 1 (dec_at dX6_box 36) rfl rfl ?_
    refine e_iload (dec_at dX6_box 37) rfl ?_
    refine e_iload_n 2 (dec_at dX6_box 38) rfl rfl ?_
    refine e_callVr (M' := mX6_number) (dec_at dX6_box 39) mlX6_161 (m_num X c a (by omega) ha) oX6_number iX6_number rfl rfl rfl rfl (by decide) (by decide) (Nat.le_of_ble_eq_true rfl) ?_
    refine e_is6 (dec_at dX6_box 40) (by decide) rfl ?_
    refine e_iload_n 3 (dec_at dX6_box 41) rfl rfl ?_
    refine e_if_ne 94 (dec_at dX6_box 42) (by decide) (by omega) (fun h74 => ?_) (fun h74 => ?_)
    · refine e_iload (dec_at dX6_box 50) rfl ?_
      refine e_iload (dec_at dX6_box 51) rfl ?_
      refine e_icmp_le 106 (dec_at dX6_box 52) (by decide) (by omega) (by omega) (fun h98 => ?_) (fun h98 => ?_)
      · refine e_iload (dec_at dX6_box 55) rfl ?_
        refine e_is4 (dec_at dX6_box 56) (by decide) rfl ?_
        refine e_ii5 (dec_at dX6_box 57) (by decide) rfl ?_
        refine e_goto 52 (dec_at dX6_box 58) (by decide) ?_
        refine e_le [some (vR 21 0), some (vI l), some (vI a), some (vI s), some (vI _), some (vI (c + 1)), none] (by simp [leL]; rfl) (ih _ (by omega) (c + 1) _ rfl (by omega) (by omega) (by omega) (flo_k (P := fun z => Q (some (vI z)) ν) K (by omega) ?_))
        first
        | (rw [hF.1 (by omega)]; omega)
        | (rw [hF.2 (by omega)]; omega)
      · refine e_iload (dec_at dX6_box 53) rfl ?_
        refine e_goto 108 (dec_at dX6_box 54) (by decide) ?_
        refine e_is4 (dec_at dX6_box 56) (by decide) rfl ?_
        refine e_ii5 (dec_at dX6_box 57) (by decide) rfl ?_
        refine e_goto 52 (dec_at dX6_box 58) (by decide) ?_
        refine e_le [some (vR 21 0), some (vI l), some (vI a), some (vI s), some (vI _), some (vI (c + 1)), none] (by simp [leL]; rfl) (ih _ (by omega) (c + 1) _ rfl (by omega) (by omega) (by omega) (flo_k (P := fun z => Q (some (vI z)) ν) K (by omega) ?_))
        first
        | (rw [hF.1 (by omega)]; omega)
        | (rw [hF.2 (by omega)]; omega)
    · refine e_iload (dec_at dX6_box 43) rfl ?_
      refine e_iload (dec_at dX6_box 44) rfl ?_
      refine e_icmp_ge 89 (dec_at dX6_box 45) (by decide) (by omega) (by omega) (fun h81 => ?_) (fun h81 => ?_)
      · refine e_iload (dec_at dX6_box 48) rfl ?_
        refine e_goto 108 (dec_at dX6_box 49) (by decide) ?_
        refine e_is4 (dec_at dX6_box 56) (by decide) rfl ?_
        refine e_ii5 (dec_at dX6_box 57) (by decide) rfl ?_
        refine e_goto 52 (dec_at dX6_box 58) (by decide) ?_
        refine e_le [some (vR 21 0), some (vI l), some (vI a), some (vI s), some (vI _), some (vI (c + 1)), none] (by simp [leL]; rfl) (ih _ (by omega) (c + 1) _ rfl (by omega) (by omega) (by omega) (flo_k (P := fun z => Q (some (vI z)) ν) K (by omega) ?_))
        first
        | (rw [hF.1 (by omega)]; omega)
        | (rw [hF.2 (by omega)]; omega)
      · refine e_iload (dec_at dX6_box 46) rfl ?_
        refine e_goto 108 (dec_at dX6_box 47) (by decide) ?_
        refine e_is4 (dec_at dX6_box 56) (by decide) rfl ?_
        refine e_ii5 (dec_at dX6_box 57) (by decide) rfl ?_
        refine e_goto 52 (dec_at dX6_box 58) (by decide) ?_
        refine e_le [some (vR 21 0), some (vI l), some (vI a), some (vI s), some (vI _), some (vI (c + 1)), none] (by simp [leL]; rfl) (ih _ (by omega) (c + 1) _ rfl (by omega) (by omega) (by omega) (flo_k (P := fun z => Q (some (vI z)) ν) K (by omega) ?_))
        first
        | (rw [hF.1 (by omega)]; omega)
        | (rw [hF.2 (by omega)]; omega)

set_option maxRecDepth 100000 in
set_option maxHeartbeats 4000000 in
theorem m_box {μ : Mm} (l a s : Int) (h_l : inR l) (h_a : inR a) (h_s : inR s) (hJ : JSM μ) : Mc mX6_box 7 [vR 21 0, vI l, vI a, vI s] μ (MA μ (fun k => vI (boxA μ l a s k))) := by
  refine Mc.of (L := [some (vR 21 0), some (vI l), some (vI a), some (vI s), none, none, none]) (by decide +kernel) (by simp [leL, entA, isLong, mX6_box]) (by simp [entA, isLong, mX6_box]) ?_
  refine e_iload_n 1 (dec_at dX6_box 0) rfl rfl ?_
  refine e_callSr (M' := mX6_isLevel) (dec_at dX6_box 1) mlX6_143 (m_isLevel l h_l) oX6_isLevel sX6_isLevel rfl rfl (by decide) (by decide) (Nat.le_of_ble_eq_true rfl) ?_
  refine e_beq 14 (dec_at dX6_box 2) (by decide) (fun h4 => ?_) (fun h4 => ?_)
  · refine e_ldc (-2000000001) (dec_at dX6_box 6) kcX6_159 (by decide) ?_
    refine e_ireturn (dec_at dX6_box 7) rfl ?_
    refine ⟨FM.rf, hJ, fun k p _ => ?_⟩
    refine congrArg (fun z => some (vI z)) ?_
    unfold boxA
    refine Eq.trans ?_ (if_pos (by omega)).symm
    rfl
  · refine e_iload_n 2 (dec_at dX6_box 3) rfl rfl ?_
    refine e_callSr (M' := mX6_isAxis) (dec_at dX6_box 4) mlX6_156 (m_isAxis a h_a) oX6_isAxis sX6_isAxis rfl rfl (by decide) (by decide) (Nat.le_of_ble_eq_true rfl) ?_
    refine e_bne 17 (dec_at dX6_box 5) (by decide) (fun h11 => ?_) (fun h11 => ?_)
    · refine e_iload_n 3 (dec_at dX6_box 8) rfl rfl ?_
      refine e_i2l (dec_at dX6_box 9) (by omega) ?_
      refine e_lconst 0 (dec_at dX6_box 10) rfl ?_
      refine e_lconst 1 (dec_at dX6_box 11) rfl ?_
      refine e_callSr (M' := mX6_in) (dec_at dX6_box 12) mlX6_59 (m_in s 0 1 (by omega) (by omega) (by omega)) oX6_in sX6_in rfl rfl (by decide) (by decide) (Nat.le_of_ble_eq_true rfl) ?_
      refine e_bne 30 (dec_at dX6_box 13) (by decide) (fun h24 => ?_) (fun h24 => ?_)
      · refine e_aload_n 0 (dec_at dX6_box 16) rfl rfl ?_
        refine e_callV (M' := mX6_isGood) (dec_at dX6_box 17) mlX6_149 (m_isGood hJ) oX6_isGood iX6_isGood rfl rfl rfl rfl (by decide) (by decide) (Nat.le_of_ble_eq_true rfl) (fun r ν hQ => ?_)
        obtain ⟨rfl, fm, mk⟩ := hQ
        show Ev mX6_box 7 34 _ [vI (b01 (ν 21 0 5 = 0))] ν _
        refine e_bne 40 (dec_at dX6_box 18) (by decide) (fun h34 => ?_) (fun h34 => ?_)
        · obtain ⟨X, hF⟩ := XM (l := l) hJ mk h34 (by omega)
          have nb := X.nb
          refine e_aload_n 0 (dec_at dX6_box 21) rfl rfl ?_
          refine e_iload_n 1 (dec_at dX6_box 22) rfl rfl ?_
          refine e_iconst (dec_at dX6_box 23) ?_
          refine e_iload_n 2 (dec_at dX6_box 24) rfl rfl ?_
          refine e_callVr (M' := mX6_number) (dec_at dX6_box 25) mlX6_161 (m_num X 0 a (by omega) (by omega)) oX6_number iX6_number rfl rfl rfl rfl (by decide) (by decide) (Nat.le_of_ble_eq_true rfl) ?_
          refine e_is4 (dec_at dX6_box 26) (by decide) rfl ?_
          refine e_iconst (dec_at dX6_box 27) ?_
          refine e_is5 (dec_at dX6_box 28) (by decide) rfl ?_
          have W := X.bd (c := 0) (a := a) (by omega) (by omega)
          by_cases hs0 : s = 0
          · refine l_box (F := fun c x => min x (Wn μ l c a)) X (by omega) h_s ⟨fun _ _ _ => rfl, fun q => absurd hs0 q⟩ _ 1 _ rfl (by omega) (by omega) W ?_
            refine ⟨fm, hJ.go fm mk, fun k p hk => ?_⟩
            have hk0 := (hk.uq hF).1
            refine congrArg (fun z => some (vI z)) ?_
            unfold boxA
            exact ((if_neg (by omega)).trans ((if_neg (by omega)).trans ((if_neg (fun z => z hk0)).trans (if_pos hs0)))).symm
          · refine l_box (F := fun c x => max x (Wn μ l c a)) X (by omega) h_s ⟨fun q => absurd q hs0, fun _ _ _ => rfl⟩ _ 1 _ rfl (by omega) (by omega) W ?_
            refine ⟨fm, hJ.go fm mk, fun k p hk => ?_⟩
            have hk0 := (hk.uq hF).1
            refine congrArg (fun z => some (vI z)) ?_
            unfold boxA
            exact ((if_neg (by omega)).trans ((if_neg (by omega)).trans ((if_neg (fun z => z hk0)).trans (if_neg hs0)))).symm
        · refine e_ldc (-2000000003) (dec_at dX6_box 19) kcX6_160 (by decide) ?_
          refine e_ireturn (dec_at dX6_box 20) rfl ?_
          refine ⟨fm, hJ.go fm mk, fun k p hk => ?_⟩
          have hke := (hk.uq mk.2.1).1
          have hk0 : k ≠ 0 := by rw [hke]; exact h34
          refine congrArg (fun z => some (vI z)) ?_
          unfold boxA
          refine Eq.trans ?_ (if_neg (by omega)).symm
          refine Eq.trans ?_ (if_neg (by omega)).symm
          refine Eq.trans ?_ (if_pos hk0).symm
          rfl
      · refine e_ldc (-2000000002) (dec_at dX6_box 14) kcX6_167 (by decide) ?_
        refine e_ireturn (dec_at dX6_box 15) rfl ?_
        refine ⟨FM.rf, hJ, fun k p _ => ?_⟩
        refine congrArg (fun z => some (vI z)) ?_
        unfold boxA
        refine Eq.trans ?_ (if_neg (by omega)).symm
        refine Eq.trans ?_ (if_pos (by omega)).symm
        rfl
    · refine e_ldc (-2000000001) (dec_at dX6_box 6) kcX6_159 (by decide) ?_
      refine e_ireturn (dec_at dX6_box 7) rfl ?_
      refine ⟨FM.rf, hJ, fun k p _ => ?_⟩
      refine congrArg (fun z => some (vI z)) ?_
      unfold boxA
      refine Eq.trans ?_ (if_pos (by omega)).symm
      rfl

theorem m_c0 {μ ν : Mm} {l f : Int} (X : XMd μ ν l) (hf : 0 ≤ f ∧ f < Lv μ l 0 1) : Mc mX6_cornerOf 0 [vR 21 0, vI l, vI f, vI 0] ν (Rt (some (vI (Lv μ l 3 (Lv μ l 2 f)))) ν) := by
  have A := X.mp.at hf.1 hf.2
  exact Mc.rt (m_cornerOf (μ := ν) l f 0 X.mp hf.1 hf.2 (by omega) (by omega)) (by rw [Int.add_zero]) rfl
theorem m_c1 {μ ν : Mm} {l f : Int} (k : Int) (X : XMd μ ν l) (hf : 0 ≤ f ∧ f < Lv μ l 0 1) (k0 : 0 ≤ k) (k1 : k + 1 < Lv μ l 2 (f + 1) - Lv μ l 2 f) : Mc mX6_cornerOf 0 [vR 21 0, vI l, vI f, vI (k + 1)] ν (Rt (some (vI (Lv μ l 3 (Lv μ l 2 f + k + 1)))) ν) :=
  Mc.rt (m_cornerOf (μ := ν) l f (k + 1) X.mp hf.1 hf.2 (by omega) (by omega)) (by rw [← Int.add_assoc]) rfl

set_option maxRecDepth 100000 in
set_option maxHeartbeats 4000000 in
theorem l_room1 {μ ν : Mm} {l f : Int} {Q : Option Vv → Mm → Prop} (X : XMd μ ν l) (hf : 0 ≤ f ∧ f < Lv μ l 0 1) : ∀ (q : Nat) (k : Int) (x : Int), (Lv μ l 2 (f + 1) - 1 - (Lv μ l 2 f + k)).toNat = q → 1 ≤ k → Lv μ l 2 f + k ≤ Lv μ l 2 (f + 1) - 1 → Ev mX6_room 7 97 [some (vR 21 0), some (vI l), some (vL (flo (fun s y => y + wdA (Wn μ l) (Lv μ l 3 (Lv μ l 2 f)) (Lv μ l 3 s) (Lv μ l 3 (s + 1))) (Lv μ l 2 f + k) (Lv μ l 2 (f + 1) - 1) x)), none, some (vI f), none] [] ν Q → Ev mX6_room 7 41 [some (vR 21 0), some (vI l), some (vL x), none, some (vI f), some (vI k)] [] ν (Q) := by
  intro q
  induction q using Nat.strongRecOn with
  | _ q ih =>
  intro k x hq k0 k1 K
  have nb := X.nb
  have A := X.mp.at hf.1 hf.2
  refine e_iload (dec_at dX6_room 22) rfl ?_
  refine e_iconst (dec_at dX6_room 23) ?_
  refine e_iadd (dec_at dX6_room 24) ?_
  refine e_aload_n 0 (dec_at dX6_room 25) rfl rfl ?_
  refine e_iload_n 1 (dec_at dX6_room 26) rfl rfl ?_
  refine e_iload (dec_at dX6_room 27) rfl ?_
  refine e_callVr (M' := mX6_sizeOf) (dec_at dX6_room 28) mlX6_70 (m_sizeOf (μ := ν) l f X.mp hf.1 hf.2) oX6_sizeOf iX6_sizeOf rfl rfl rfl rfl (by decide) (by decide) (Nat.le_of_ble_eq_true rfl) ?_
  refine e_icmp_ge 97 (dec_at dX6_room 29) (by decide) (by omega) (by omega) (fun h52 => ?_) (fun h52 => ?_)
  · rw [flo_stop (by omega)] at K
    exact e_le [some (vR 21 0), some (vI l), some (vL x), none, some (vI f), none] (by simp [leL]) K
  · have G0 := X.mp.rg (s := Lv μ l 2 f) (by omega) (by omega)
    have G1 := X.mp.rg (s := Lv μ l 2 f + k) (by omega) (by omega)
    have G2 := X.mp.rg (s := Lv μ l 2 f + k + 1) (by omega) (by omega)
    refine e_lload_n 2 (dec_at dX6_room 30) rfl rfl ?_
    refine e_aload_n 0 (dec_at dX6_room 31) rfl rfl ?_
    refine e_iload_n 1 (dec_at dX6_room 32) rfl rfl ?_
    refine e_aload_n 0 (dec_at dX6_room 33) rfl rfl ?_
    refine e_iload_n 1 (dec_at dX6_room 34) rfl rfl ?_
    refine e_iload (dec_at dX6_room 35) rfl ?_
    refine e_iconst (dec_at dX6_room 36) ?_
    refine e_callVr (M' := mX6_cornerOf) (dec_at dX6_room 37) mlX6_74 (m_c0 X hf) oX6_cornerOf iX6_cornerOf rfl rfl rfl rfl (by decide) (by decide) (Nat.le_of_ble_eq_true rfl) ?_
    refine e_aload_n 0 (dec_at dX6_room 38) rfl rfl ?_
    refine e_iload_n 1 (dec_at dX6_room 39) rfl rfl ?_
    refine e_iload (dec_at dX6_room 40) rfl ?_
    refine e_iload (dec_at dX6_room 41) rfl ?_
    refine e_callVr (M' := mX6_cornerOf) (dec_at dX6_room 42) mlX6_74 (m_cornerOf (μ := ν) l f k X.mp hf.1 hf.2 (by omega) (by omega)) oX6_cornerOf iX6_cornerOf rfl rfl rfl rfl (by decide) (by decide) (Nat.le_of_ble_eq_true rfl) ?_
    refine e_aload_n 0 (dec_at dX6_room 43) rfl rfl ?_
    refine e_iload_n 1 (dec_at dX6_room 44) rfl rfl ?_
    refine e_iload (dec_at dX6_room 45) rfl ?_
    refine e_iload (dec_at dX6_room 46) rfl ?_
    refine e_iconst (dec_at dX6_room 47) ?_
    refine e_iadd (dec_at dX6_room 48) ?_
    refine e_callVr (M' := mX6_cornerOf) (dec_at dX6_room 49) mlX6_74 (m_c1 k X hf (by omega) (by omega)) oX6_cornerOf iX6_cornerOf rfl rfl rfl rfl (by decide) (by decide) (Nat.le_of_ble_eq_true rfl) ?_
    refine e_callVr (M' := mX6_solid) (dec_at dX6_room 50) mlX6_172 (m_solid _ _ _ X G0.1 G1.1 G2.1) oX6_solid iX6_solid rfl rfl rfl rfl (by decide) (by decide) (Nat.le_of_ble_eq_true rfl) ?_
    refine e_ladd (dec_at dX6_room 51) ?_
    refine e_ls2 (dec_at dX6_room 52) (by decide) rfl ?_
    refine e_ii5 (dec_at dX6_room 53) (by decide) rfl ?_
    refine e_goto 41 (dec_at dX6_room 54) (by decide) ?_
    refine ih _ (by omega) (k + 1) _ rfl (by omega) (by omega) ?_
    rw [← Int.add_assoc]
    exact flo_k (P := fun z => Ev mX6_room 7 97 [some (vR 21 0), some (vI l), some (vL z), none, some (vI f), none] [] ν Q) K (by omega) rfl

set_option maxRecDepth 100000 in
set_option maxHeartbeats 4000000 in
theorem l_room0 {μ ν : Mm} {l : Int} {Q : Option Vv → Mm → Prop} (X : XMd μ ν l) : ∀ (q : Nat) (f : Int) (x : Int), (Lv μ l 0 1 - f).toNat = q → 0 ≤ f → f ≤ Lv μ l 0 1 → Q (some (vL (flo (fun f x => flo (fun s y => y + wdA (Wn μ l) (Lv μ l 3 (Lv μ l 2 f)) (Lv μ l 3 s) (Lv μ l 3 (s + 1))) (Lv μ l 2 f + 1) (Lv μ l 2 (f + 1) - 1) x) f (Lv μ l 0 1) x))) ν → Ev mX6_room 7 27 [some (vR 21 0), some (vI l), some (vL x), none, some (vI f), none] [] ν (Q) := by
  intro q
  induction q using Nat.strongRecOn with
  | _ q ih =>
  intro f x hq f0 f1 K
  have nb := X.nb
  refine e_iload (dec_at dX6_room 14) rfl ?_
  refine e_aload_n 0 (dec_at dX6_room 15) rfl rfl ?_
  refine e_getr 8 (dec_at dX6_room 16) flX6_16 rfl rfl ?_
  refine e_iload_n 1 (dec_at dX6_room 17) rfl rfl ?_
  refine e_ialdv (Lv μ l 0 1) (dec_at dX6_room 18) rfl (by decide) (aLk_24 _) (by omega) (by exact X.mp.2.2.1) (fun r34 => ?_)
  refine e_icmp_ge 103 (dec_at dX6_room 19) (by decide) (by omega) (by omega) (fun h35 => ?_) (fun h35 => ?_)
  · refine e_lload_n 2 (dec_at dX6_room 57) rfl rfl ?_
    refine e_lreturn (dec_at dX6_room 58) rfl ?_
    exact flo_z (P := fun z => Q (some (vL z)) ν) K (by omega)
  · refine e_iconst (dec_at dX6_room 20) ?_
    refine e_is5 (dec_at dX6_room 21) (by decide) rfl ?_
    have A := X.mp.at f0 (by omega)
    refine l_room1 X (by omega) _ 1 x rfl (by omega) (by omega) ?_
    refine e_ii4 (dec_at dX6_room 55) (by decide) rfl ?_
    refine e_goto 27 (dec_at dX6_room 56) (by decide) ?_
    exact ih _ (by omega) (f + 1) _ rfl (by omega) (by omega) (flo_k (P := fun z => Q (some (vL z)) ν) K (by omega) rfl)

set_option maxRecDepth 100000 in
set_option maxHeartbeats 4000000 in
theorem m_room {μ : Mm} (l : Int) (h_l : inR l) (hJ : JSM μ) : Mc mX6_room 7 [vR 21 0, vI l] μ (MA μ (fun k => vL (roomA μ l k))) := by
  refine Mc.of (L := [some (vR 21 0), some (vI l), none, none, none, none]) (by decide +kernel) (by simp [leL, entA, isLong, mX6_room]) (by simp [entA, isLong, mX6_room]) ?_
  refine e_iload_n 1 (dec_at dX6_room 0) rfl rfl ?_
  refine e_callSr (M' := mX6_isLevel) (dec_at dX6_room 1) mlX6_143 (m_isLevel l h_l) oX6_isLevel sX6_isLevel rfl rfl (by decide) (by decide) (Nat.le_of_ble_eq_true rfl) ?_
  refine e_bne 11 (dec_at dX6_room 2) (by decide) (fun h4 => ?_) (fun h4 => ?_)
  · refine e_aload_n 0 (dec_at dX6_room 5) rfl rfl ?_
    refine e_callV (M' := mX6_isGood) (dec_at dX6_room 6) mlX6_149 (m_isGood hJ) oX6_isGood iX6_isGood rfl rfl rfl rfl (by decide) (by decide) (Nat.le_of_ble_eq_true rfl) (fun r ν hQ => ?_)
    obtain ⟨rfl, fm, mk⟩ := hQ
    show Ev mX6_room 7 15 _ [vI (b01 (ν 21 0 5 = 0))] ν _
    refine e_bne 22 (dec_at dX6_room 7) (by decide) (fun h15 => ?_) (fun h15 => ?_)
    · obtain ⟨X, hF⟩ := XM (l := l) hJ mk h15 (by omega)
      have nb := X.nb
      refine e_lconst 0 (dec_at dX6_room 10) rfl ?_
      refine e_ls2 (dec_at dX6_room 11) (by decide) rfl ?_
      refine e_iconst (dec_at dX6_room 12) ?_
      refine e_is4 (dec_at dX6_room 13) (by decide) rfl ?_
      refine l_room0 X _ 0 0 rfl (by omega) (by omega) ?_
      refine ⟨fm, hJ.go fm mk, fun k p hk => ?_⟩
      have hk0 := (hk.uq hF).1
      refine congrArg (fun z => some (vL z)) ?_
      unfold roomA
      refine Eq.trans ?_ (if_neg (by omega)).symm
      refine Eq.trans ?_ (if_neg (fun z => z hk0)).symm
      rfl
    · refine e_ldc2 (-103) (dec_at dX6_room 8) klX6_170 (by decide) ?_
      refine e_lreturn (dec_at dX6_room 9) rfl ?_
      refine ⟨fm, hJ.go fm mk, fun k p hk => ?_⟩
      have hke := (hk.uq mk.2.1).1
      have hk0 : k ≠ 0 := by rw [hke]; exact h15
      refine congrArg (fun z => some (vL z)) ?_
      unfold roomA
      refine Eq.trans ?_ (if_neg (by omega)).symm
      refine Eq.trans ?_ (if_pos hk0).symm
      rfl
  · refine e_ldc2 (-101) (dec_at dX6_room 3) klX6_168 (by decide) ?_
    refine e_lreturn (dec_at dX6_room 4) rfl ?_
    refine ⟨FM.rf, hJ, fun k p _ => ?_⟩
    refine congrArg (fun z => some (vL z)) ?_
    unfold roomA
    refine Eq.trans ?_ (if_pos (by omega)).symm
    rfl

set_option maxRecDepth 100000 in
set_option maxHeartbeats 4000000 in
theorem l_cut {μ ν : Mm} {l a v : Int} {Q : Option Vv → Mm → Prop} (X : XMd μ ν l) (ha : 0 ≤ a ∧ a < 3) (hv : inR v) : ∀ (q : Nat) (e : Int) (x : Int), (Lv μ l 0 2 - e).toNat = q → 0 ≤ e → e ≤ Lv μ l 0 2 → Q (some (vI (flo (fun e x => if (Wn μ l (Lv μ l 3 (Lv μ l 7 e)) a < v ↔ Wn μ l (Lv μ l 3 (nx (Lv μ l) (Lv μ l 7 e))) a < v) then x else x + 1) e (Lv μ l 0 2) x))) ν → Ev mX6_cut 7 33 [some (vR 21 0), some (vI l), some (vI a), some (vI v), some (vI x), some (vI e), none, none] [] ν (Q) := by
  intro q
  induction q using Nat.strongRecOn with
  | _ q ih =>
  intro e x hq e0 e1 K
  have nb := X.nb
  refine e_iload (dec_at dX6_cut 17) rfl ?_
  refine e_aload_n 0 (dec_at dX6_cut 18) rfl rfl ?_
  refine e_getr 9 (dec_at dX6_cut 19) flX6_19 rfl rfl ?_
  refine e_iload_n 1 (dec_at dX6_cut 20) rfl rfl ?_
  refine e_ialdv (Lv μ l 0 2) (dec_at dX6_cut 21) rfl (by decide) (aLk_25 _) (by omega) (by exact X.2.1.2.1) (fun r40 => ?_)
  refine e_icmp_ge 127 (dec_at dX6_cut 22) (by decide) (by omega) (by omega) (fun h41 => ?_) (fun h41 => ?_)
  · refine e_iload (dec_at dX6_cut 70) rfl ?_
    refine e_ireturn (dec_at dX6_cut 71) rfl ?_
    exact flo_z (P := fun z => Q (some (vI z)) ν) K (by omega)
  · have E := X.ed (e := e) e0 (by omega)
    have W1 := X.bd (a := a) E.2.2.1 ha
    have W2 := X.bd (a := a) E.2.2.2 ha
    refine e_aload_n 0 (dec_at dX6_cut 23) rfl rfl ?_
    refine e_iload_n 1 (dec_at dX6_cut 24) rfl rfl ?_
    refine e_aload_n 0 (dec_at dX6_cut 25) rfl rfl ?_
    refine e_getr 14 (dec_at dX6_cut 26) flX6_34 rfl rfl ?_
    refine e_sipush (dec_at dX6_cut 27) (by decide) ?_
    refine e_iload_n 1 (dec_at dX6_cut 28) rfl rfl ?_
    refine e_imul (dec_at dX6_cut 29) ?_
    refine e_iload (dec_at dX6_cut 30) rfl ?_
    refine e_iadd (dec_at dX6_cut 31) ?_
    refine e_ialdv (Lv μ l 3 (Lv μ l 7 e)) (dec_at dX6_cut 32) rfl (by decide) (aLk_30 _) (by omega) (by exact E.1) (fun r58 => ?_)
    refine e_iload_n 2 (dec_at dX6_cut 33) rfl rfl ?_
    refine e_callVr (M' := mX6_number) (dec_at dX6_cut 34) mlX6_161 (m_num X _ a E.2.2.1 ha) oX6_number iX6_number rfl rfl rfl rfl (by decide) (by decide) (Nat.le_of_ble_eq_true rfl) ?_
    refine e_iload_n 3 (dec_at dX6_cut 35) rfl rfl ?_
    refine e_icmp_ge 71 (dec_at dX6_cut 36) (by decide) (by omega) (by omega) (fun h64 => ?_) (fun h64 => ?_)
    · refine e_iconst (dec_at dX6_cut 39) ?_
      refine e_is6 (dec_at dX6_cut 40) (by decide) rfl ?_
      refine e_aload_n 0 (dec_at dX6_cut 41) rfl rfl ?_
      refine e_iload_n 1 (dec_at dX6_cut 42) rfl rfl ?_
      refine e_aload_n 0 (dec_at dX6_cut 43) rfl rfl ?_
      refine e_getr 15 (dec_at dX6_cut 44) flX6_37 rfl rfl ?_
      refine e_sipush (dec_at dX6_cut 45) (by decide) ?_
      refine e_iload_n 1 (dec_at dX6_cut 46) rfl rfl ?_
      refine e_imul (dec_at dX6_cut 47) ?_
      refine e_iload (dec_at dX6_cut 48) rfl ?_
      refine e_iadd (dec_at dX6_cut 49) ?_
      refine e_ialdv (Lv μ l 3 (nx (Lv μ l) (Lv μ l 7 e))) (dec_at dX6_cut 50) rfl (by decide) (aLk_31 _) (by omega) (by exact E.2.1) (fun r88 => ?_)
      refine e_iload_n 2 (dec_at dX6_cut 51) rfl rfl ?_
      refine e_callVr (M' := mX6_number) (dec_at dX6_cut 52) mlX6_161 (m_num X _ a E.2.2.2 ha) oX6_number iX6_number rfl rfl rfl rfl (by decide) (by decide) (Nat.le_of_ble_eq_true rfl) ?_
      refine e_iload_n 3 (dec_at dX6_cut 53) rfl rfl ?_
      refine e_icmp_ge 101 (dec_at dX6_cut 54) (by decide) (by omega) (by omega) (fun h94 => ?_) (fun h94 => ?_)
      · refine e_iconst (dec_at dX6_cut 57) ?_
        refine e_is7 (dec_at dX6_cut 58) (by decide) rfl ?_
        refine e_iload (dec_at dX6_cut 59) rfl ?_
        refine e_iload (dec_at dX6_cut 60) rfl ?_
        refine e_iload (dec_at dX6_cut 61) rfl ?_
        refine e_icmp_eq 117 (dec_at dX6_cut 62) (by decide) (by decide) (by decide) (fun _ => ?_) (fun h => absurd h (by decide))
        refine e_iconst (dec_at dX6_cut 65) ?_
        refine e_iadd (dec_at dX6_cut 66) ?_
        refine e_is4 (dec_at dX6_cut 67) (by decide) rfl ?_
        refine e_ii5 (dec_at dX6_cut 68) (by decide) rfl ?_
        refine e_goto 33 (dec_at dX6_cut 69) (by decide) ?_
        refine e_le [some (vR 21 0), some (vI l), some (vI a), some (vI v), some (vI _), some (vI (e + 1)), none, none] (by simp [leL]; rfl) (ih _ (by omega) (e + 1) _ rfl (by omega) (by omega) (flo_k (P := fun z => Q (some (vI z)) ν) K (by omega) ?_))
        first
        | exact if_pos (by omega)
        | exact if_neg (by omega)
      · refine e_iconst (dec_at dX6_cut 55) ?_
        refine e_goto 102 (dec_at dX6_cut 56) (by decide) ?_
        refine e_is7 (dec_at dX6_cut 58) (by decide) rfl ?_
        refine e_iload (dec_at dX6_cut 59) rfl ?_
        refine e_iload (dec_at dX6_cut 60) rfl ?_
        refine e_iload (dec_at dX6_cut 61) rfl ?_
        refine e_icmp_eq 117 (dec_at dX6_cut 62) (by decide) (by decide) (by decide) (fun h => absurd h (by decide)) (fun _ => ?_)
        refine e_iconst (dec_at dX6_cut 63) ?_
        refine e_goto 118 (dec_at dX6_cut 64) (by decide) ?_
        refine e_iadd (dec_at dX6_cut 66) ?_
        refine e_is4 (dec_at dX6_cut 67) (by decide) rfl ?_
        refine e_ii5 (dec_at dX6_cut 68) (by decide) rfl ?_
        refine e_goto 33 (dec_at dX6_cut 69) (by decide) ?_
        refine e_le [some (vR 21 0), some (vI l), some (vI a), some (vI v), some (vI _), some (vI (e + 1)), none, none] (by simp [leL]; rfl) (ih _ (by omega) (e + 1) _ rfl (by omega) (by omega) (flo_k (P := fun z => Q (some (vI z)) ν) K (by omega) ?_))
        first
        | exact if_pos (by omega)
        | exact if_neg (by omega)
    · refine e_iconst (dec_at dX6_cut 37) ?_
      refine e_goto 72 (dec_at dX6_cut 38) (by decide) ?_
      refine e_is6 (dec_at dX6_cut 40) (by decide) rfl ?_
      refine e_aload_n 0 (dec_at dX6_cut 41) rfl rfl ?_
      refine e_iload_n 1 (dec_at dX6_cut 42) rfl rfl ?_
      refine e_aload_n 0 (dec_at dX6_cut 43) rfl rfl ?_
      refine e_getr 15 (dec_at dX6_cut 44) flX6_37 rfl rfl ?_
      refine e_sipush (dec_at dX6_cut 45) (by decide) ?_
      refine e_iload_n 1 (dec_at dX6_cut 46) rfl rfl ?_
      refine e_imul (dec_at dX6_cut 47) ?_
      refine e_iload (dec_at dX6_cut 48) rfl ?_
      refine e_iadd (dec_at dX6_cut 49) ?_
      refine e_ialdv (Lv μ l 3 (nx (Lv μ l) (Lv μ l 7 e))) (dec_at dX6_cut 50) rfl (by decide) (aLk_31 _) (by omega) (by exact E.2.1) (fun r88 => ?_)
      refine e_iload_n 2 (dec_at dX6_cut 51) rfl rfl ?_
      refine e_callVr (M' := mX6_number) (dec_at dX6_cut 52) mlX6_161 (m_num X _ a E.2.2.2 ha) oX6_number iX6_number rfl rfl rfl rfl (by decide) (by decide) (Nat.le_of_ble_eq_true rfl) ?_
      refine e_iload_n 3 (dec_at dX6_cut 53) rfl rfl ?_
      refine e_icmp_ge 101 (dec_at dX6_cut 54) (by decide) (by omega) (by omega) (fun h94 => ?_) (fun h94 => ?_)
      · refine e_iconst (dec_at dX6_cut 57) ?_
        refine e_is7 (dec_at dX6_cut 58) (by decide) rfl ?_
        refine e_iload (dec_at dX6_cut 59) rfl ?_
        refine e_iload (dec_at dX6_cut 60) rfl ?_
        refine e_iload (dec_at dX6_cut 61) rfl ?_
        refine e_icmp_eq 117 (dec_at dX6_cut 62) (by decide) (by decide) (by decide) (fun h => absurd h (by decide)) (fun _ => ?_)
        refine e_iconst (dec_at dX6_cut 63) ?_
        refine e_goto 118 (dec_at dX6_cut 64) (by decide) ?_
        refine e_iadd (dec_at dX6_cut 66) ?_
        refine e_is4 (dec_at dX6_cut 67) (by decide) rfl ?_
        refine e_ii5 (dec_at dX6_cut 68) (by decide) rfl ?_
        refine e_goto 33 (dec_at dX6_cut 69) (by decide) ?_
        refine e_le [some (vR 21 0), some (vI l), some (vI a), some (vI v), some (vI _), some (vI (e + 1)), none, none] (by simp [leL]; rfl) (ih _ (by omega) (e + 1) _ rfl (by omega) (by omega) (flo_k (P := fun z => Q (some (vI z)) ν) K (by omega) ?_))
        first
        | exact if_pos (by omega)
        | exact if_neg (by omega)
      · refine e_iconst (dec_at dX6_cut 55) ?_
        refine e_goto 102 (dec_at dX6_cut 56) (by decide) ?_
        refine e_is7 (dec_at dX6_cut 58) (by decide) rfl ?_
        refine e_iload (dec_at dX6_cut 59) rfl ?_
        refine e_iload (dec_at dX6_cut 60) rfl ?_
        refine e_iload (dec_at dX6_cut 61) rfl ?_
        refine e_icmp_eq 117 (dec_at dX6_cut 62) (by decide) (by decide) (by decide) (fun _ => ?_) (fun h => absurd h (by decide))
        refine e_iconst (dec_at dX6_cut 65) ?_
        refine e_iadd (dec_at dX6_cut 66) ?_
        refine e_is4 (dec_at dX6_cut 67) (by decide) rfl ?_
        refine e_ii5 (dec_at dX6_cut 68) (by decide) rfl ?_
        refine e_goto 33 (dec_at dX6_cut 69) (by decide) ?_
        refine e_le [some (vR 21 0), some (vI l), some (vI a), some (vI v), some (vI _), some (vI (e + 1)), none, none] (by simp [leL]; rfl) (ih _ (by omega) (e + 1) _ rfl (by omega) (by omega) (flo_k (P := fun z => Q (some (vI z)) ν) K (by omega) ?_))
        first
        | exact if_pos (by omega)
        | exact if_neg (by omega)

set_option maxRecDepth 100000 in
set_option maxHeartbeats 4000000 in
theorem m_cut {μ : Mm} (l a v : Int) (h_l : inR l) (h_a : inR a) (h_v : inR v) (hJ : JSM μ) : Mc mX6_cut 7 [vR 21 0, vI l, vI a, vI v] μ (MA μ (fun k => vI (cutA μ l a v k))) := by
  refine Mc.of (L := [some (vR 21 0), some (vI l), some (vI a), some (vI v), none, none, none, none]) (by decide +kernel) (by simp [leL, entA, isLong, mX6_cut]) (by simp [entA, isLong, mX6_cut]) ?_
  refine e_iload_n 1 (dec_at dX6_cut 0) rfl rfl ?_
  refine e_callSr (M' := mX6_isLevel) (dec_at dX6_cut 1) mlX6_143 (m_isLevel l h_l) oX6_isLevel sX6_isLevel rfl rfl (by decide) (by decide) (Nat.le_of_ble_eq_true rfl) ?_
  refine e_beq 14 (dec_at dX6_cut 2) (by decide) (fun h4 => ?_) (fun h4 => ?_)
  · refine e_bipush (dec_at dX6_cut 6) (by decide) ?_
    refine e_ireturn (dec_at dX6_cut 7) rfl ?_
    refine ⟨FM.rf, hJ, fun k p _ => ?_⟩
    refine congrArg (fun z => some (vI z)) ?_
    unfold cutA
    refine Eq.trans ?_ (if_pos (by omega)).symm
    rfl
  · refine e_iload_n 2 (dec_at dX6_cut 3) rfl rfl ?_
    refine e_callSr (M' := mX6_isAxis) (dec_at dX6_cut 4) mlX6_156 (m_isAxis a h_a) oX6_isAxis sX6_isAxis rfl rfl (by decide) (by decide) (Nat.le_of_ble_eq_true rfl) ?_
    refine e_bne 17 (dec_at dX6_cut 5) (by decide) (fun h11 => ?_) (fun h11 => ?_)
    · refine e_aload_n 0 (dec_at dX6_cut 8) rfl rfl ?_
      refine e_callV (M' := mX6_isGood) (dec_at dX6_cut 9) mlX6_149 (m_isGood hJ) oX6_isGood iX6_isGood rfl rfl rfl rfl (by decide) (by decide) (Nat.le_of_ble_eq_true rfl) (fun r ν hQ => ?_)
      obtain ⟨rfl, fm, mk⟩ := hQ
      show Ev mX6_cut 7 21 _ [vI (b01 (ν 21 0 5 = 0))] ν _
      refine e_bne 27 (dec_at dX6_cut 10) (by decide) (fun h21 => ?_) (fun h21 => ?_)
      · obtain ⟨X, hF⟩ := XM (l := l) hJ mk h21 (by omega)
        have nb := X.nb
        refine e_iconst (dec_at dX6_cut 13) ?_
        refine e_is4 (dec_at dX6_cut 14) (by decide) rfl ?_
        refine e_iconst (dec_at dX6_cut 15) ?_
        refine e_is5 (dec_at dX6_cut 16) (by decide) rfl ?_
        refine l_cut X (by omega) h_v _ 0 0 rfl (by omega) (by omega) ?_
        refine ⟨fm, hJ.go fm mk, fun k p hk => ?_⟩
        have hk0 := (hk.uq hF).1
        refine congrArg (fun z => some (vI z)) ?_
        unfold cutA
        refine Eq.trans ?_ (if_neg (by omega)).symm
        refine Eq.trans ?_ (if_neg (fun z => z hk0)).symm
        rfl
      · refine e_bipush (dec_at dX6_cut 11) (by decide) ?_
        refine e_ireturn (dec_at dX6_cut 12) rfl ?_
        refine ⟨fm, hJ.go fm mk, fun k p hk => ?_⟩
        have hke := (hk.uq mk.2.1).1
        have hk0 : k ≠ 0 := by rw [hke]; exact h21
        refine congrArg (fun z => some (vI z)) ?_
        unfold cutA
        refine Eq.trans ?_ (if_neg (by omega)).symm
        refine Eq.trans ?_ (if_pos hk0).symm
        rfl
    · refine e_bipush (dec_at dX6_cut 6) (by decide) ?_
      refine e_ireturn (dec_at dX6_cut 7) rfl ?_
      refine ⟨FM.rf, hJ, fun k p _ => ?_⟩
      refine congrArg (fun z => some (vI z)) ?_
      unfold cutA
      refine Eq.trans ?_ (if_pos (by omega)).symm
      rfl
