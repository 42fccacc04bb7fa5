/-! THE REFERENCE's moves -/
def JM (μ : Mm) : Prop := μ 21 0 18 = μ 7 0 3 ∧ ∀ i, 0 ≤ i → i < μ 7 0 3 → μ 32 0 i = ky μ i ∧ ∀ a, 0 ≤ a → a < 3 → μ 33 0 (3 * i + a) = μ 10 0 (3 * i + a)
def RKm (μ : Mm) (q v : Int) : Prop := (0 ≤ v ∧ v ≤ μ 21 0 18) ∧ (∀ i, 0 ≤ i → i < v → μ 32 0 i < q) ∧ (v < μ 21 0 18 → q ≤ μ 32 0 v)
def SMm (μ ν : Mm) (i j : Int) : Prop := ν 32 0 i = μ 32 0 j ∧ ∀ a, 0 ≤ a → a < 3 → ν 33 0 (3 * i + a) = μ 33 0 (3 * j + a)

set_option maxRecDepth 100000 in
set_option maxHeartbeats 4000000 in
theorem l_moveOf {μ : Mm} {q : Int} (hq : inR q) (hn : 0 ≤ μ 21 0 18 ∧ μ 21 0 18 ≤ 40) : ∀ (n : Nat) (k : Int), (μ 21 0 18 - k).toNat = n → 0 ≤ k → k ≤ μ 21 0 18 → (∀ i, 0 ≤ i → i < k → μ 32 0 i < q) → Ev mX6_moveOf 0 2 [some (vR 21 0), some (vI q), some (vI k)] [] μ (fun r ν => ν = μ ∧ ∃ v, r = some (vI v) ∧ RKm μ q v) := by
  intro n
  induction n using Nat.strongRecOn with
  | _ n ih =>
  intro k hq k0 k1 hk
  refine e_iload_n 2 (dec_at dX6_moveOf 2) rfl rfl ?_
  refine e_aload_n 0 (dec_at dX6_moveOf 3) rfl rfl ?_
  refine e_geti 18 18 (dec_at dX6_moveOf 4) flX6_86 rfl rfl rfl (fun r4 => ?_)
  refine e_icmp_ge 26 (dec_at dX6_moveOf 5) (by decide) (by omega) (by omega) (fun h7 => ?_) (fun h7 => ?_)
  · refine e_iload_n 2 (dec_at dX6_moveOf 14) rfl rfl ?_
    refine e_ireturn (dec_at dX6_moveOf 15) rfl ?_
    exact ⟨rfl, k, rfl, ⟨by omega, by omega⟩, hk, fun _ => by omega⟩
  · refine e_aload_n 0 (dec_at dX6_moveOf 6) rfl rfl ?_
    refine e_getr 19 (dec_at dX6_moveOf 7) flX6_40 rfl rfl ?_
    refine e_iload_n 2 (dec_at dX6_moveOf 8) rfl rfl ?_
    refine e_iald (dec_at dX6_moveOf 9) rfl (by decide) (aLk_32 _) (by omega) (fun r15 => ?_)
    refine e_iload_n 1 (dec_at dX6_moveOf 10) rfl rfl ?_
    refine e_icmp_ge 26 (dec_at dX6_moveOf 11) (by decide) (by omega) (by omega) (fun h17 => ?_) (fun h17 => ?_)
    · refine e_iload_n 2 (dec_at dX6_moveOf 14) rfl rfl ?_
      refine e_ireturn (dec_at dX6_moveOf 15) rfl ?_
      exact ⟨rfl, k, rfl, ⟨by omega, by omega⟩, hk, fun _ => by omega⟩
    · refine e_ii2 (dec_at dX6_moveOf 12) (by decide) rfl ?_
      refine e_goto 2 (dec_at dX6_moveOf 13) (by decide) ?_
      refine ih _ (by omega) (k + 1) rfl (by omega) (by omega) (fun i i0 i1 => ?_)
      by_cases e : i = k
      · subst e; omega
      · exact hk i i0 (by omega)

set_option maxRecDepth 100000 in
set_option maxHeartbeats 4000000 in
theorem m_moveOf {μ : Mm} (q : Int) (hq : inR q) (hn : 0 ≤ μ 21 0 18 ∧ μ 21 0 18 ≤ 40) : Mc mX6_moveOf 0 [vR 21 0, vI q] μ (fun r ν => ν = μ ∧ ∃ v, r = some (vI v) ∧ RKm μ q v) := by
  refine Mc.of (L := [some (vR 21 0), some (vI q), none]) (by decide +kernel) (by simp [leL, entA, isLong, mX6_moveOf]) (by simp [entA, isLong, mX6_moveOf]) ?_
  refine e_iconst (dec_at dX6_moveOf 0) ?_
  refine e_is2 (dec_at dX6_moveOf 1) (by decide) rfl ?_
  exact l_moveOf hq hn _ 0 rfl (by omega) (by omega) (fun i a b => by omega)

set_option maxRecDepth 100000 in
set_option maxHeartbeats 4000000 in
theorem m_movedOf {μ : Mm} (l c a : Int) (h : Mv μ) (j : JM μ) (hl : 0 ≤ l ∧ l ≤ 3) (hc : 0 ≤ c ∧ c ≤ 1000) (ha : 0 ≤ a ∧ a < 3) : Mc mX6_movedOf 1 [vR 21 0, vI l, vI c, vI a] μ (Rt (some (vI (mvx μ l c a))) μ) := by
  refine Mc.of (L := [some (vR 21 0), some (vI l), some (vI c), some (vI a), none, none]) (by decide +kernel) (by simp [leL, entA, isLong, mX6_movedOf]) (by simp [entA, isLong, mX6_movedOf]) ?_
  have hm := h.1
  have jm := j.1
  refine e_sipush (dec_at dX6_movedOf 0) (by decide) ?_
  refine e_iload_n 1 (dec_at dX6_movedOf 1) rfl rfl ?_
  refine e_imul (dec_at dX6_movedOf 2) ?_
  refine e_iload_n 2 (dec_at dX6_movedOf 3) rfl rfl ?_
  refine e_iadd (dec_at dX6_movedOf 4) ?_
  refine e_is4 (dec_at dX6_movedOf 5) (by decide) rfl ?_
  refine e_aload_n 0 (dec_at dX6_movedOf 6) rfl rfl ?_
  refine e_iload (dec_at dX6_movedOf 7) rfl ?_
  refine e_callV (M' := mX6_moveOf) (dec_at dX6_movedOf 8) mlX6_184 (m_moveOf (μ := μ) (10000 * l + c) (by omega) (by omega)) oX6_moveOf iX6_moveOf rfl rfl rfl rfl (by decide) (by decide) (Nat.le_of_ble_eq_true rfl) (fun r ν hQ => ?_)
  obtain ⟨rfl, v, rfl, hv⟩ := hQ
  have hv1 := hv.1
  show Ev mX6_movedOf 1 15 _ [vI v] ν _
  refine e_is5 (dec_at dX6_movedOf 9) (by decide) rfl ?_
  refine e_iload (dec_at dX6_movedOf 10) rfl ?_
  refine e_aload_n 0 (dec_at dX6_movedOf 11) rfl rfl ?_
  refine e_geti 18 18 (dec_at dX6_movedOf 12) flX6_86 rfl rfl rfl (fun r20 => ?_)
  refine e_icmp_ge 52 (dec_at dX6_movedOf 13) (by decide) (by omega) (by omega) (fun h23 => ?_) (fun h23 => ?_)
  · refine e_iconst (dec_at dX6_movedOf 29) ?_
    refine e_ireturn (dec_at dX6_movedOf 30) rfl ?_
    refine ⟨congrArg (fun z => some (vI z)) ?_, rfl⟩
    by_cases e : v < ν 21 0 18 ∧ ν 32 0 v = 10000 * l + c
    · have hj := j.2 v hv1.1 (by omega)
      have hM : HM ν l c v := ⟨by omega, (ky_iff h hv1.1 (by omega) hc).1 (by rw [← hj.1]; exact e.2)⟩
      first | (exfalso; omega) | (rw [mvx_at h hM]; exact hj.2 a ha.1 ha.2)
    · have hno : ¬ ∃ i, HM ν l c i := by
        rintro ⟨i, hi⟩
        have hk := (ky_iff h hi.1.1 hi.1.2 hc).2 hi.2
        have hji := j.2 i hi.1.1 hi.1.2
        by_cases w : i < v
        · have := hv.2.1 i hi.1.1 w; omega
        · have i1 := hi.1
          have z := hv.2.2 (by omega)
          by_cases w2 : i = v
          · subst w2; omega
          · have := h.2.2 v i hv1.1 (by omega) hi.1.2
            have hjv := j.2 v hv1.1 (by omega)
            omega
      first | (exfalso; omega) | exact (mvx_no hno a).symm
  · refine e_aload_n 0 (dec_at dX6_movedOf 14) rfl rfl ?_
    refine e_getr 19 (dec_at dX6_movedOf 15) flX6_40 rfl rfl ?_
    refine e_iload (dec_at dX6_movedOf 16) rfl ?_
    refine e_iald (dec_at dX6_movedOf 17) rfl (by decide) (aLk_32 _) (by omega) (fun r32 => ?_)
    refine e_iload (dec_at dX6_movedOf 18) rfl ?_
    refine e_icmp_ne 52 (dec_at dX6_movedOf 19) (by decide) (by omega) (by omega) (fun h35 => ?_) (fun h35 => ?_)
    · refine e_iconst (dec_at dX6_movedOf 29) ?_
      refine e_ireturn (dec_at dX6_movedOf 30) rfl ?_
      refine ⟨congrArg (fun z => some (vI z)) ?_, rfl⟩
      by_cases e : v < ν 21 0 18 ∧ ν 32 0 v = 10000 * l + c
      · have hj := j.2 v hv1.1 (by omega)
        have hM : HM ν l c v := ⟨by omega, (ky_iff h hv1.1 (by omega) hc).1 (by rw [← hj.1]; exact e.2)⟩
        first | (exfalso; omega) | (rw [mvx_at h hM]; exact hj.2 a ha.1 ha.2)
      · have hno : ¬ ∃ i, HM ν l c i := by
          rintro ⟨i, hi⟩
          have hk := (ky_iff h hi.1.1 hi.1.2 hc).2 hi.2
          have hji := j.2 i hi.1.1 hi.1.2
          by_cases w : i < v
          · have := hv.2.1 i hi.1.1 w; omega
          · have i1 := hi.1
            have z := hv.2.2 (by omega)
            by_cases w2 : i = v
            · subst w2; omega
            · have := h.2.2 v i hv1.1 (by omega) hi.1.2
              have hjv := j.2 v hv1.1 (by omega)
              omega
        first | (exfalso; omega) | exact (mvx_no hno a).symm
    · refine e_aload_n 0 (dec_at dX6_movedOf 20) rfl rfl ?_
      refine e_getr 20 (dec_at dX6_movedOf 21) flX6_43 rfl rfl ?_
      refine e_iconst (dec_at dX6_movedOf 22) ?_
      refine e_iload (dec_at dX6_movedOf 23) rfl ?_
      refine e_imul (dec_at dX6_movedOf 24) ?_
      refine e_iload_n 3 (dec_at dX6_movedOf 25) rfl rfl ?_
      refine e_iadd (dec_at dX6_movedOf 26) ?_
      refine e_iald (dec_at dX6_movedOf 27) rfl (by decide) (aLk_33 _) (by omega) (fun r48 => ?_)
      refine e_goto 53 (dec_at dX6_movedOf 28) (by decide) ?_
      refine e_ireturn (dec_at dX6_movedOf 30) rfl ?_
      refine ⟨congrArg (fun z => some (vI z)) ?_, rfl⟩
      by_cases e : v < ν 21 0 18 ∧ ν 32 0 v = 10000 * l + c
      · have hj := j.2 v hv1.1 (by omega)
        have hM : HM ν l c v := ⟨by omega, (ky_iff h hv1.1 (by omega) hc).1 (by rw [← hj.1]; exact e.2)⟩
        first | (exfalso; omega) | (rw [mvx_at h hM]; exact hj.2 a ha.1 ha.2)
      · have hno : ¬ ∃ i, HM ν l c i := by
          rintro ⟨i, hi⟩
          have hk := (ky_iff h hi.1.1 hi.1.2 hc).2 hi.2
          have hji := j.2 i hi.1.1 hi.1.2
          by_cases w : i < v
          · have := hv.2.1 i hi.1.1 w; omega
          · have i1 := hi.1
            have z := hv.2.2 (by omega)
            by_cases w2 : i = v
            · subst w2; omega
            · have := h.2.2 v i hv1.1 (by omega) hi.1.2
              have hjv := j.2 v hv1.1 (by omega)
              omega
        first | (exfalso; omega) | exact (mvx_no hno a).symm

set_option maxRecDepth 100000 in
set_option maxHeartbeats 4000000 in
theorem m_moved {μ : Mm} (l c a : Int) (hl : inR l) (hc : inR c) (ha : inR a) (h : Mv μ) (j : JM μ) : Mc mX6_moved 6 [vR 21 0, vI l, vI c, vI a] μ (Rt (some (vI (movedA μ l c a))) μ) := by
  refine Mc.of (L := [some (vR 21 0), some (vI l), some (vI c), some (vI a)]) (by decide +kernel) (by simp [leL, entA, isLong, mX6_moved]) (by simp [entA, isLong, mX6_moved]) ?_
  refine e_iload_n 1 (dec_at dX6_moved 0) rfl rfl ?_
  refine e_i2l (dec_at dX6_moved 1) (by omega) ?_
  refine e_lconst 1 (dec_at dX6_moved 2) rfl ?_
  refine e_ldc2 3 (dec_at dX6_moved 3) klX6_82 (by decide) ?_
  refine e_callSr (M' := mX6_in) (dec_at dX6_moved 4) mlX6_59 (m_in (l) (1) (3) (by omega) (by omega) (by omega)) oX6_in sX6_in rfl rfl (by decide) (by decide) (Nat.le_of_ble_eq_true rfl) ?_
  refine e_beq 41 (dec_at dX6_moved 5) (by decide) (fun h9 => ?_) (fun h9 => ?_)
  · refine e_iconst (dec_at dX6_moved 21) ?_
    refine e_ireturn (dec_at dX6_moved 22) rfl ?_
    refine ⟨congrArg (fun z => some (vI z)) ?_, rfl⟩
    unfold movedA
    first | exact (if_pos (by omega)).symm | exact (if_neg (by omega)).symm
  · refine e_iload_n 2 (dec_at dX6_moved 6) rfl rfl ?_
    refine e_i2l (dec_at dX6_moved 7) (by omega) ?_
    refine e_lconst 0 (dec_at dX6_moved 8) rfl ?_
    refine e_ldc2 1000 (dec_at dX6_moved 9) klX6_80 (by decide) ?_
    refine e_callSr (M' := mX6_in) (dec_at dX6_moved 10) mlX6_59 (m_in (c) (0) (1000) (by omega) (by omega) (by omega)) oX6_in sX6_in rfl rfl (by decide) (by decide) (Nat.le_of_ble_eq_true rfl) ?_
    refine e_beq 41 (dec_at dX6_moved 11) (by decide) (fun h21 => ?_) (fun h21 => ?_)
    · refine e_iconst (dec_at dX6_moved 21) ?_
      refine e_ireturn (dec_at dX6_moved 22) rfl ?_
      refine ⟨congrArg (fun z => some (vI z)) ?_, rfl⟩
      unfold movedA
      first | exact (if_pos (by omega)).symm | exact (if_neg (by omega)).symm
    · refine e_iload_n 3 (dec_at dX6_moved 12) rfl rfl ?_
      refine e_callSr (M' := mX6_isAxis) (dec_at dX6_moved 13) mlX6_156 (m_isAxis a ha) oX6_isAxis sX6_isAxis rfl rfl (by decide) (by decide) (Nat.le_of_ble_eq_true rfl) ?_
      refine e_beq 41 (dec_at dX6_moved 14) (by decide) (fun h28 => ?_) (fun h28 => ?_)
      · refine e_iconst (dec_at dX6_moved 21) ?_
        refine e_ireturn (dec_at dX6_moved 22) rfl ?_
        refine ⟨congrArg (fun z => some (vI z)) ?_, rfl⟩
        unfold movedA
        first | exact (if_pos (by omega)).symm | exact (if_neg (by omega)).symm
      · refine e_aload_n 0 (dec_at dX6_moved 15) rfl rfl ?_
        refine e_iload_n 1 (dec_at dX6_moved 16) rfl rfl ?_
        refine e_iload_n 2 (dec_at dX6_moved 17) rfl rfl ?_
        refine e_iload_n 3 (dec_at dX6_moved 18) rfl rfl ?_
        refine e_callVr (M' := mX6_movedOf) (dec_at dX6_moved 19) mlX6_121 (m_movedOf (μ := μ) l c a h j (by omega) (by omega) (by omega)) oX6_movedOf iX6_movedOf rfl rfl rfl rfl (by decide) (by decide) (Nat.le_of_ble_eq_true rfl) ?_
        refine e_goto 42 (dec_at dX6_moved 20) (by decide) ?_
        refine e_ireturn (dec_at dX6_moved 22) rfl ?_
        refine ⟨congrArg (fun z => some (vI z)) ?_, rfl⟩
        unfold movedA
        first | exact (if_pos (by omega)).symm | exact (if_neg (by omega)).symm

def MM0 (μ ν : Mm) (l c : Int) : Prop := ∃ v, RKm μ (10000 * l + c) v ∧ ((¬ (v < μ 21 0 18 ∧ μ 32 0 v = 10000 * l + c) ∧ ν 21 0 18 = μ 21 0 18 ∧ ∀ i, 0 ≤ i → i < μ 21 0 18 → SMm μ ν i i) ∨ ((v < μ 21 0 18 ∧ μ 32 0 v = 10000 * l + c) ∧ ν 21 0 18 = μ 21 0 18 - 1 ∧ (∀ i, 0 ≤ i → i < v → SMm μ ν i i) ∧ (∀ i, v ≤ i → i < μ 21 0 18 - 1 → SMm μ ν i (i + 1))))
def MM1 (μ ν : Mm) (l c x y z : Int) : Prop := ∃ v, RKm μ (10000 * l + c) v ∧ (ν 32 0 v = 10000 * l + c ∧ ν 33 0 (3 * v) = x ∧ ν 33 0 (3 * v + 1) = y ∧ ν 33 0 (3 * v + 2) = z) ∧ (((v < μ 21 0 18 ∧ μ 32 0 v = 10000 * l + c) ∧ ν 21 0 18 = μ 21 0 18 ∧ (∀ i, 0 ≤ i → i < μ 21 0 18 → i ≠ v → SMm μ ν i i)) ∨ (¬ (v < μ 21 0 18 ∧ μ 32 0 v = 10000 * l + c) ∧ μ 21 0 18 < 40 ∧ ν 21 0 18 = μ 21 0 18 + 1 ∧ (∀ i, 0 ≤ i → i < v → SMm μ ν i i) ∧ (∀ i, v < i → i ≤ μ 21 0 18 → SMm μ ν i (i - 1))))
theorem SMm.rf {μ : Mm} {i : Int} : SMm μ μ i i := ⟨rfl, fun _ _ _ => rfl⟩
theorem SMm.m21 {μ ν : Mm} {i j q w : Int} (h : SMm μ ν i j) : SMm μ (mset ν 21 0 q w) i j := ⟨by rw [mset_k (by decide)]; exact h.1, fun a a0 a1 => by rw [mset_k (by decide)]; exact h.2 a a0 a1⟩
theorem SMm.mw {μ ν : Mm} {i j v q x y z i0 i1 i2 : Int} (h : SMm μ ν i j) (e : i ≠ v) (e0 : i0 = 3 * v) (e1 : i1 = 3 * v + 1) (e2 : i2 = 3 * v + 2) : SMm μ (mset (mset (mset (mset ν 32 0 v q) 33 0 i0 x) 33 0 i1 y) 33 0 i2 z) i j :=
  ⟨by rw [mset_k (by decide), mset_k (by decide), mset_k (by decide), mset_i e]; exact h.1, fun a a0 a1 => by rw [mset_i (by omega), mset_i (by omega), mset_i (by omega), mset_k (by decide)]; exact h.2 a a0 a1⟩
theorem SMm.nw {μ ν : Mm} {j v q x y z i0 i1 i2 : Int} (e0 : i0 = 3 * v) (e1 : i1 = 3 * v + 1) (e2 : i2 = 3 * v + 2) (hq : q = μ 32 0 j) (hx : x = μ 33 0 (3 * j + 0)) (hy : y = μ 33 0 (3 * j + 1)) (hz : z = μ 33 0 (3 * j + 2)) : SMm μ (mset (mset (mset (mset ν 32 0 v q) 33 0 i0 x) 33 0 i1 y) 33 0 i2 z) v j := by
  subst e0; subst e1; subst e2
  refine ⟨by rw [mset_k (by decide), mset_k (by decide), mset_k (by decide), mset_eq]; exact hq, fun a a0 a1 => ?_⟩
  rcases (show a = 0 ∨ a = 1 ∨ a = 2 by omega) with rfl | rfl | rfl
  · rw [mset_i (by omega), mset_i (by omega), show 3 * v + 0 = 3 * v by omega, mset_eq]; exact hx
  · rw [mset_i (by omega), mset_eq]; exact hy
  · rw [mset_eq]; exact hz

set_option maxRecDepth 100000 in
set_option maxHeartbeats 4000000 in
theorem l_mdrop {μ : Mm} {l c x y z v : Int} (hn : 0 ≤ μ 21 0 18 ∧ μ 21 0 18 ≤ 40) (hmo : ((1 ≤ l ∧ l ≤ 3) ∧ (0 ≤ c ∧ c ≤ 1000))) (hwi : ((-1000 ≤ x ∧ x ≤ 1000) ∧ (-1000 ≤ y ∧ y ≤ 1000) ∧ (-1000 ≤ z ∧ z ≤ 1000))) (hv : RKm μ (10000 * l + c) v) (his : (v < μ 21 0 18 ∧ μ 32 0 v = 10000 * l + c)) : ∀ (q : Nat) (i : Int) (ν : Mm), (μ 21 0 18 - i).toNat = q → v ≤ i → i ≤ μ 21 0 18 - 1 → (∀ k l1 i, ¬ (k = 21 ∧ l1 = 0 ∧ i = 18 ∨ k = 32 ∨ k = 33) → ν k l1 i = μ k l1 i) → ν 21 0 18 = μ 21 0 18 - 1 → (∀ j, 0 ≤ j → j < v → SMm μ ν j j) → (∀ j, v ≤ j → j < i → SMm μ ν j (j + 1)) → (∀ j, i ≤ j → j < μ 21 0 18 → SMm μ ν j j) → (∀ ν : Mm, (∀ k l1 i, ¬ (k = 21 ∧ l1 = 0 ∧ i = 18 ∨ k = 32 ∨ k = 33) → ν k l1 i = μ k l1 i) → ν 21 0 18 = μ 21 0 18 - 1 → (∀ j, 0 ≤ j → j < v → SMm μ ν j j) → (∀ j, v ≤ j → j < μ 21 0 18 - 1 → SMm μ ν j (j + 1)) → Ev mX6_move 6 258 [some (vR 21 0), some (vI l), some (vI c), some (vI x), some (vI y), some (vI z), some (vI (10000 * l + c)), some (vI v), some (vI 1), some (vI 1), none, none] [] ν (fun r ν => (¬ ((1 ≤ l ∧ l ≤ 3) ∧ (0 ≤ c ∧ c ≤ 1000)) ∧ r = some (vI (-101)) ∧ ν = μ) ∨ ((((1 ≤ l ∧ l ≤ 3) ∧ (0 ≤ c ∧ c ≤ 1000)) ∧ ¬ ((-1000 ≤ x ∧ x ≤ 1000) ∧ (-1000 ≤ y ∧ y ≤ 1000) ∧ (-1000 ≤ z ∧ z ≤ 1000))) ∧ r = some (vI (-102)) ∧ ν = μ) ∨ ((((1 ≤ l ∧ l ≤ 3) ∧ (0 ≤ c ∧ c ≤ 1000)) ∧ ((-1000 ≤ x ∧ x ≤ 1000) ∧ (-1000 ≤ y ∧ y ≤ 1000) ∧ (-1000 ≤ z ∧ z ≤ 1000)) ∧ (x = 0 ∧ y = 0 ∧ z = 0)) ∧ r = some (vI (ν 21 0 18)) ∧ (∀ k l1 i, ¬ (k = 21 ∧ l1 = 0 ∧ (i = 4 ∨ i = 18) ∨ k = 32 ∨ k = 33) → ν k l1 i = μ k l1 i) ∧ ν 21 0 4 = 1 ∧ MM0 μ ν l c) ∨ ((((1 ≤ l ∧ l ≤ 3) ∧ (0 ≤ c ∧ c ≤ 1000)) ∧ ((-1000 ≤ x ∧ x ≤ 1000) ∧ (-1000 ≤ y ∧ y ≤ 1000) ∧ (-1000 ≤ z ∧ z ≤ 1000)) ∧ ¬ (x = 0 ∧ y = 0 ∧ z = 0)) ∧ (∃ v, RKm μ (10000 * l + c) v ∧ ¬ (v < μ 21 0 18 ∧ μ 32 0 v = 10000 * l + c)) ∧ μ 21 0 18 = 40 ∧ r = some (vI (-104)) ∧ ν = μ) ∨ ((((1 ≤ l ∧ l ≤ 3) ∧ (0 ≤ c ∧ c ≤ 1000)) ∧ ((-1000 ≤ x ∧ x ≤ 1000) ∧ (-1000 ≤ y ∧ y ≤ 1000) ∧ (-1000 ≤ z ∧ z ≤ 1000)) ∧ ¬ (x = 0 ∧ y = 0 ∧ z = 0)) ∧ r = some (vI (ν 21 0 18)) ∧ (∀ k l1 i, ¬ (k = 21 ∧ l1 = 0 ∧ (i = 4 ∨ i = 18) ∨ k = 32 ∨ k = 33) → ν k l1 i = μ k l1 i) ∧ ν 21 0 4 = 1 ∧ MM1 μ ν l c x y z))) → Ev mX6_move 6 186 [some (vR 21 0), some (vI l), some (vI c), some (vI x), some (vI y), some (vI z), some (vI (10000 * l + c)), some (vI v), some (vI 1), some (vI 1), some (vI i), none] [] ν (fun r ν => (¬ ((1 ≤ l ∧ l ≤ 3) ∧ (0 ≤ c ∧ c ≤ 1000)) ∧ r = some (vI (-101)) ∧ ν = μ) ∨ ((((1 ≤ l ∧ l ≤ 3) ∧ (0 ≤ c ∧ c ≤ 1000)) ∧ ¬ ((-1000 ≤ x ∧ x ≤ 1000) ∧ (-1000 ≤ y ∧ y ≤ 1000) ∧ (-1000 ≤ z ∧ z ≤ 1000))) ∧ r = some (vI (-102)) ∧ ν = μ) ∨ ((((1 ≤ l ∧ l ≤ 3) ∧ (0 ≤ c ∧ c ≤ 1000)) ∧ ((-1000 ≤ x ∧ x ≤ 1000) ∧ (-1000 ≤ y ∧ y ≤ 1000) ∧ (-1000 ≤ z ∧ z ≤ 1000)) ∧ (x = 0 ∧ y = 0 ∧ z = 0)) ∧ r = some (vI (ν 21 0 18)) ∧ (∀ k l1 i, ¬ (k = 21 ∧ l1 = 0 ∧ (i = 4 ∨ i = 18) ∨ k = 32 ∨ k = 33) → ν k l1 i = μ k l1 i) ∧ ν 21 0 4 = 1 ∧ MM0 μ ν l c) ∨ ((((1 ≤ l ∧ l ≤ 3) ∧ (0 ≤ c ∧ c ≤ 1000)) ∧ ((-1000 ≤ x ∧ x ≤ 1000) ∧ (-1000 ≤ y ∧ y ≤ 1000) ∧ (-1000 ≤ z ∧ z ≤ 1000)) ∧ ¬ (x = 0 ∧ y = 0 ∧ z = 0)) ∧ (∃ v, RKm μ (10000 * l + c) v ∧ ¬ (v < μ 21 0 18 ∧ μ 32 0 v = 10000 * l + c)) ∧ μ 21 0 18 = 40 ∧ r = some (vI (-104)) ∧ ν = μ) ∨ ((((1 ≤ l ∧ l ≤ 3) ∧ (0 ≤ c ∧ c ≤ 1000)) ∧ ((-1000 ≤ x ∧ x ≤ 1000) ∧ (-1000 ≤ y ∧ y ≤ 1000) ∧ (-1000 ≤ z ∧ z ≤ 1000)) ∧ ¬ (x = 0 ∧ y = 0 ∧ z = 0)) ∧ r = some (vI (ν 21 0 18)) ∧ (∀ k l1 i, ¬ (k = 21 ∧ l1 = 0 ∧ (i = 4 ∨ i = 18) ∨ k = 32 ∨ k = 33) → ν k l1 i = μ k l1 i) ∧ ν 21 0 4 = 1 ∧ MM1 μ ν l c x y z)) := by
  intro q
  induction q using Nat.strongRecOn with
  | _ q ih =>
  intro i ν hq i0 i1 fr e18 ha hb hc K
  have hv1 := hv.1
  refine e_iload (dec_at dX6_move 90) rfl ?_
  refine e_aload_n 0 (dec_at dX6_move 91) rfl rfl ?_
  refine e_getiv 18 18 (μ 21 0 18 - 1) (dec_at dX6_move 92) flX6_86 rfl rfl rfl (by exact e18) (fun r189 => ?_)
  refine e_icmp_ge 258 (dec_at dX6_move 93) (by decide) (by omega) (by omega) (fun h192 => ?_) (fun h192 => ?_)
  · exact e_le [some (vR 21 0), some (vI l), some (vI c), some (vI x), some (vI y), some (vI z), some (vI (10000 * l + c)), some (vI v), some (vI 1), some (vI 1), none, none] (by simp [leL]) (K ν fr e18 ha (fun j a b => hb j a (by omega)))
  · refine e_aload_n 0 (dec_at dX6_move 94) rfl rfl ?_
    refine e_getr 19 (dec_at dX6_move 95) flX6_40 rfl rfl ?_
    refine e_iload (dec_at dX6_move 96) rfl ?_
    refine e_aload_n 0 (dec_at dX6_move 97) rfl rfl ?_
    refine e_getr 19 (dec_at dX6_move 98) flX6_40 rfl rfl ?_
    refine e_iload (dec_at dX6_move 99) rfl ?_
    refine e_iconst (dec_at dX6_move 100) ?_
    refine e_iadd (dec_at dX6_move 101) ?_
    refine e_ialdv (μ 32 0 (i + 1)) (dec_at dX6_move 102) rfl (by decide) (aLk_32 _) (by omega) (by exact (hc (i + 1) (by omega) (by omega)).1) (fun r209 => ?_)
    refine e_iast (dec_at dX6_move 103) rfl (by decide) (aLk_32 _) (by omega) (by omega) ?_
    refine e_iconst (dec_at dX6_move 104) ?_
    refine e_is11 (dec_at dX6_move 105) (by decide) rfl ?_
    refine e_iload (dec_at dX6_move 106) rfl ?_
    refine e_iconst (dec_at dX6_move 107) ?_
    refine e_icmp_ge 252 (dec_at dX6_move 108) (by decide) (by decide) (by decide) (fun h => absurd h (by decide)) (fun _ => ?_)
    refine e_aload_n 0 (dec_at dX6_move 109) rfl rfl ?_
    refine e_getr 20 (dec_at dX6_move 110) flX6_43 rfl rfl ?_
    refine e_iconst (dec_at dX6_move 111) ?_
    refine e_iload (dec_at dX6_move 112) rfl ?_
    refine e_imul (dec_at dX6_move 113) ?_
    refine e_iload (dec_at dX6_move 114) rfl ?_
    refine e_iadd (dec_at dX6_move 115) ?_
    refine e_aload_n 0 (dec_at dX6_move 116) rfl rfl ?_
    refine e_getr 20 (dec_at dX6_move 117) flX6_43 rfl rfl ?_
    refine e_iconst (dec_at dX6_move 118) ?_
    refine e_iload (dec_at dX6_move 119) rfl ?_
    refine e_imul (dec_at dX6_move 120) ?_
    refine e_iconst (dec_at dX6_move 121) ?_
    refine e_iadd (dec_at dX6_move 122) ?_
    refine e_iload (dec_at dX6_move 123) rfl ?_
    refine e_iadd (dec_at dX6_move 124) ?_
    refine e_ialdv (μ 33 0 (3 * (i + 1) + 0)) (dec_at dX6_move 125) rfl (by decide) (aLk_33 _) (by omega) (by rw [mset_k (by decide), show 3 * i + 3 + 0 = 3 * (i + 1) + 0 by omega]; exact (hc (i + 1) (by omega) (by omega)).2 0 (by omega) (by omega)) (fun r244 => ?_)
    refine e_iast (dec_at dX6_move 126) rfl (by decide) (aLk_33 _) (by omega) (by omega) ?_
    refine e_ii11 (dec_at dX6_move 127) (by decide) rfl ?_
    refine e_goto 214 (dec_at dX6_move 128) (by decide) ?_
    refine e_iload (dec_at dX6_move 106) rfl ?_
    refine e_iconst (dec_at dX6_move 107) ?_
    refine e_icmp_ge 252 (dec_at dX6_move 108) (by decide) (by decide) (by decide) (fun h => absurd h (by decide)) (fun _ => ?_)
    refine e_aload_n 0 (dec_at dX6_move 109) rfl rfl ?_
    refine e_getr 20 (dec_at dX6_move 110) flX6_43 rfl rfl ?_
    refine e_iconst (dec_at dX6_move 111) ?_
    refine e_iload (dec_at dX6_move 112) rfl ?_
    refine e_imul (dec_at dX6_move 113) ?_
    refine e_iload (dec_at dX6_move 114) rfl ?_
    refine e_iadd (dec_at dX6_move 115) ?_
    refine e_aload_n 0 (dec_at dX6_move 116) rfl rfl ?_
    refine e_getr 20 (dec_at dX6_move 117) flX6_43 rfl rfl ?_
    refine e_iconst (dec_at dX6_move 118) ?_
    refine e_iload (dec_at dX6_move 119) rfl ?_
    refine e_imul (dec_at dX6_move 120) ?_
    refine e_iconst (dec_at dX6_move 121) ?_
    refine e_iadd (dec_at dX6_move 122) ?_
    refine e_iload (dec_at dX6_move 123) rfl ?_
    refine e_iadd (dec_at dX6_move 124) ?_
    refine e_ialdv (μ 33 0 (3 * (i + 1) + 1)) (dec_at dX6_move 125) rfl (by decide) (aLk_33 _) (by omega) (by rw [mset_i (by omega), mset_k (by decide), show 3 * i + 3 + (0 + 1) = 3 * (i + 1) + 1 by omega]; exact (hc (i + 1) (by omega) (by omega)).2 1 (by omega) (by omega)) (fun r244 => ?_)
    refine e_iast (dec_at dX6_move 126) rfl (by decide) (aLk_33 _) (by omega) (by omega) ?_
    refine e_ii11 (dec_at dX6_move 127) (by decide) rfl ?_
    refine e_goto 214 (dec_at dX6_move 128) (by decide) ?_
    refine e_iload (dec_at dX6_move 106) rfl ?_
    refine e_iconst (dec_at dX6_move 107) ?_
    refine e_icmp_ge 252 (dec_at dX6_move 108) (by decide) (by decide) (by decide) (fun h => absurd h (by decide)) (fun _ => ?_)
    refine e_aload_n 0 (dec_at dX6_move 109) rfl rfl ?_
    refine e_getr 20 (dec_at dX6_move 110) flX6_43 rfl rfl ?_
    refine e_iconst (dec_at dX6_move 111) ?_
    refine e_iload (dec_at dX6_move 112) rfl ?_
    refine e_imul (dec_at dX6_move 113) ?_
    refine e_iload (dec_at dX6_move 114) rfl ?_
    refine e_iadd (dec_at dX6_move 115) ?_
    refine e_aload_n 0 (dec_at dX6_move 116) rfl rfl ?_
    refine e_getr 20 (dec_at dX6_move 117) flX6_43 rfl rfl ?_
    refine e_iconst (dec_at dX6_move 118) ?_
    refine e_iload (dec_at dX6_move 119) rfl ?_
    refine e_imul (dec_at dX6_move 120) ?_
    refine e_iconst (dec_at dX6_move 121) ?_
    refine e_iadd (dec_at dX6_move 122) ?_
    refine e_iload (dec_at dX6_move 123) rfl ?_
    refine e_iadd (dec_at dX6_move 124) ?_
    refine e_ialdv (μ 33 0 (3 * (i + 1) + 2)) (dec_at dX6_move 125) rfl (by decide) (aLk_33 _) (by omega) (by rw [mset_i (by omega), mset_i (by omega), mset_k (by decide), show 3 * i + 3 + (0 + 1 + 1) = 3 * (i + 1) + 2 by omega]; exact (hc (i + 1) (by omega) (by omega)).2 2 (by omega) (by omega)) (fun r244 => ?_)
    refine e_iast (dec_at dX6_move 126) rfl (by decide) (aLk_33 _) (by omega) (by omega) ?_
    refine e_ii11 (dec_at dX6_move 127) (by decide) rfl ?_
    refine e_goto 214 (dec_at dX6_move 128) (by decide) ?_
    refine e_iload (dec_at dX6_move 106) rfl ?_
    refine e_iconst (dec_at dX6_move 107) ?_
    refine e_icmp_ge 252 (dec_at dX6_move 108) (by decide) (by decide) (by decide) (fun _ => ?_) (fun h => absurd h (by decide))
    refine e_ii10 (dec_at dX6_move 129) (by decide) rfl ?_
    refine e_goto 186 (dec_at dX6_move 130) (by decide) ?_
    refine e_le [some (vR 21 0), some (vI l), some (vI c), some (vI x), some (vI y), some (vI z), some (vI (10000 * l + c)), some (vI v), some (vI 1), some (vI 1), some (vI (i + 1)), none] (by simp [leL]) (ih _ (by omega) (i + 1) _ rfl (by omega) (by omega) (fr_set (fr_set (fr_set (fr_set fr (by omega)) (by omega)) (by omega)) (by omega)) ?_ (fun j a b => ?_) (fun j a b => ?_) (fun j a b => ?_) K)
    · rw [mset_k (by decide), mset_k (by decide), mset_k (by decide), mset_k (by decide)]; exact e18
    · exact (ha j a b).mw (by omega) (by omega) (by omega) (by omega)
    · by_cases q : j = i
      · subst q; exact SMm.nw (by omega) (by omega) (by omega) rfl rfl rfl rfl
      · exact (hb j a (by omega)).mw q (by omega) (by omega) (by omega)
    · exact (hc j (by omega) b).mw (by omega) (by omega) (by omega) (by omega)

set_option maxRecDepth 100000 in
set_option maxHeartbeats 4000000 in
theorem l_mins {μ : Mm} {l c x y z v : Int} (hn : 0 ≤ μ 21 0 18 ∧ μ 21 0 18 ≤ 40) (hmo : ((1 ≤ l ∧ l ≤ 3) ∧ (0 ≤ c ∧ c ≤ 1000))) (hwi : ((-1000 ≤ x ∧ x ≤ 1000) ∧ (-1000 ≤ y ∧ y ≤ 1000) ∧ (-1000 ≤ z ∧ z ≤ 1000))) (hv : RKm μ (10000 * l + c) v) (hm : μ 21 0 18 < 40) : ∀ (q : Nat) (i : Int) (ν : Mm), (i - v).toNat = q → v ≤ i → i ≤ μ 21 0 18 → (∀ k l1 i, ¬ (k = 21 ∧ l1 = 0 ∧ i = 18 ∨ k = 32 ∨ k = 33) → ν k l1 i = μ k l1 i) → ν 21 0 18 = μ 21 0 18 → (∀ j, 0 ≤ j → j < i → SMm μ ν j j) → (∀ j, i < j → j ≤ μ 21 0 18 → SMm μ ν j (j - 1)) → (∀ ν : Mm, (∀ k l1 i, ¬ (k = 21 ∧ l1 = 0 ∧ i = 18 ∨ k = 32 ∨ k = 33) → ν k l1 i = μ k l1 i) → ν 21 0 18 = μ 21 0 18 → (∀ j, 0 ≤ j → j < v → SMm μ ν j j) → (∀ j, v < j → j ≤ μ 21 0 18 → SMm μ ν j (j - 1)) → Ev mX6_move 6 344 [some (vR 21 0), some (vI l), some (vI c), some (vI x), some (vI y), some (vI z), some (vI (10000 * l + c)), some (vI v), some (vI 0), some (vI 0), none, none] [] ν (fun r ν => (¬ ((1 ≤ l ∧ l ≤ 3) ∧ (0 ≤ c ∧ c ≤ 1000)) ∧ r = some (vI (-101)) ∧ ν = μ) ∨ ((((1 ≤ l ∧ l ≤ 3) ∧ (0 ≤ c ∧ c ≤ 1000)) ∧ ¬ ((-1000 ≤ x ∧ x ≤ 1000) ∧ (-1000 ≤ y ∧ y ≤ 1000) ∧ (-1000 ≤ z ∧ z ≤ 1000))) ∧ r = some (vI (-102)) ∧ ν = μ) ∨ ((((1 ≤ l ∧ l ≤ 3) ∧ (0 ≤ c ∧ c ≤ 1000)) ∧ ((-1000 ≤ x ∧ x ≤ 1000) ∧ (-1000 ≤ y ∧ y ≤ 1000) ∧ (-1000 ≤ z ∧ z ≤ 1000)) ∧ (x = 0 ∧ y = 0 ∧ z = 0)) ∧ r = some (vI (ν 21 0 18)) ∧ (∀ k l1 i, ¬ (k = 21 ∧ l1 = 0 ∧ (i = 4 ∨ i = 18) ∨ k = 32 ∨ k = 33) → ν k l1 i = μ k l1 i) ∧ ν 21 0 4 = 1 ∧ MM0 μ ν l c) ∨ ((((1 ≤ l ∧ l ≤ 3) ∧ (0 ≤ c ∧ c ≤ 1000)) ∧ ((-1000 ≤ x ∧ x ≤ 1000) ∧ (-1000 ≤ y ∧ y ≤ 1000) ∧ (-1000 ≤ z ∧ z ≤ 1000)) ∧ ¬ (x = 0 ∧ y = 0 ∧ z = 0)) ∧ (∃ v, RKm μ (10000 * l + c) v ∧ ¬ (v < μ 21 0 18 ∧ μ 32 0 v = 10000 * l + c)) ∧ μ 21 0 18 = 40 ∧ r = some (vI (-104)) ∧ ν = μ) ∨ ((((1 ≤ l ∧ l ≤ 3) ∧ (0 ≤ c ∧ c ≤ 1000)) ∧ ((-1000 ≤ x ∧ x ≤ 1000) ∧ (-1000 ≤ y ∧ y ≤ 1000) ∧ (-1000 ≤ z ∧ z ≤ 1000)) ∧ ¬ (x = 0 ∧ y = 0 ∧ z = 0)) ∧ r = some (vI (ν 21 0 18)) ∧ (∀ k l1 i, ¬ (k = 21 ∧ l1 = 0 ∧ (i = 4 ∨ i = 18) ∨ k = 32 ∨ k = 33) → ν k l1 i = μ k l1 i) ∧ ν 21 0 4 = 1 ∧ MM1 μ ν l c x y z))) → Ev mX6_move 6 274 [some (vR 21 0), some (vI l), some (vI c), some (vI x), some (vI y), some (vI z), some (vI (10000 * l + c)), some (vI v), some (vI 0), some (vI 0), some (vI i), none] [] ν (fun r ν => (¬ ((1 ≤ l ∧ l ≤ 3) ∧ (0 ≤ c ∧ c ≤ 1000)) ∧ r = some (vI (-101)) ∧ ν = μ) ∨ ((((1 ≤ l ∧ l ≤ 3) ∧ (0 ≤ c ∧ c ≤ 1000)) ∧ ¬ ((-1000 ≤ x ∧ x ≤ 1000) ∧ (-1000 ≤ y ∧ y ≤ 1000) ∧ (-1000 ≤ z ∧ z ≤ 1000))) ∧ r = some (vI (-102)) ∧ ν = μ) ∨ ((((1 ≤ l ∧ l ≤ 3) ∧ (0 ≤ c ∧ c ≤ 1000)) ∧ ((-1000 ≤ x ∧ x ≤ 1000) ∧ (-1000 ≤ y ∧ y ≤ 1000) ∧ (-1000 ≤ z ∧ z ≤ 1000)) ∧ (x = 0 ∧ y = 0 ∧ z = 0)) ∧ r = some (vI (ν 21 0 18)) ∧ (∀ k l1 i, ¬ (k = 21 ∧ l1 = 0 ∧ (i = 4 ∨ i = 18) ∨ k = 32 ∨ k = 33) → ν k l1 i = μ k l1 i) ∧ ν 21 0 4 = 1 ∧ MM0 μ ν l c) ∨ ((((1 ≤ l ∧ l ≤ 3) ∧ (0 ≤ c ∧ c ≤ 1000)) ∧ ((-1000 ≤ x ∧ x ≤ 1000) ∧ (-1000 ≤ y ∧ y ≤ 1000) ∧ (-1000 ≤ z ∧ z ≤ 1000)) ∧ ¬ (x = 0 ∧ y = 0 ∧ z = 0)) ∧ (∃ v, RKm μ (10000 * l + c) v ∧ ¬ (v < μ 21 0 18 ∧ μ 32 0 v = 10000 * l + c)) ∧ μ 21 0 18 = 40 ∧ r = some (vI (-104)) ∧ ν = μ) ∨ ((((1 ≤ l ∧ l ≤ 3) ∧ (0 ≤ c ∧ c ≤ 1000)) ∧ ((-1000 ≤ x ∧ x ≤ 1000) ∧ (-1000 ≤ y ∧ y ≤ 1000) ∧ (-1000 ≤ z ∧ z ≤ 1000)) ∧ ¬ (x = 0 ∧ y = 0 ∧ z = 0)) ∧ r = some (vI (ν 21 0 18)) ∧ (∀ k l1 i, ¬ (k = 21 ∧ l1 = 0 ∧ (i = 4 ∨ i = 18) ∨ k = 32 ∨ k = 33) → ν k l1 i = μ k l1 i) ∧ ν 21 0 4 = 1 ∧ MM1 μ ν l c x y z)) := by
  intro q
  induction q using Nat.strongRecOn with
  | _ q ih =>
  intro i ν hq i0 i1 fr e18 ha hb K
  have hv1 := hv.1
  refine e_iload (dec_at dX6_move 138) rfl ?_
  refine e_iload (dec_at dX6_move 139) rfl ?_
  refine e_icmp_le 344 (dec_at dX6_move 140) (by decide) (by omega) (by omega) (fun h278 => ?_) (fun h278 => ?_)
  · obtain rfl : i = v := by omega
    exact e_le [some (vR 21 0), some (vI l), some (vI c), some (vI x), some (vI y), some (vI z), some (vI (10000 * l + c)), some (vI i), some (vI 0), some (vI 0), none, none] (by simp [leL]) (K ν fr e18 ha hb)
  · refine e_aload_n 0 (dec_at dX6_move 141) rfl rfl ?_
    refine e_getr 19 (dec_at dX6_move 142) flX6_40 rfl rfl ?_
    refine e_iload (dec_at dX6_move 143) rfl ?_
    refine e_aload_n 0 (dec_at dX6_move 144) rfl rfl ?_
    refine e_getr 19 (dec_at dX6_move 145) flX6_40 rfl rfl ?_
    refine e_iload (dec_at dX6_move 146) rfl ?_
    refine e_iconst (dec_at dX6_move 147) ?_
    refine e_isub (dec_at dX6_move 148) ?_
    refine e_ialdv (μ 32 0 (i - 1)) (dec_at dX6_move 149) rfl (by decide) (aLk_32 _) (by omega) (by exact (ha (i - 1) (by omega) (by omega)).1) (fun r295 => ?_)
    refine e_iast (dec_at dX6_move 150) rfl (by decide) (aLk_32 _) (by omega) (by omega) ?_
    refine e_iconst (dec_at dX6_move 151) ?_
    refine e_is11 (dec_at dX6_move 152) (by decide) rfl ?_
    refine e_iload (dec_at dX6_move 153) rfl ?_
    refine e_iconst (dec_at dX6_move 154) ?_
    refine e_icmp_ge 338 (dec_at dX6_move 155) (by decide) (by decide) (by decide) (fun h => absurd h (by decide)) (fun _ => ?_)
    refine e_aload_n 0 (dec_at dX6_move 156) rfl rfl ?_
    refine e_getr 20 (dec_at dX6_move 157) flX6_43 rfl rfl ?_
    refine e_iconst (dec_at dX6_move 158) ?_
    refine e_iload (dec_at dX6_move 159) rfl ?_
    refine e_imul (dec_at dX6_move 160) ?_
    refine e_iload (dec_at dX6_move 161) rfl ?_
    refine e_iadd (dec_at dX6_move 162) ?_
    refine e_aload_n 0 (dec_at dX6_move 163) rfl rfl ?_
    refine e_getr 20 (dec_at dX6_move 164) flX6_43 rfl rfl ?_
    refine e_iconst (dec_at dX6_move 165) ?_
    refine e_iload (dec_at dX6_move 166) rfl ?_
    refine e_imul (dec_at dX6_move 167) ?_
    refine e_iconst (dec_at dX6_move 168) ?_
    refine e_isub (dec_at dX6_move 169) ?_
    refine e_iload (dec_at dX6_move 170) rfl ?_
    refine e_iadd (dec_at dX6_move 171) ?_
    refine e_ialdv (μ 33 0 (3 * (i - 1) + 0)) (dec_at dX6_move 172) rfl (by decide) (aLk_33 _) (by omega) (by rw [mset_k (by decide), show 3 * i - 3 + 0 = 3 * (i - 1) + 0 by omega]; exact (ha (i - 1) (by omega) (by omega)).2 0 (by omega) (by omega)) (fun r330 => ?_)
    refine e_iast (dec_at dX6_move 173) rfl (by decide) (aLk_33 _) (by omega) (by omega) ?_
    refine e_ii11 (dec_at dX6_move 174) (by decide) rfl ?_
    refine e_goto 300 (dec_at dX6_move 175) (by decide) ?_
    refine e_iload (dec_at dX6_move 153) rfl ?_
    refine e_iconst (dec_at dX6_move 154) ?_
    refine e_icmp_ge 338 (dec_at dX6_move 155) (by decide) (by decide) (by decide) (fun h => absurd h (by decide)) (fun _ => ?_)
    refine e_aload_n 0 (dec_at dX6_move 156) rfl rfl ?_
    refine e_getr 20 (dec_at dX6_move 157) flX6_43 rfl rfl ?_
    refine e_iconst (dec_at dX6_move 158) ?_
    refine e_iload (dec_at dX6_move 159) rfl ?_
    refine e_imul (dec_at dX6_move 160) ?_
    refine e_iload (dec_at dX6_move 161) rfl ?_
    refine e_iadd (dec_at dX6_move 162) ?_
    refine e_aload_n 0 (dec_at dX6_move 163) rfl rfl ?_
    refine e_getr 20 (dec_at dX6_move 164) flX6_43 rfl rfl ?_
    refine e_iconst (dec_at dX6_move 165) ?_
    refine e_iload (dec_at dX6_move 166) rfl ?_
    refine e_imul (dec_at dX6_move 167) ?_
    refine e_iconst (dec_at dX6_move 168) ?_
    refine e_isub (dec_at dX6_move 169) ?_
    refine e_iload (dec_at dX6_move 170) rfl ?_
    refine e_iadd (dec_at dX6_move 171) ?_
    refine e_ialdv (μ 33 0 (3 * (i - 1) + 1)) (dec_at dX6_move 172) rfl (by decide) (aLk_33 _) (by omega) (by rw [mset_i (by omega), mset_k (by decide), show 3 * i - 3 + (0 + 1) = 3 * (i - 1) + 1 by omega]; exact (ha (i - 1) (by omega) (by omega)).2 1 (by omega) (by omega)) (fun r330 => ?_)
    refine e_iast (dec_at dX6_move 173) rfl (by decide) (aLk_33 _) (by omega) (by omega) ?_
    refine e_ii11 (dec_at dX6_move 174) (by decide) rfl ?_
    refine e_goto 300 (dec_at dX6_move 175) (by decide) ?_
    refine e_iload (dec_at dX6_move 153) rfl ?_
    refine e_iconst (dec_at dX6_move 154) ?_
    refine e_icmp_ge 338 (dec_at dX6_move 155) (by decide) (by decide) (by decide) (fun h => absurd h (by decide)) (fun _ => ?_)
    refine e_aload_n 0 (dec_at dX6_move 156) rfl rfl ?_
    refine e_getr 20 (dec_at dX6_move 157) flX6_43 rfl rfl ?_
    refine e_iconst (dec_at dX6_move 158) ?_
    refine e_iload (dec_at dX6_move 159) rfl ?_
    refine e_imul (dec_at dX6_move 160) ?_
    refine e_iload (dec_at dX6_move 161) rfl ?_
    refine e_iadd (dec_at dX6_move 162) ?_
    refine e_aload_n 0 (dec_at dX6_move 163) rfl rfl ?_
    refine e_getr 20 (dec_at dX6_move 164) flX6_43 rfl rfl ?_
    refine e_iconst (dec_at dX6_move 165) ?_
    refine e_iload (dec_at dX6_move 166) rfl ?_
    refine e_imul (dec_at dX6_move 167) ?_
    refine e_iconst (dec_at dX6_move 168) ?_
    refine e_isub (dec_at dX6_move 169) ?_
    refine e_iload (dec_at dX6_move 170) rfl ?_
    refine e_iadd (dec_at dX6_move 171) ?_
    refine e_ialdv (μ 33 0 (3 * (i - 1) + 2)) (dec_at dX6_move 172) rfl (by decide) (aLk_33 _) (by omega) (by rw [mset_i (by omega), mset_i (by omega), mset_k (by decide), show 3 * i - 3 + (0 + 1 + 1) = 3 * (i - 1) + 2 by omega]; exact (ha (i - 1) (by omega) (by omega)).2 2 (by omega) (by omega)) (fun r330 => ?_)
    refine e_iast (dec_at dX6_move 173) rfl (by decide) (aLk_33 _) (by omega) (by omega) ?_
    refine e_ii11 (dec_at dX6_move 174) (by decide) rfl ?_
    refine e_goto 300 (dec_at dX6_move 175) (by decide) ?_
    refine e_iload (dec_at dX6_move 153) rfl ?_
    refine e_iconst (dec_at dX6_move 154) ?_
    refine e_icmp_ge 338 (dec_at dX6_move 155) (by decide) (by decide) (by decide) (fun _ => ?_) (fun h => absurd h (by decide))
    refine e_ii10 (dec_at dX6_move 176) (by decide) rfl ?_
    refine e_goto 274 (dec_at dX6_move 177) (by decide) ?_
    rw [show i + -1 = i - 1 by omega]
    refine e_le [some (vR 21 0), some (vI l), some (vI c), some (vI x), some (vI y), some (vI z), some (vI (10000 * l + c)), some (vI v), some (vI 0), some (vI 0), some (vI (i - 1)), none] (by simp [leL]) (ih _ (by omega) (i - 1) _ rfl (by omega) (by omega) (fr_set (fr_set (fr_set (fr_set fr (by omega)) (by omega)) (by omega)) (by omega)) ?_ (fun j a b => ?_) (fun j a b => ?_) K)
    · rw [mset_k (by decide), mset_k (by decide), mset_k (by decide), mset_k (by decide)]; exact e18
    · exact (ha j a (by omega)).mw (by omega) (by omega) (by omega) (by omega)
    · by_cases q : j = i
      · subst q; exact SMm.nw (by omega) (by omega) (by omega) rfl rfl rfl rfl
      · exact (hb j (by omega) b).mw q (by omega) (by omega) (by omega)

set_option maxRecDepth 100000 in
set_option maxHeartbeats 4000000 in
theorem t_mm01 {μ : Mm} {l c x y z v : Int} (hn : 0 ≤ μ 21 0 18 ∧ μ 21 0 18 ≤ 40) (hmo : ((1 ≤ l ∧ l ≤ 3) ∧ (0 ≤ c ∧ c ≤ 1000))) (hwi : ((-1000 ≤ x ∧ x ≤ 1000) ∧ (-1000 ≤ y ∧ y ≤ 1000) ∧ (-1000 ≤ z ∧ z ≤ 1000))) (hv : RKm μ (10000 * l + c) v) (his : ¬ (v < μ 21 0 18 ∧ μ 32 0 v = 10000 * l + c)) (hz : (x = 0 ∧ y = 0 ∧ z = 0)) : Ev mX6_move 6 140 [some (vR 21 0), some (vI l), some (vI c), some (vI x), some (vI y), some (vI z), some (vI (10000 * l + c)), some (vI v), some (vI 0), some (vI 1), none, none] [] μ (fun r ν => (¬ ((1 ≤ l ∧ l ≤ 3) ∧ (0 ≤ c ∧ c ≤ 1000)) ∧ r = some (vI (-101)) ∧ ν = μ) ∨ ((((1 ≤ l ∧ l ≤ 3) ∧ (0 ≤ c ∧ c ≤ 1000)) ∧ ¬ ((-1000 ≤ x ∧ x ≤ 1000) ∧ (-1000 ≤ y ∧ y ≤ 1000) ∧ (-1000 ≤ z ∧ z ≤ 1000))) ∧ r = some (vI (-102)) ∧ ν = μ) ∨ ((((1 ≤ l ∧ l ≤ 3) ∧ (0 ≤ c ∧ c ≤ 1000)) ∧ ((-1000 ≤ x ∧ x ≤ 1000) ∧ (-1000 ≤ y ∧ y ≤ 1000) ∧ (-1000 ≤ z ∧ z ≤ 1000)) ∧ (x = 0 ∧ y = 0 ∧ z = 0)) ∧ r = some (vI (ν 21 0 18)) ∧ (∀ k l1 i, ¬ (k = 21 ∧ l1 = 0 ∧ (i = 4 ∨ i = 18) ∨ k = 32 ∨ k = 33) → ν k l1 i = μ k l1 i) ∧ ν 21 0 4 = 1 ∧ MM0 μ ν l c) ∨ ((((1 ≤ l ∧ l ≤ 3) ∧ (0 ≤ c ∧ c ≤ 1000)) ∧ ((-1000 ≤ x ∧ x ≤ 1000) ∧ (-1000 ≤ y ∧ y ≤ 1000) ∧ (-1000 ≤ z ∧ z ≤ 1000)) ∧ ¬ (x = 0 ∧ y = 0 ∧ z = 0)) ∧ (∃ v, RKm μ (10000 * l + c) v ∧ ¬ (v < μ 21 0 18 ∧ μ 32 0 v = 10000 * l + c)) ∧ μ 21 0 18 = 40 ∧ r = some (vI (-104)) ∧ ν = μ) ∨ ((((1 ≤ l ∧ l ≤ 3) ∧ (0 ≤ c ∧ c ≤ 1000)) ∧ ((-1000 ≤ x ∧ x ≤ 1000) ∧ (-1000 ≤ y ∧ y ≤ 1000) ∧ (-1000 ≤ z ∧ z ≤ 1000)) ∧ ¬ (x = 0 ∧ y = 0 ∧ z = 0)) ∧ r = some (vI (ν 21 0 18)) ∧ (∀ k l1 i, ¬ (k = 21 ∧ l1 = 0 ∧ (i = 4 ∨ i = 18) ∨ k = 32 ∨ k = 33) → ν k l1 i = μ k l1 i) ∧ ν 21 0 4 = 1 ∧ MM1 μ ν l c x y z)) := by
  have hv1 := hv.1
  refine e_iload (dec_at dX6_move 68) rfl ?_
  refine e_if_ne 162 (dec_at dX6_move 69) (by decide) (by decide) (fun h => absurd h (by decide)) (fun _ => ?_)
  refine e_iload (dec_at dX6_move 70) rfl ?_
  refine e_if_ne 162 (dec_at dX6_move 71) (by decide) (by decide) (fun _ => ?_) (fun h => absurd h (by decide))
  refine e_iload (dec_at dX6_move 78) rfl ?_
  refine e_if_eq 258 (dec_at dX6_move 79) (by decide) (by decide) (fun _ => ?_) (fun h => absurd h (by decide))
  refine e_iload (dec_at dX6_move 131) rfl ?_
  refine e_if_ne 354 (dec_at dX6_move 132) (by decide) (by decide) (fun h => absurd h (by decide)) (fun _ => ?_)
  refine e_iload (dec_at dX6_move 133) rfl ?_
  refine e_if_ne 354 (dec_at dX6_move 134) (by decide) (by decide) (fun _ => ?_) (fun h => absurd h (by decide))
  refine e_iload (dec_at dX6_move 184) rfl ?_
  refine e_if_ne 404 (dec_at dX6_move 185) (by decide) (by decide) (fun _ => ?_) (fun h => absurd h (by decide))
  refine e_aload_n 0 (dec_at dX6_move 216) rfl rfl ?_
  refine e_iconst (dec_at dX6_move 217) ?_
  refine e_put 4 4 (dec_at dX6_move 218) flX6_50 fpX6_4 rfl rfl rfl (by omega) (fit_bool (by first | exact Or.inl rfl | exact Or.inr rfl)) ?_
  refine e_aload_n 0 (dec_at dX6_move 219) rfl rfl ?_
  refine e_getiv 18 18 (μ 21 0 18) (dec_at dX6_move 220) flX6_86 rfl rfl rfl (by rw [mset_i (by decide)]) (fun r410 => ?_)
  refine e_ireturn (dec_at dX6_move 221) rfl ?_
  exact Or.inr (Or.inr (Or.inl (⟨⟨hmo, hwi, hz⟩, by rw [mset_i (by decide)], fun k l1 i q => mset_ne (by omega), mset_eq, v, hv, Or.inl ⟨his, mset_i (by decide), fun i a b => SMm.rf.m21⟩⟩)))

set_option maxRecDepth 100000 in
set_option maxHeartbeats 4000000 in
theorem t_mm11 {μ : Mm} {l c x y z v : Int} (hn : 0 ≤ μ 21 0 18 ∧ μ 21 0 18 ≤ 40) (hmo : ((1 ≤ l ∧ l ≤ 3) ∧ (0 ≤ c ∧ c ≤ 1000))) (hwi : ((-1000 ≤ x ∧ x ≤ 1000) ∧ (-1000 ≤ y ∧ y ≤ 1000) ∧ (-1000 ≤ z ∧ z ≤ 1000))) (hv : RKm μ (10000 * l + c) v) (his : (v < μ 21 0 18 ∧ μ 32 0 v = 10000 * l + c)) (hz : (x = 0 ∧ y = 0 ∧ z = 0)) : Ev mX6_move 6 140 [some (vR 21 0), some (vI l), some (vI c), some (vI x), some (vI y), some (vI z), some (vI (10000 * l + c)), some (vI v), some (vI 1), some (vI 1), none, none] [] μ (fun r ν => (¬ ((1 ≤ l ∧ l ≤ 3) ∧ (0 ≤ c ∧ c ≤ 1000)) ∧ r = some (vI (-101)) ∧ ν = μ) ∨ ((((1 ≤ l ∧ l ≤ 3) ∧ (0 ≤ c ∧ c ≤ 1000)) ∧ ¬ ((-1000 ≤ x ∧ x ≤ 1000) ∧ (-1000 ≤ y ∧ y ≤ 1000) ∧ (-1000 ≤ z ∧ z ≤ 1000))) ∧ r = some (vI (-102)) ∧ ν = μ) ∨ ((((1 ≤ l ∧ l ≤ 3) ∧ (0 ≤ c ∧ c ≤ 1000)) ∧ ((-1000 ≤ x ∧ x ≤ 1000) ∧ (-1000 ≤ y ∧ y ≤ 1000) ∧ (-1000 ≤ z ∧ z ≤ 1000)) ∧ (x = 0 ∧ y = 0 ∧ z = 0)) ∧ r = some (vI (ν 21 0 18)) ∧ (∀ k l1 i, ¬ (k = 21 ∧ l1 = 0 ∧ (i = 4 ∨ i = 18) ∨ k = 32 ∨ k = 33) → ν k l1 i = μ k l1 i) ∧ ν 21 0 4 = 1 ∧ MM0 μ ν l c) ∨ ((((1 ≤ l ∧ l ≤ 3) ∧ (0 ≤ c ∧ c ≤ 1000)) ∧ ((-1000 ≤ x ∧ x ≤ 1000) ∧ (-1000 ≤ y ∧ y ≤ 1000) ∧ (-1000 ≤ z ∧ z ≤ 1000)) ∧ ¬ (x = 0 ∧ y = 0 ∧ z = 0)) ∧ (∃ v, RKm μ (10000 * l + c) v ∧ ¬ (v < μ 21 0 18 ∧ μ 32 0 v = 10000 * l + c)) ∧ μ 21 0 18 = 40 ∧ r = some (vI (-104)) ∧ ν = μ) ∨ ((((1 ≤ l ∧ l ≤ 3) ∧ (0 ≤ c ∧ c ≤ 1000)) ∧ ((-1000 ≤ x ∧ x ≤ 1000) ∧ (-1000 ≤ y ∧ y ≤ 1000) ∧ (-1000 ≤ z ∧ z ≤ 1000)) ∧ ¬ (x = 0 ∧ y = 0 ∧ z = 0)) ∧ r = some (vI (ν 21 0 18)) ∧ (∀ k l1 i, ¬ (k = 21 ∧ l1 = 0 ∧ (i = 4 ∨ i = 18) ∨ k = 32 ∨ k = 33) → ν k l1 i = μ k l1 i) ∧ ν 21 0 4 = 1 ∧ MM1 μ ν l c x y z)) := by
  have hv1 := hv.1
  refine e_iload (dec_at dX6_move 68) rfl ?_
  refine e_if_ne 162 (dec_at dX6_move 69) (by decide) (by decide) (fun _ => ?_) (fun h => absurd h (by decide))
  refine e_iload (dec_at dX6_move 78) rfl ?_
  refine e_if_eq 258 (dec_at dX6_move 79) (by decide) (by decide) (fun h => absurd h (by decide)) (fun _ => ?_)
  refine e_iload (dec_at dX6_move 80) rfl ?_
  refine e_if_eq 258 (dec_at dX6_move 81) (by decide) (by decide) (fun h => absurd h (by decide)) (fun _ => ?_)
  refine e_aload_n 0 (dec_at dX6_move 82) rfl rfl ?_
  refine e_dup (dec_at dX6_move 83) rfl ?_
  refine e_geti 18 18 (dec_at dX6_move 84) flX6_86 rfl rfl rfl (fun r174 => ?_)
  refine e_iconst (dec_at dX6_move 85) ?_
  refine e_isub (dec_at dX6_move 86) ?_
  refine e_put 18 18 (dec_at dX6_move 87) flX6_86 fpX6_18 rfl rfl rfl (by omega) (fit_int _) ?_
  refine e_iload (dec_at dX6_move 88) rfl ?_
  refine e_is10 (dec_at dX6_move 89) (by decide) rfl ?_
  refine l_mdrop hn hmo hwi hv his _ v _ rfl (by omega) (by omega) (fr_set (fun _ _ _ _ => rfl) (by omega)) mset_eq (fun j a b => SMm.rf.m21) (fun j a b => by omega) (fun j a b => SMm.rf.m21) (fun ν fr e18 ha hb => ?_)
  refine e_iload (dec_at dX6_move 131) rfl ?_
  refine e_if_ne 354 (dec_at dX6_move 132) (by decide) (by decide) (fun _ => ?_) (fun h => absurd h (by decide))
  refine e_iload (dec_at dX6_move 184) rfl ?_
  refine e_if_ne 404 (dec_at dX6_move 185) (by decide) (by decide) (fun _ => ?_) (fun h => absurd h (by decide))
  refine e_aload_n 0 (dec_at dX6_move 216) rfl rfl ?_
  refine e_iconst (dec_at dX6_move 217) ?_
  refine e_put 4 4 (dec_at dX6_move 218) flX6_50 fpX6_4 rfl rfl rfl (by omega) (fit_bool (by first | exact Or.inl rfl | exact Or.inr rfl)) ?_
  refine e_aload_n 0 (dec_at dX6_move 219) rfl rfl ?_
  refine e_getiv 18 18 (ν 21 0 18) (dec_at dX6_move 220) flX6_86 rfl rfl rfl (by rw [mset_i (by decide)]) (fun r410 => ?_)
  refine e_ireturn (dec_at dX6_move 221) rfl ?_
  exact Or.inr (Or.inr (Or.inl (⟨⟨hmo, hwi, hz⟩, by rw [mset_i (by decide)], fun k l1 i q => by rw [mset_ne (by omega)]; exact fr k l1 i (by omega), mset_eq, v, hv, Or.inr ⟨his, by rw [mset_i (by decide)]; exact e18, fun i a b => (ha i a b).m21, fun i a b => (hb i a b).m21⟩⟩)))

set_option maxRecDepth 100000 in
set_option maxHeartbeats 4000000 in
theorem t_mm10 {μ : Mm} {l c x y z v : Int} (hn : 0 ≤ μ 21 0 18 ∧ μ 21 0 18 ≤ 40) (hmo : ((1 ≤ l ∧ l ≤ 3) ∧ (0 ≤ c ∧ c ≤ 1000))) (hwi : ((-1000 ≤ x ∧ x ≤ 1000) ∧ (-1000 ≤ y ∧ y ≤ 1000) ∧ (-1000 ≤ z ∧ z ≤ 1000))) (hv : RKm μ (10000 * l + c) v) (his : (v < μ 21 0 18 ∧ μ 32 0 v = 10000 * l + c)) (hz : ¬ (x = 0 ∧ y = 0 ∧ z = 0)) : Ev mX6_move 6 140 [some (vR 21 0), some (vI l), some (vI c), some (vI x), some (vI y), some (vI z), some (vI (10000 * l + c)), some (vI v), some (vI 1), some (vI 0), none, none] [] μ (fun r ν => (¬ ((1 ≤ l ∧ l ≤ 3) ∧ (0 ≤ c ∧ c ≤ 1000)) ∧ r = some (vI (-101)) ∧ ν = μ) ∨ ((((1 ≤ l ∧ l ≤ 3) ∧ (0 ≤ c ∧ c ≤ 1000)) ∧ ¬ ((-1000 ≤ x ∧ x ≤ 1000) ∧ (-1000 ≤ y ∧ y ≤ 1000) ∧ (-1000 ≤ z ∧ z ≤ 1000))) ∧ r = some (vI (-102)) ∧ ν = μ) ∨ ((((1 ≤ l ∧ l ≤ 3) ∧ (0 ≤ c ∧ c ≤ 1000)) ∧ ((-1000 ≤ x ∧ x ≤ 1000) ∧ (-1000 ≤ y ∧ y ≤ 1000) ∧ (-1000 ≤ z ∧ z ≤ 1000)) ∧ (x = 0 ∧ y = 0 ∧ z = 0)) ∧ r = some (vI (ν 21 0 18)) ∧ (∀ k l1 i, ¬ (k = 21 ∧ l1 = 0 ∧ (i = 4 ∨ i = 18) ∨ k = 32 ∨ k = 33) → ν k l1 i = μ k l1 i) ∧ ν 21 0 4 = 1 ∧ MM0 μ ν l c) ∨ ((((1 ≤ l ∧ l ≤ 3) ∧ (0 ≤ c ∧ c ≤ 1000)) ∧ ((-1000 ≤ x ∧ x ≤ 1000) ∧ (-1000 ≤ y ∧ y ≤ 1000) ∧ (-1000 ≤ z ∧ z ≤ 1000)) ∧ ¬ (x = 0 ∧ y = 0 ∧ z = 0)) ∧ (∃ v, RKm μ (10000 * l + c) v ∧ ¬ (v < μ 21 0 18 ∧ μ 32 0 v = 10000 * l + c)) ∧ μ 21 0 18 = 40 ∧ r = some (vI (-104)) ∧ ν = μ) ∨ ((((1 ≤ l ∧ l ≤ 3) ∧ (0 ≤ c ∧ c ≤ 1000)) ∧ ((-1000 ≤ x ∧ x ≤ 1000) ∧ (-1000 ≤ y ∧ y ≤ 1000) ∧ (-1000 ≤ z ∧ z ≤ 1000)) ∧ ¬ (x = 0 ∧ y = 0 ∧ z = 0)) ∧ r = some (vI (ν 21 0 18)) ∧ (∀ k l1 i, ¬ (k = 21 ∧ l1 = 0 ∧ (i = 4 ∨ i = 18) ∨ k = 32 ∨ k = 33) → ν k l1 i = μ k l1 i) ∧ ν 21 0 4 = 1 ∧ MM1 μ ν l c x y z)) := by
  have hv1 := hv.1
  refine e_iload (dec_at dX6_move 68) rfl ?_
  refine e_if_ne 162 (dec_at dX6_move 69) (by decide) (by decide) (fun _ => ?_) (fun h => absurd h (by decide))
  refine e_iload (dec_at dX6_move 78) rfl ?_
  refine e_if_eq 258 (dec_at dX6_move 79) (by decide) (by decide) (fun h => absurd h (by decide)) (fun _ => ?_)
  refine e_iload (dec_at dX6_move 80) rfl ?_
  refine e_if_eq 258 (dec_at dX6_move 81) (by decide) (by decide) (fun _ => ?_) (fun h => absurd h (by decide))
  refine e_iload (dec_at dX6_move 131) rfl ?_
  refine e_if_ne 354 (dec_at dX6_move 132) (by decide) (by decide) (fun _ => ?_) (fun h => absurd h (by decide))
  refine e_iload (dec_at dX6_move 184) rfl ?_
  refine e_if_ne 404 (dec_at dX6_move 185) (by decide) (by decide) (fun h => absurd h (by decide)) (fun _ => ?_)
  refine e_aload_n 0 (dec_at dX6_move 186) rfl rfl ?_
  refine e_getr 19 (dec_at dX6_move 187) flX6_40 rfl rfl ?_
  refine e_iload (dec_at dX6_move 188) rfl ?_
  refine e_iload (dec_at dX6_move 189) rfl ?_
  refine e_iast (dec_at dX6_move 190) rfl (by decide) (aLk_32 _) (by omega) (by omega) ?_
  refine e_aload_n 0 (dec_at dX6_move 191) rfl rfl ?_
  refine e_getr 20 (dec_at dX6_move 192) flX6_43 rfl rfl ?_
  refine e_iconst (dec_at dX6_move 193) ?_
  refine e_iload (dec_at dX6_move 194) rfl ?_
  refine e_imul (dec_at dX6_move 195) ?_
  refine e_iload_n 3 (dec_at dX6_move 196) rfl rfl ?_
  refine e_iast (dec_at dX6_move 197) rfl (by decide) (aLk_33 _) (by omega) (by omega) ?_
  refine e_aload_n 0 (dec_at dX6_move 198) rfl rfl ?_
  refine e_getr 20 (dec_at dX6_move 199) flX6_43 rfl rfl ?_
  refine e_iconst (dec_at dX6_move 200) ?_
  refine e_iload (dec_at dX6_move 201) rfl ?_
  refine e_imul (dec_at dX6_move 202) ?_
  refine e_iconst (dec_at dX6_move 203) ?_
  refine e_iadd (dec_at dX6_move 204) ?_
  refine e_iload (dec_at dX6_move 205) rfl ?_
  refine e_iast (dec_at dX6_move 206) rfl (by decide) (aLk_33 _) (by omega) (by omega) ?_
  refine e_aload_n 0 (dec_at dX6_move 207) rfl rfl ?_
  refine e_getr 20 (dec_at dX6_move 208) flX6_43 rfl rfl ?_
  refine e_iconst (dec_at dX6_move 209) ?_
  refine e_iload (dec_at dX6_move 210) rfl ?_
  refine e_imul (dec_at dX6_move 211) ?_
  refine e_iconst (dec_at dX6_move 212) ?_
  refine e_iadd (dec_at dX6_move 213) ?_
  refine e_iload (dec_at dX6_move 214) rfl ?_
  refine e_iast (dec_at dX6_move 215) rfl (by decide) (aLk_33 _) (by omega) (by omega) ?_
  refine e_aload_n 0 (dec_at dX6_move 216) rfl rfl ?_
  refine e_iconst (dec_at dX6_move 217) ?_
  refine e_put 4 4 (dec_at dX6_move 218) flX6_50 fpX6_4 rfl rfl rfl (by omega) (fit_bool (by first | exact Or.inl rfl | exact Or.inr rfl)) ?_
  refine e_aload_n 0 (dec_at dX6_move 219) rfl rfl ?_
  refine e_getiv 18 18 (μ 21 0 18) (dec_at dX6_move 220) flX6_86 rfl rfl rfl (by rw [mset_i (by decide), mset_k (by decide), mset_k (by decide), mset_k (by decide), mset_k (by decide)]) (fun r410 => ?_)
  refine e_ireturn (dec_at dX6_move 221) rfl ?_
  exact Or.inr (Or.inr (Or.inr (Or.inr (⟨⟨hmo, hwi, hz⟩, by rw [mset_i (by decide), mset_k (by decide), mset_k (by decide), mset_k (by decide), mset_k (by decide)], fun k l1 i q => by rw [mset_ne (by omega), mset_ne (by omega), mset_ne (by omega), mset_ne (by omega), mset_ne (by omega)], mset_eq, v, hv, ⟨by rw [mset_k (by decide), mset_k (by decide), mset_k (by decide), mset_k (by decide)]; exact mset_eq, by rw [mset_k (by decide), mset_i (by omega), mset_i (by omega)]; exact mset_eq, by rw [mset_k (by decide), mset_i (by omega)]; exact mset_eq, by rw [mset_k (by decide)]; exact mset_eq⟩, Or.inl ⟨his, by rw [mset_i (by decide), mset_k (by decide), mset_k (by decide), mset_k (by decide), mset_k (by decide)], fun i a b e => (SMm.mw SMm.rf e rfl rfl rfl).m21⟩⟩))))

set_option maxRecDepth 100000 in
set_option maxHeartbeats 4000000 in
theorem t_mm00 {μ : Mm} {l c x y z v : Int} (hn : 0 ≤ μ 21 0 18 ∧ μ 21 0 18 ≤ 40) (hmo : ((1 ≤ l ∧ l ≤ 3) ∧ (0 ≤ c ∧ c ≤ 1000))) (hwi : ((-1000 ≤ x ∧ x ≤ 1000) ∧ (-1000 ≤ y ∧ y ≤ 1000) ∧ (-1000 ≤ z ∧ z ≤ 1000))) (hv : RKm μ (10000 * l + c) v) (his : ¬ (v < μ 21 0 18 ∧ μ 32 0 v = 10000 * l + c)) (hz : ¬ (x = 0 ∧ y = 0 ∧ z = 0)) : Ev mX6_move 6 140 [some (vR 21 0), some (vI l), some (vI c), some (vI x), some (vI y), some (vI z), some (vI (10000 * l + c)), some (vI v), some (vI 0), some (vI 0), none, none] [] μ (fun r ν => (¬ ((1 ≤ l ∧ l ≤ 3) ∧ (0 ≤ c ∧ c ≤ 1000)) ∧ r = some (vI (-101)) ∧ ν = μ) ∨ ((((1 ≤ l ∧ l ≤ 3) ∧ (0 ≤ c ∧ c ≤ 1000)) ∧ ¬ ((-1000 ≤ x ∧ x ≤ 1000) ∧ (-1000 ≤ y ∧ y ≤ 1000) ∧ (-1000 ≤ z ∧ z ≤ 1000))) ∧ r = some (vI (-102)) ∧ ν = μ) ∨ ((((1 ≤ l ∧ l ≤ 3) ∧ (0 ≤ c ∧ c ≤ 1000)) ∧ ((-1000 ≤ x ∧ x ≤ 1000) ∧ (-1000 ≤ y ∧ y ≤ 1000) ∧ (-1000 ≤ z ∧ z ≤ 1000)) ∧ (x = 0 ∧ y = 0 ∧ z = 0)) ∧ r = some (vI (ν 21 0 18)) ∧ (∀ k l1 i, ¬ (k = 21 ∧ l1 = 0 ∧ (i = 4 ∨ i = 18) ∨ k = 32 ∨ k = 33) → ν k l1 i = μ k l1 i) ∧ ν 21 0 4 = 1 ∧ MM0 μ ν l c) ∨ ((((1 ≤ l ∧ l ≤ 3) ∧ (0 ≤ c ∧ c ≤ 1000)) ∧ ((-1000 ≤ x ∧ x ≤ 1000) ∧ (-1000 ≤ y ∧ y ≤ 1000) ∧ (-1000 ≤ z ∧ z ≤ 1000)) ∧ ¬ (x = 0 ∧ y = 0 ∧ z = 0)) ∧ (∃ v, RKm μ (10000 * l + c) v ∧ ¬ (v < μ 21 0 18 ∧ μ 32 0 v = 10000 * l + c)) ∧ μ 21 0 18 = 40 ∧ r = some (vI (-104)) ∧ ν = μ) ∨ ((((1 ≤ l ∧ l ≤ 3) ∧ (0 ≤ c ∧ c ≤ 1000)) ∧ ((-1000 ≤ x ∧ x ≤ 1000) ∧ (-1000 ≤ y ∧ y ≤ 1000) ∧ (-1000 ≤ z ∧ z ≤ 1000)) ∧ ¬ (x = 0 ∧ y = 0 ∧ z = 0)) ∧ r = some (vI (ν 21 0 18)) ∧ (∀ k l1 i, ¬ (k = 21 ∧ l1 = 0 ∧ (i = 4 ∨ i = 18) ∨ k = 32 ∨ k = 33) → ν k l1 i = μ k l1 i) ∧ ν 21 0 4 = 1 ∧ MM1 μ ν l c x y z)) := by
  have hv1 := hv.1
  refine e_iload (dec_at dX6_move 68) rfl ?_
  refine e_if_ne 162 (dec_at dX6_move 69) (by decide) (by decide) (fun h => absurd h (by decide)) (fun _ => ?_)
  refine e_iload (dec_at dX6_move 70) rfl ?_
  refine e_if_ne 162 (dec_at dX6_move 71) (by decide) (by decide) (fun h => absurd h (by decide)) (fun _ => ?_)
  refine e_aload_n 0 (dec_at dX6_move 72) rfl rfl ?_
  refine e_geti 18 18 (dec_at dX6_move 73) flX6_86 rfl rfl rfl (fun r151 => ?_)
  refine e_bipush (dec_at dX6_move 74) (by decide) ?_
  refine e_icmp_ne 162 (dec_at dX6_move 75) (by decide) (by omega) (by omega) (fun h156 => ?_) (fun h156 => ?_)
  · refine e_iload (dec_at dX6_move 78) rfl ?_
    refine e_if_eq 258 (dec_at dX6_move 79) (by decide) (by decide) (fun _ => ?_) (fun h => absurd h (by decide))
    refine e_iload (dec_at dX6_move 131) rfl ?_
    refine e_if_ne 354 (dec_at dX6_move 132) (by decide) (by decide) (fun h => absurd h (by decide)) (fun _ => ?_)
    refine e_iload (dec_at dX6_move 133) rfl ?_
    refine e_if_ne 354 (dec_at dX6_move 134) (by decide) (by decide) (fun h => absurd h (by decide)) (fun _ => ?_)
    refine e_aload_n 0 (dec_at dX6_move 135) rfl rfl ?_
    refine e_geti 18 18 (dec_at dX6_move 136) flX6_86 rfl rfl rfl (fun r269 => ?_)
    refine e_is10 (dec_at dX6_move 137) (by decide) rfl ?_
    refine l_mins hn hmo hwi hv (by omega) _ (μ 21 0 18) μ rfl (by omega) (by omega) (fun _ _ _ _ => rfl) rfl (fun j a b => SMm.rf) (fun j a b => by omega) (fun ν fr e18 ha hb => ?_)
    refine e_aload_n 0 (dec_at dX6_move 178) rfl rfl ?_
    refine e_dup (dec_at dX6_move 179) rfl ?_
    refine e_getiv 18 18 (μ 21 0 18) (dec_at dX6_move 180) flX6_86 rfl rfl rfl (by exact e18) (fun r346 => ?_)
    refine e_iconst (dec_at dX6_move 181) ?_
    refine e_iadd (dec_at dX6_move 182) ?_
    refine e_put 18 18 (dec_at dX6_move 183) flX6_86 fpX6_18 rfl rfl rfl (by omega) (fit_int _) ?_
    refine e_iload (dec_at dX6_move 184) rfl ?_
    refine e_if_ne 404 (dec_at dX6_move 185) (by decide) (by decide) (fun h => absurd h (by decide)) (fun _ => ?_)
    refine e_aload_n 0 (dec_at dX6_move 186) rfl rfl ?_
    refine e_getr 19 (dec_at dX6_move 187) flX6_40 rfl rfl ?_
    refine e_iload (dec_at dX6_move 188) rfl ?_
    refine e_iload (dec_at dX6_move 189) rfl ?_
    refine e_iast (dec_at dX6_move 190) rfl (by decide) (aLk_32 _) (by omega) (by omega) ?_
    refine e_aload_n 0 (dec_at dX6_move 191) rfl rfl ?_
    refine e_getr 20 (dec_at dX6_move 192) flX6_43 rfl rfl ?_
    refine e_iconst (dec_at dX6_move 193) ?_
    refine e_iload (dec_at dX6_move 194) rfl ?_
    refine e_imul (dec_at dX6_move 195) ?_
    refine e_iload_n 3 (dec_at dX6_move 196) rfl rfl ?_
    refine e_iast (dec_at dX6_move 197) rfl (by decide) (aLk_33 _) (by omega) (by omega) ?_
    refine e_aload_n 0 (dec_at dX6_move 198) rfl rfl ?_
    refine e_getr 20 (dec_at dX6_move 199) flX6_43 rfl rfl ?_
    refine e_iconst (dec_at dX6_move 200) ?_
    refine e_iload (dec_at dX6_move 201) rfl ?_
    refine e_imul (dec_at dX6_move 202) ?_
    refine e_iconst (dec_at dX6_move 203) ?_
    refine e_iadd (dec_at dX6_move 204) ?_
    refine e_iload (dec_at dX6_move 205) rfl ?_
    refine e_iast (dec_at dX6_move 206) rfl (by decide) (aLk_33 _) (by omega) (by omega) ?_
    refine e_aload_n 0 (dec_at dX6_move 207) rfl rfl ?_
    refine e_getr 20 (dec_at dX6_move 208) flX6_43 rfl rfl ?_
    refine e_iconst (dec_at dX6_move 209) ?_
    refine e_iload (dec_at dX6_move 210) rfl ?_
    refine e_imul (dec_at dX6_move 211) ?_
    refine e_iconst (dec_at dX6_move 212) ?_
    refine e_iadd (dec_at dX6_move 213) ?_
    refine e_iload (dec_at dX6_move 214) rfl ?_
    refine e_iast (dec_at dX6_move 215) rfl (by decide) (aLk_33 _) (by omega) (by omega) ?_
    refine e_aload_n 0 (dec_at dX6_move 216) rfl rfl ?_
    refine e_iconst (dec_at dX6_move 217) ?_
    refine e_put 4 4 (dec_at dX6_move 218) flX6_50 fpX6_4 rfl rfl rfl (by omega) (fit_bool (by first | exact Or.inl rfl | exact Or.inr rfl)) ?_
    refine e_aload_n 0 (dec_at dX6_move 219) rfl rfl ?_
    refine e_getiv 18 18 (μ 21 0 18 + 1) (dec_at dX6_move 220) flX6_86 rfl rfl rfl (by rw [mset_i (by decide), mset_k (by decide), mset_k (by decide), mset_k (by decide), mset_k (by decide)]; exact mset_eq) (fun r410 => ?_)
    refine e_ireturn (dec_at dX6_move 221) rfl ?_
    exact Or.inr (Or.inr (Or.inr (Or.inr (⟨⟨hmo, hwi, hz⟩, by rw [mset_i (by decide), mset_k (by decide), mset_k (by decide), mset_k (by decide), mset_k (by decide), mset_eq], fun k l1 i q => by rw [mset_ne (by omega), mset_ne (by omega), mset_ne (by omega), mset_ne (by omega), mset_ne (by omega), mset_ne (by omega)]; exact fr k l1 i (by omega), mset_eq, v, hv, ⟨by rw [mset_k (by decide), mset_k (by decide), mset_k (by decide), mset_k (by decide)]; exact mset_eq, by rw [mset_k (by decide), mset_i (by omega), mset_i (by omega)]; exact mset_eq, by rw [mset_k (by decide), mset_i (by omega)]; exact mset_eq, by rw [mset_k (by decide)]; exact mset_eq⟩, Or.inr ⟨his, by omega, by rw [mset_i (by decide), mset_k (by decide), mset_k (by decide), mset_k (by decide), mset_k (by decide), mset_eq], fun i a b => ((ha i a b).m21.mw (by omega) rfl rfl rfl).m21, fun i a b => ((hb i a b).m21.mw (by omega) rfl rfl rfl).m21⟩⟩))))
  · refine e_bipush (dec_at dX6_move 76) (by decide) ?_
    refine e_ireturn (dec_at dX6_move 77) rfl ?_
    exact Or.inr (Or.inr (Or.inr (Or.inl (⟨⟨hmo, hwi, hz⟩, ⟨v, hv, his⟩, by omega, rfl, rfl⟩))))

set_option maxRecDepth 100000 in
set_option maxHeartbeats 4000000 in
theorem m_move {μ : Mm} (l c x y z : Int) (hl : inR l) (hc : inR c) (hx : inR x) (hy : inR y) (hz : inR z) (hn : 0 ≤ μ 21 0 18 ∧ μ 21 0 18 ≤ 40) : Mc mX6_move 6 [vR 21 0, vI l, vI c, vI x, vI y, vI z] μ (fun r ν => (¬ ((1 ≤ l ∧ l ≤ 3) ∧ (0 ≤ c ∧ c ≤ 1000)) ∧ r = some (vI (-101)) ∧ ν = μ) ∨ ((((1 ≤ l ∧ l ≤ 3) ∧ (0 ≤ c ∧ c ≤ 1000)) ∧ ¬ ((-1000 ≤ x ∧ x ≤ 1000) ∧ (-1000 ≤ y ∧ y ≤ 1000) ∧ (-1000 ≤ z ∧ z ≤ 1000))) ∧ r = some (vI (-102)) ∧ ν = μ) ∨ ((((1 ≤ l ∧ l ≤ 3) ∧ (0 ≤ c ∧ c ≤ 1000)) ∧ ((-1000 ≤ x ∧ x ≤ 1000) ∧ (-1000 ≤ y ∧ y ≤ 1000) ∧ (-1000 ≤ z ∧ z ≤ 1000)) ∧ (x = 0 ∧ y = 0 ∧ z = 0)) ∧ r = some (vI (ν 21 0 18)) ∧ (∀ k l1 i, ¬ (k = 21 ∧ l1 = 0 ∧ (i = 4 ∨ i = 18) ∨ k = 32 ∨ k = 33) → ν k l1 i = μ k l1 i) ∧ ν 21 0 4 = 1 ∧ MM0 μ ν l c) ∨ ((((1 ≤ l ∧ l ≤ 3) ∧ (0 ≤ c ∧ c ≤ 1000)) ∧ ((-1000 ≤ x ∧ x ≤ 1000) ∧ (-1000 ≤ y ∧ y ≤ 1000) ∧ (-1000 ≤ z ∧ z ≤ 1000)) ∧ ¬ (x = 0 ∧ y = 0 ∧ z = 0)) ∧ (∃ v, RKm μ (10000 * l + c) v ∧ ¬ (v < μ 21 0 18 ∧ μ 32 0 v = 10000 * l + c)) ∧ μ 21 0 18 = 40 ∧ r = some (vI (-104)) ∧ ν = μ) ∨ ((((1 ≤ l ∧ l ≤ 3) ∧ (0 ≤ c ∧ c ≤ 1000)) ∧ ((-1000 ≤ x ∧ x ≤ 1000) ∧ (-1000 ≤ y ∧ y ≤ 1000) ∧ (-1000 ≤ z ∧ z ≤ 1000)) ∧ ¬ (x = 0 ∧ y = 0 ∧ z = 0)) ∧ r = some (vI (ν 21 0 18)) ∧ (∀ k l1 i, ¬ (k = 21 ∧ l1 = 0 ∧ (i = 4 ∨ i = 18) ∨ k = 32 ∨ k = 33) → ν k l1 i = μ k l1 i) ∧ ν 21 0 4 = 1 ∧ MM1 μ ν l c x y z)) := by
  refine Mc.of (L := [some (vR 21 0), some (vI l), some (vI c), some (vI x), some (vI y), some (vI z), none, none, none, none, none, none]) (by decide +kernel) (by simp [leL, entA, isLong, mX6_move]) (by simp [entA, isLong, mX6_move]) ?_
  refine e_iload_n 1 (dec_at dX6_move 0) rfl rfl ?_
  refine e_i2l (dec_at dX6_move 1) (by omega) ?_
  refine e_lconst 1 (dec_at dX6_move 2) rfl ?_
  refine e_ldc2 3 (dec_at dX6_move 3) klX6_82 (by decide) ?_
  refine e_callSr (M' := mX6_in) (dec_at dX6_move 4) mlX6_59 (m_in (l) (1) (3) (by omega) (by omega) (by omega)) oX6_in sX6_in rfl rfl (by decide) (by decide) (Nat.le_of_ble_eq_true rfl) ?_
  refine e_beq 24 (dec_at dX6_move 5) (by decide) (fun h9 => ?_) (fun h9 => ?_)
  · refine e_bipush (dec_at dX6_move 12) (by decide) ?_
    refine e_ireturn (dec_at dX6_move 13) rfl ?_
    exact Or.inl ⟨by omega, rfl, rfl⟩
  · refine e_iload_n 2 (dec_at dX6_move 6) rfl rfl ?_
    refine e_i2l (dec_at dX6_move 7) (by omega) ?_
    refine e_lconst 0 (dec_at dX6_move 8) rfl ?_
    refine e_ldc2 1000 (dec_at dX6_move 9) klX6_80 (by decide) ?_
    refine e_callSr (M' := mX6_in) (dec_at dX6_move 10) mlX6_59 (m_in (c) (0) (1000) (by omega) (by omega) (by omega)) oX6_in sX6_in rfl rfl (by decide) (by decide) (Nat.le_of_ble_eq_true rfl) ?_
    refine e_bne 27 (dec_at dX6_move 11) (by decide) (fun h21 => ?_) (fun h21 => ?_)
    · refine e_iload_n 3 (dec_at dX6_move 14) rfl rfl ?_
      refine e_i2l (dec_at dX6_move 15) (by omega) ?_
      refine e_ldc2 (-1000) (dec_at dX6_move 16) klX6_78 (by decide) ?_
      refine e_ldc2 1000 (dec_at dX6_move 17) klX6_80 (by decide) ?_
      refine e_callSr (M' := mX6_in) (dec_at dX6_move 18) mlX6_59 (m_in (x) (-1000) (1000) (by omega) (by omega) (by omega)) oX6_in sX6_in rfl rfl (by decide) (by decide) (Nat.le_of_ble_eq_true rfl) ?_
      refine e_beq 71 (dec_at dX6_move 19) (by decide) (fun h38 => ?_) (fun h38 => ?_)
      · refine e_bipush (dec_at dX6_move 32) (by decide) ?_
        refine e_ireturn (dec_at dX6_move 33) rfl ?_
        exact Or.inr (Or.inl ⟨by omega, rfl, rfl⟩)
      · refine e_iload (dec_at dX6_move 20) rfl ?_
        refine e_i2l (dec_at dX6_move 21) (by omega) ?_
        refine e_ldc2 (-1000) (dec_at dX6_move 22) klX6_78 (by decide) ?_
        refine e_ldc2 1000 (dec_at dX6_move 23) klX6_80 (by decide) ?_
        refine e_callSr (M' := mX6_in) (dec_at dX6_move 24) mlX6_59 (m_in (y) (-1000) (1000) (by omega) (by omega) (by omega)) oX6_in sX6_in rfl rfl (by decide) (by decide) (Nat.le_of_ble_eq_true rfl) ?_
        refine e_beq 71 (dec_at dX6_move 25) (by decide) (fun h53 => ?_) (fun h53 => ?_)
        · refine e_bipush (dec_at dX6_move 32) (by decide) ?_
          refine e_ireturn (dec_at dX6_move 33) rfl ?_
          exact Or.inr (Or.inl ⟨by omega, rfl, rfl⟩)
        · refine e_iload (dec_at dX6_move 26) rfl ?_
          refine e_i2l (dec_at dX6_move 27) (by omega) ?_
          refine e_ldc2 (-1000) (dec_at dX6_move 28) klX6_78 (by decide) ?_
          refine e_ldc2 1000 (dec_at dX6_move 29) klX6_80 (by decide) ?_
          refine e_callSr (M' := mX6_in) (dec_at dX6_move 30) mlX6_59 (m_in (z) (-1000) (1000) (by omega) (by omega) (by omega)) oX6_in sX6_in rfl rfl (by decide) (by decide) (Nat.le_of_ble_eq_true rfl) ?_
          refine e_bne 74 (dec_at dX6_move 31) (by decide) (fun h68 => ?_) (fun h68 => ?_)
          · refine e_sipush (dec_at dX6_move 34) (by decide) ?_
            refine e_iload_n 1 (dec_at dX6_move 35) rfl rfl ?_
            refine e_imul (dec_at dX6_move 36) ?_
            refine e_iload_n 2 (dec_at dX6_move 37) rfl rfl ?_
            refine e_iadd (dec_at dX6_move 38) ?_
            refine e_is6 (dec_at dX6_move 39) (by decide) rfl ?_
            refine e_aload_n 0 (dec_at dX6_move 40) rfl rfl ?_
            refine e_iload (dec_at dX6_move 41) rfl ?_
            refine e_callV (M' := mX6_moveOf) (dec_at dX6_move 42) mlX6_184 (m_moveOf (μ := μ) (10000 * l + c) (by omega) hn) oX6_moveOf iX6_moveOf rfl rfl rfl rfl (by decide) (by decide) (Nat.le_of_ble_eq_true rfl) (fun r ν hQ => ?_)
            obtain ⟨rfl, v, rfl, hv⟩ := hQ
            have hv1 := hv.1
            show Ev mX6_move 6 89 _ [vI v] ν _
            refine e_is7 (dec_at dX6_move 43) (by decide) rfl ?_
            refine e_iload (dec_at dX6_move 44) rfl ?_
            refine e_aload_n 0 (dec_at dX6_move 45) rfl rfl ?_
            refine e_geti 18 18 (dec_at dX6_move 46) flX6_86 rfl rfl rfl (fun r94 => ?_)
            refine e_icmp_ge 116 (dec_at dX6_move 47) (by decide) (by omega) (by omega) (fun h97 => ?_) (fun h97 => ?_)
            · refine e_iconst (dec_at dX6_move 56) ?_
              refine e_is8 (dec_at dX6_move 57) (by decide) rfl ?_
              refine e_iload_n 3 (dec_at dX6_move 58) rfl rfl ?_
              refine e_if_ne 137 (dec_at dX6_move 59) (by decide) (by omega) (fun h120 => ?_) (fun h120 => ?_)
              · refine e_iconst (dec_at dX6_move 66) ?_
                refine e_is9 (dec_at dX6_move 67) (by decide) rfl ?_
                first | exact t_mm00 hn (by omega) (by omega) hv (by omega) (by omega) | exact t_mm01 hn (by omega) (by omega) hv (by omega) (by omega) | exact t_mm10 hn (by omega) (by omega) hv (by omega) (by omega) | exact t_mm11 hn (by omega) (by omega) hv (by omega) (by omega)
              · refine e_iload (dec_at dX6_move 60) rfl ?_
                refine e_if_ne 137 (dec_at dX6_move 61) (by decide) (by omega) (fun h125 => ?_) (fun h125 => ?_)
                · refine e_iconst (dec_at dX6_move 66) ?_
                  refine e_is9 (dec_at dX6_move 67) (by decide) rfl ?_
                  first | exact t_mm00 hn (by omega) (by omega) hv (by omega) (by omega) | exact t_mm01 hn (by omega) (by omega) hv (by omega) (by omega) | exact t_mm10 hn (by omega) (by omega) hv (by omega) (by omega) | exact t_mm11 hn (by omega) (by omega) hv (by omega) (by omega)
                · refine e_iload (dec_at dX6_move 62) rfl ?_
                  refine e_if_ne 137 (dec_at dX6_move 63) (by decide) (by omega) (fun h130 => ?_) (fun h130 => ?_)
                  · refine e_iconst (dec_at dX6_move 66) ?_
                    refine e_is9 (dec_at dX6_move 67) (by decide) rfl ?_
                    first | exact t_mm00 hn (by omega) (by omega) hv (by omega) (by omega) | exact t_mm01 hn (by omega) (by omega) hv (by omega) (by omega) | exact t_mm10 hn (by omega) (by omega) hv (by omega) (by omega) | exact t_mm11 hn (by omega) (by omega) hv (by omega) (by omega)
                  · refine e_iconst (dec_at dX6_move 64) ?_
                    refine e_goto 138 (dec_at dX6_move 65) (by decide) ?_
                    refine e_is9 (dec_at dX6_move 67) (by decide) rfl ?_
                    first | exact t_mm00 hn (by omega) (by omega) hv (by omega) (by omega) | exact t_mm01 hn (by omega) (by omega) hv (by omega) (by omega) | exact t_mm10 hn (by omega) (by omega) hv (by omega) (by omega) | exact t_mm11 hn (by omega) (by omega) hv (by omega) (by omega)
            · refine e_aload_n 0 (dec_at dX6_move 48) rfl rfl ?_
              refine e_getr 19 (dec_at dX6_move 49) flX6_40 rfl rfl ?_
              refine e_iload (dec_at dX6_move 50) rfl ?_
              refine e_iald (dec_at dX6_move 51) rfl (by decide) (aLk_32 _) (by omega) (fun r106 => ?_)
              refine e_iload (dec_at dX6_move 52) rfl ?_
              refine e_icmp_ne 116 (dec_at dX6_move 53) (by decide) (by omega) (by omega) (fun h109 => ?_) (fun h109 => ?_)
              · refine e_iconst (dec_at dX6_move 56) ?_
                refine e_is8 (dec_at dX6_move 57) (by decide) rfl ?_
                refine e_iload_n 3 (dec_at dX6_move 58) rfl rfl ?_
                refine e_if_ne 137 (dec_at dX6_move 59) (by decide) (by omega) (fun h120 => ?_) (fun h120 => ?_)
                · refine e_iconst (dec_at dX6_move 66) ?_
                  refine e_is9 (dec_at dX6_move 67) (by decide) rfl ?_
                  first | exact t_mm00 hn (by omega) (by omega) hv (by omega) (by omega) | exact t_mm01 hn (by omega) (by omega) hv (by omega) (by omega) | exact t_mm10 hn (by omega) (by omega) hv (by omega) (by omega) | exact t_mm11 hn (by omega) (by omega) hv (by omega) (by omega)
                · refine e_iload (dec_at dX6_move 60) rfl ?_
                  refine e_if_ne 137 (dec_at dX6_move 61) (by decide) (by omega) (fun h125 => ?_) (fun h125 => ?_)
                  · refine e_iconst (dec_at dX6_move 66) ?_
                    refine e_is9 (dec_at dX6_move 67) (by decide) rfl ?_
                    first | exact t_mm00 hn (by omega) (by omega) hv (by omega) (by omega) | exact t_mm01 hn (by omega) (by omega) hv (by omega) (by omega) | exact t_mm10 hn (by omega) (by omega) hv (by omega) (by omega) | exact t_mm11 hn (by omega) (by omega) hv (by omega) (by omega)
                  · refine e_iload (dec_at dX6_move 62) rfl ?_
                    refine e_if_ne 137 (dec_at dX6_move 63) (by decide) (by omega) (fun h130 => ?_) (fun h130 => ?_)
                    · refine e_iconst (dec_at dX6_move 66) ?_
                      refine e_is9 (dec_at dX6_move 67) (by decide) rfl ?_
                      first | exact t_mm00 hn (by omega) (by omega) hv (by omega) (by omega) | exact t_mm01 hn (by omega) (by omega) hv (by omega) (by omega) | exact t_mm10 hn (by omega) (by omega) hv (by omega) (by omega) | exact t_mm11 hn (by omega) (by omega) hv (by omega) (by omega)
                    · refine e_iconst (dec_at dX6_move 64) ?_
                      refine e_goto 138 (dec_at dX6_move 65) (by decide) ?_
                      refine e_is9 (dec_at dX6_move 67) (by decide) rfl ?_
                      first | exact t_mm00 hn (by omega) (by omega) hv (by omega) (by omega) | exact t_mm01 hn (by omega) (by omega) hv (by omega) (by omega) | exact t_mm10 hn (by omega) (by omega) hv (by omega) (by omega) | exact t_mm11 hn (by omega) (by omega) hv (by omega) (by omega)
              · refine e_iconst (dec_at dX6_move 54) ?_
                refine e_goto 117 (dec_at dX6_move 55) (by decide) ?_
                refine e_is8 (dec_at dX6_move 57) (by decide) rfl ?_
                refine e_iload_n 3 (dec_at dX6_move 58) rfl rfl ?_
                refine e_if_ne 137 (dec_at dX6_move 59) (by decide) (by omega) (fun h120 => ?_) (fun h120 => ?_)
                · refine e_iconst (dec_at dX6_move 66) ?_
                  refine e_is9 (dec_at dX6_move 67) (by decide) rfl ?_
                  first | exact t_mm00 hn (by omega) (by omega) hv (by omega) (by omega) | exact t_mm01 hn (by omega) (by omega) hv (by omega) (by omega) | exact t_mm10 hn (by omega) (by omega) hv (by omega) (by omega) | exact t_mm11 hn (by omega) (by omega) hv (by omega) (by omega)
                · refine e_iload (dec_at dX6_move 60) rfl ?_
                  refine e_if_ne 137 (dec_at dX6_move 61) (by decide) (by omega) (fun h125 => ?_) (fun h125 => ?_)
                  · refine e_iconst (dec_at dX6_move 66) ?_
                    refine e_is9 (dec_at dX6_move 67) (by decide) rfl ?_
                    first | exact t_mm00 hn (by omega) (by omega) hv (by omega) (by omega) | exact t_mm01 hn (by omega) (by omega) hv (by omega) (by omega) | exact t_mm10 hn (by omega) (by omega) hv (by omega) (by omega) | exact t_mm11 hn (by omega) (by omega) hv (by omega) (by omega)
                  · refine e_iload (dec_at dX6_move 62) rfl ?_
                    refine e_if_ne 137 (dec_at dX6_move 63) (by decide) (by omega) (fun h130 => ?_) (fun h130 => ?_)
                    · refine e_iconst (dec_at dX6_move 66) ?_
                      refine e_is9 (dec_at dX6_move 67) (by decide) rfl ?_
                      first | exact t_mm00 hn (by omega) (by omega) hv (by omega) (by omega) | exact t_mm01 hn (by omega) (by omega) hv (by omega) (by omega) | exact t_mm10 hn (by omega) (by omega) hv (by omega) (by omega) | exact t_mm11 hn (by omega) (by omega) hv (by omega) (by omega)
                    · refine e_iconst (dec_at dX6_move 64) ?_
                      refine e_goto 138 (dec_at dX6_move 65) (by decide) ?_
                      refine e_is9 (dec_at dX6_move 67) (by decide) rfl ?_
                      first | exact t_mm00 hn (by omega) (by omega) hv (by omega) (by omega) | exact t_mm01 hn (by omega) (by omega) hv (by omega) (by omega) | exact t_mm10 hn (by omega) (by omega) hv (by omega) (by omega) | exact t_mm11 hn (by omega) (by omega) hv (by omega) (by omega)
          · refine e_bipush (dec_at dX6_move 32) (by decide) ?_
            refine e_ireturn (dec_at dX6_move 33) rfl ?_
            exact Or.inr (Or.inl ⟨by omega, rfl, rfl⟩)
    · refine e_bipush (dec_at dX6_move 12) (by decide) ?_
      refine e_ireturn (dec_at dX6_move 13) rfl ?_
      exact Or.inl ⟨by omega, rfl, rfl⟩
