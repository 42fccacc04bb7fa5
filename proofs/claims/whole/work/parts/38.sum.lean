/-- a number of the move of a corner, 0 where there is none -/
def HM (μ : Mm) (L c i : Int) : Prop := (0 ≤ i ∧ i < μ 7 0 3) ∧ μ 8 0 i = L ∧ μ 9 0 i = c
noncomputable def mvx (μ : Mm) (L c a : Int) : Int := @ite Int (∃ i, HM μ L c i) (Classical.propDecidable _) (μ 10 0 (3 * Classical.epsilon (HM μ L c) + a)) 0
theorem HM.uq {μ : Mm} (h : Mv μ) {L c i j : Int} (hi : HM μ L c i) (hj : HM μ L c j) : i = j := by
  have e : ky μ i = ky μ j := by unfold ky; rw [hi.2.1, hi.2.2, hj.2.1, hj.2.2]
  rcases Int.lt_trichotomy i j with q | q | q
  · have := h.2.2 i j hi.1.1 q hj.1.2; omega
  · exact q
  · have := h.2.2 j i hj.1.1 q hi.1.2; omega
theorem mvx_at {μ : Mm} (h : Mv μ) {L c i : Int} (hi : HM μ L c i) (a : Int) : mvx μ L c a = μ 10 0 (3 * i + a) := by
  have hx : ∃ i, HM μ L c i := ⟨i, hi⟩
  unfold mvx
  rw [if_pos hx, HM.uq h (Classical.epsilon_spec hx) hi]
theorem mvx_no {μ : Mm} {L c : Int} (hn : ¬ ∃ i, HM μ L c i) (a : Int) : mvx μ L c a = 0 := by
  unfold mvx
  rw [if_neg hn]
theorem mvx_in {μ : Mm} (h : Mv μ) {L c a : Int} (h0 : 0 ≤ a) (h1 : a < 3) : -1000 ≤ mvx μ L c a ∧ mvx μ L c a ≤ 1000 := by
  by_cases q : ∃ i, HM μ L c i
  · obtain ⟨i, hi⟩ := q
    rw [mvx_at h hi]
    exact (h.2.1 i hi.1.1 hi.1.2).2.2 a h0 h1
  · rw [mvx_no q]; omega

theorem NB1.fr2 {μ ν : Mm} {l : Int} (h : NB1 μ l) (fr : ∀ (k : Nat) (l1 i : Int), ¬ (k = 12 ∧ l1 = l + 1) → ν k l1 i = μ k l1 i) : NB1 ν l := h.fr (fun k i => fr k l i (by omega))
theorem NB2.fr2 {μ ν : Mm} {l : Int} (h : NB2 μ l) (fr : ∀ (k : Nat) (l1 i : Int), ¬ (k = 12 ∧ l1 = l + 1) → ν k l1 i = μ k l1 i) : NB2 ν l := h.fr (fun k i => fr k l i (by omega))

set_option maxRecDepth 100000 in
set_option maxHeartbeats 4000000 in
theorem l_sumFrom {μ : Mm} {l : Int} (hb1 : NB1 μ l) (hb2 : NB2 μ l) (hE1 : μ 11 l 2 ≤ capC (l + 1)) (hs : ∀ i, 0 ≤ i → i < 3 * μ 11 l 0 → -100000000 ≤ μ 12 l i ∧ μ 12 l i ≤ 100000000) : ∀ (q : Nat) (e : Int) (ν : Mm), (μ 11 l 2 - e).toNat = q → 0 ≤ e → e ≤ μ 11 l 2 → (∀ k l1 i, ¬ (k = 12 ∧ l1 = l + 1) → ν k l1 i = μ k l1 i) → (∀ j, 0 ≤ j → j < e → ∀ a, 0 ≤ a → a < 3 → ν 12 (l + 1) (3 * j + a) = μ 12 l (3 * μ 14 l (μ 18 l j) + a) + μ 12 l (3 * μ 14 l (nxF (μ 13 l) (μ 15 l) (μ 18 l j)) + a)) → Ev mX2_sumFrom 3 2 [some (vR 11 (l + 1)), some (vR 11 l), some (vI e), none, none, none] [] ν (fun r μ' => r = none ∧ (∀ k l1 i, ¬ (k = 12 ∧ l1 = l + 1) → μ' k l1 i = μ k l1 i) ∧ (∀ j, 0 ≤ j → j < μ 11 l 2 → ∀ a, 0 ≤ a → a < 3 → μ' 12 (l + 1) (3 * j + a) = μ 12 l (3 * μ 14 l (μ 18 l j) + a) + μ 12 l (3 * μ 14 l (nxF (μ 13 l) (μ 15 l) (μ 18 l j)) + a))) := by
  intro q
  induction q using Nat.strongRecOn with
  | _ q ih =>
  intro e ν hq h0 h1 fr hi
  have hCc := capC_in l
  have hCp := capP_in l
  have hCe := capE_in l
  have hCc1 := capC_in (l + 1)
  have hE := hb2.1
  have hC := hb1.1
  have hn := hb1.2.2.1
  refine e_iload_n 2 (dec_at dX2_sumFrom 2) rfl rfl ?_
  refine e_aload_n 1 (dec_at dX2_sumFrom 3) rfl rfl ?_
  refine e_getiv 2 2 (μ 11 l 2) (dec_at dX2_sumFrom 4) flX2_61 rfl rfl rfl (by exact fr 11 l 2 (by omega)) (fun r4 => ?_)
  refine e_icmp_ge 79 (dec_at dX2_sumFrom 5) (by decide) (by omega) (by omega) (fun h7 => ?_) (fun h7 => ?_)
  · refine e_return (dec_at dX2_sumFrom 48) rfl ?_
    obtain rfl : e = μ 11 l 2 := by omega
    exact ⟨rfl, fr, hi⟩
  · have he := hb2.2 e h0 (by omega)
    have hw := hb1.2.2.2.2 _ he.1 he.2
    have hx := hb1.nx he.1 he.2
    have ht := hb1.2.2.2.2 _ hx.1 hx.2
    have s0 := hs (3 * μ 14 l (μ 18 l e) + 0) (by omega) (by omega)
    have s1 := hs (3 * μ 14 l (μ 18 l e) + (0 + 1)) (by omega) (by omega)
    have s2 := hs (3 * μ 14 l (μ 18 l e) + (0 + 1 + 1)) (by omega) (by omega)
    have t0 := hs (3 * μ 14 l (nxF (μ 13 l) (μ 15 l) (μ 18 l e)) + 0) (by omega) (by omega)
    have t1 := hs (3 * μ 14 l (nxF (μ 13 l) (μ 15 l) (μ 18 l e)) + (0 + 1)) (by omega) (by omega)
    have t2 := hs (3 * μ 14 l (nxF (μ 13 l) (μ 15 l) (μ 18 l e)) + (0 + 1 + 1)) (by omega) (by omega)
    refine e_iconst (dec_at dX2_sumFrom 6) ?_
    refine e_aload_n 1 (dec_at dX2_sumFrom 7) rfl rfl ?_
    refine e_iload_n 2 (dec_at dX2_sumFrom 8) rfl rfl ?_
    refine e_callVr (M' := mX2_whence) (dec_at dX2_sumFrom 9) mlX2_81 ((c_whence (μ := ν) l e (hb1.fr2 fr) (hb2.fr2 fr) h0 (by rw [fr 11 l 2 (by omega)]; omega)).rt (r' := some (vI (μ 14 l (μ 18 l e)))) (by rw [fr 18 l _ (by omega), fr 14 l _ (by omega)]) rfl) oX2_whence iX2_whence rfl rfl rfl rfl (by decide) (by decide) (Nat.le_of_ble_eq_true rfl) ?_
    refine e_imul (dec_at dX2_sumFrom 10) ?_
    refine e_is3 (dec_at dX2_sumFrom 11) (by decide) rfl ?_
    refine e_iconst (dec_at dX2_sumFrom 12) ?_
    refine e_aload_n 1 (dec_at dX2_sumFrom 13) rfl rfl ?_
    refine e_iload_n 2 (dec_at dX2_sumFrom 14) rfl rfl ?_
    refine e_callVr (M' := mX2_whither) (dec_at dX2_sumFrom 15) mlX2_84 ((c_whither (μ := ν) l e (hb1.fr2 fr) (hb2.fr2 fr) h0 (by rw [fr 11 l 2 (by omega)]; omega)).rt (r' := some (vI (μ 14 l (nxF (μ 13 l) (μ 15 l) (μ 18 l e))))) (by rw [fr 18 l _ (by omega), show ν 13 l = μ 13 l from funext (fun i => fr 13 l i (by omega)), show ν 15 l = μ 15 l from funext (fun i => fr 15 l i (by omega)), fr 14 l _ (by omega)]) rfl) oX2_whither iX2_whither rfl rfl rfl rfl (by decide) (by decide) (Nat.le_of_ble_eq_true rfl) ?_
    refine e_imul (dec_at dX2_sumFrom 16) ?_
    refine e_is4 (dec_at dX2_sumFrom 17) (by decide) rfl ?_
    refine e_iconst (dec_at dX2_sumFrom 18) ?_
    refine e_is5 (dec_at dX2_sumFrom 19) (by decide) rfl ?_
    refine e_iload (dec_at dX2_sumFrom 20) rfl ?_
    refine e_iconst (dec_at dX2_sumFrom 21) ?_
    refine e_icmp_ge 73 (dec_at dX2_sumFrom 22) (by decide) (by decide) (by decide) (fun h => absurd h (by decide)) (fun _ => ?_)
    refine e_aload_n 0 (dec_at dX2_sumFrom 23) rfl rfl ?_
    refine e_getr 3 (dec_at dX2_sumFrom 24) flX2_9 rfl rfl ?_
    refine e_iconst (dec_at dX2_sumFrom 25) ?_
    refine e_iload_n 2 (dec_at dX2_sumFrom 26) rfl rfl ?_
    refine e_imul (dec_at dX2_sumFrom 27) ?_
    refine e_iload (dec_at dX2_sumFrom 28) rfl ?_
    refine e_iadd (dec_at dX2_sumFrom 29) ?_
    refine e_aload_n 1 (dec_at dX2_sumFrom 30) rfl rfl ?_
    refine e_getr 3 (dec_at dX2_sumFrom 31) flX2_9 rfl rfl ?_
    refine e_iload_n 3 (dec_at dX2_sumFrom 32) rfl rfl ?_
    refine e_iload (dec_at dX2_sumFrom 33) rfl ?_
    refine e_iadd (dec_at dX2_sumFrom 34) ?_
    refine e_ialdv (μ 12 l (3 * μ 14 l (μ 18 l e) + 0)) (dec_at dX2_sumFrom 35) rfl (by decide) (aLk_12 _) (by omega) (by rw [fr 12 l _ (by omega)]) (fun r54 => ?_)
    refine e_aload_n 1 (dec_at dX2_sumFrom 36) rfl rfl ?_
    refine e_getr 3 (dec_at dX2_sumFrom 37) flX2_9 rfl rfl ?_
    refine e_iload (dec_at dX2_sumFrom 38) rfl ?_
    refine e_iload (dec_at dX2_sumFrom 39) rfl ?_
    refine e_iadd (dec_at dX2_sumFrom 40) ?_
    refine e_ialdv (μ 12 l (3 * μ 14 l (nxF (μ 13 l) (μ 15 l) (μ 18 l e)) + 0)) (dec_at dX2_sumFrom 41) rfl (by decide) (aLk_12 _) (by omega) (by rw [fr 12 l _ (by omega)]) (fun r64 => ?_)
    refine e_iadd (dec_at dX2_sumFrom 42) ?_
    refine e_iast (dec_at dX2_sumFrom 43) rfl (by decide) (aLk_12 _) (by omega) (by omega) ?_
    refine e_ii5 (dec_at dX2_sumFrom 44) (by decide) rfl ?_
    refine e_goto 30 (dec_at dX2_sumFrom 45) (by decide) ?_
    refine e_iload (dec_at dX2_sumFrom 20) rfl ?_
    refine e_iconst (dec_at dX2_sumFrom 21) ?_
    refine e_icmp_ge 73 (dec_at dX2_sumFrom 22) (by decide) (by decide) (by decide) (fun h => absurd h (by decide)) (fun _ => ?_)
    refine e_aload_n 0 (dec_at dX2_sumFrom 23) rfl rfl ?_
    refine e_getr 3 (dec_at dX2_sumFrom 24) flX2_9 rfl rfl ?_
    refine e_iconst (dec_at dX2_sumFrom 25) ?_
    refine e_iload_n 2 (dec_at dX2_sumFrom 26) rfl rfl ?_
    refine e_imul (dec_at dX2_sumFrom 27) ?_
    refine e_iload (dec_at dX2_sumFrom 28) rfl ?_
    refine e_iadd (dec_at dX2_sumFrom 29) ?_
    refine e_aload_n 1 (dec_at dX2_sumFrom 30) rfl rfl ?_
    refine e_getr 3 (dec_at dX2_sumFrom 31) flX2_9 rfl rfl ?_
    refine e_iload_n 3 (dec_at dX2_sumFrom 32) rfl rfl ?_
    refine e_iload (dec_at dX2_sumFrom 33) rfl ?_
    refine e_iadd (dec_at dX2_sumFrom 34) ?_
    refine e_ialdv (μ 12 l (3 * μ 14 l (μ 18 l e) + (0 + 1))) (dec_at dX2_sumFrom 35) rfl (by decide) (aLk_12 _) (by omega) (by rw [mset_l (by omega), fr 12 l _ (by omega)]) (fun r54 => ?_)
    refine e_aload_n 1 (dec_at dX2_sumFrom 36) rfl rfl ?_
    refine e_getr 3 (dec_at dX2_sumFrom 37) flX2_9 rfl rfl ?_
    refine e_iload (dec_at dX2_sumFrom 38) rfl ?_
    refine e_iload (dec_at dX2_sumFrom 39) rfl ?_
    refine e_iadd (dec_at dX2_sumFrom 40) ?_
    refine e_ialdv (μ 12 l (3 * μ 14 l (nxF (μ 13 l) (μ 15 l) (μ 18 l e)) + (0 + 1))) (dec_at dX2_sumFrom 41) rfl (by decide) (aLk_12 _) (by omega) (by rw [mset_l (by omega), fr 12 l _ (by omega)]) (fun r64 => ?_)
    refine e_iadd (dec_at dX2_sumFrom 42) ?_
    refine e_iast (dec_at dX2_sumFrom 43) rfl (by decide) (aLk_12 _) (by omega) (by omega) ?_
    refine e_ii5 (dec_at dX2_sumFrom 44) (by decide) rfl ?_
    refine e_goto 30 (dec_at dX2_sumFrom 45) (by decide) ?_
    refine e_iload (dec_at dX2_sumFrom 20) rfl ?_
    refine e_iconst (dec_at dX2_sumFrom 21) ?_
    refine e_icmp_ge 73 (dec_at dX2_sumFrom 22) (by decide) (by decide) (by decide) (fun h => absurd h (by decide)) (fun _ => ?_)
    refine e_aload_n 0 (dec_at dX2_sumFrom 23) rfl rfl ?_
    refine e_getr 3 (dec_at dX2_sumFrom 24) flX2_9 rfl rfl ?_
    refine e_iconst (dec_at dX2_sumFrom 25) ?_
    refine e_iload_n 2 (dec_at dX2_sumFrom 26) rfl rfl ?_
    refine e_imul (dec_at dX2_sumFrom 27) ?_
    refine e_iload (dec_at dX2_sumFrom 28) rfl ?_
    refine e_iadd (dec_at dX2_sumFrom 29) ?_
    refine e_aload_n 1 (dec_at dX2_sumFrom 30) rfl rfl ?_
    refine e_getr 3 (dec_at dX2_sumFrom 31) flX2_9 rfl rfl ?_
    refine e_iload_n 3 (dec_at dX2_sumFrom 32) rfl rfl ?_
    refine e_iload (dec_at dX2_sumFrom 33) rfl ?_
    refine e_iadd (dec_at dX2_sumFrom 34) ?_
    refine e_ialdv (μ 12 l (3 * μ 14 l (μ 18 l e) + (0 + 1 + 1))) (dec_at dX2_sumFrom 35) rfl (by decide) (aLk_12 _) (by omega) (by rw [mset_l (by omega), mset_l (by omega), fr 12 l _ (by omega)]) (fun r54 => ?_)
    refine e_aload_n 1 (dec_at dX2_sumFrom 36) rfl rfl ?_
    refine e_getr 3 (dec_at dX2_sumFrom 37) flX2_9 rfl rfl ?_
    refine e_iload (dec_at dX2_sumFrom 38) rfl ?_
    refine e_iload (dec_at dX2_sumFrom 39) rfl ?_
    refine e_iadd (dec_at dX2_sumFrom 40) ?_
    refine e_ialdv (μ 12 l (3 * μ 14 l (nxF (μ 13 l) (μ 15 l) (μ 18 l e)) + (0 + 1 + 1))) (dec_at dX2_sumFrom 41) rfl (by decide) (aLk_12 _) (by omega) (by rw [mset_l (by omega), mset_l (by omega), fr 12 l _ (by omega)]) (fun r64 => ?_)
    refine e_iadd (dec_at dX2_sumFrom 42) ?_
    refine e_iast (dec_at dX2_sumFrom 43) rfl (by decide) (aLk_12 _) (by omega) (by omega) ?_
    refine e_ii5 (dec_at dX2_sumFrom 44) (by decide) rfl ?_
    refine e_goto 30 (dec_at dX2_sumFrom 45) (by decide) ?_
    refine e_iload (dec_at dX2_sumFrom 20) rfl ?_
    refine e_iconst (dec_at dX2_sumFrom 21) ?_
    refine e_icmp_ge 73 (dec_at dX2_sumFrom 22) (by decide) (by decide) (by decide) (fun _ => ?_) (fun h => absurd h (by decide))
    refine e_ii2 (dec_at dX2_sumFrom 46) (by decide) rfl ?_
    refine e_goto 2 (dec_at dX2_sumFrom 47) (by decide) ?_
    refine e_le [some (vR 11 (l + 1)), some (vR 11 l), some (vI (e + 1)), none, none, none] (by simp [leL]) (ih _ (by omega) (e + 1) _ rfl (by omega) (by omega) (fr_set (fr_set (fr_set fr ⟨rfl, rfl⟩) ⟨rfl, rfl⟩) ⟨rfl, rfl⟩) (fun j a b x x0 x1 => ?_))
    by_cases q : j = e
    · subst q
      rcases (show x = 0 ∨ x = 1 ∨ x = 2 by omega) with rfl | rfl | rfl
      · rw [mset_i (by omega), mset_i (by omega)]
        exact mset_eq
      · rw [mset_i (by omega)]
        exact mset_eq
      · exact mset_eq
    · rw [mset_i (by omega), mset_i (by omega), mset_i (by omega)]
      exact hi j a (by omega) x x0 x1

set_option maxRecDepth 100000 in
set_option maxHeartbeats 4000000 in
theorem c_sumFrom {μ : Mm} (l : Int) (hb1 : NB1 μ l) (hb2 : NB2 μ l) (hE1 : μ 11 l 2 ≤ capC (l + 1)) (hs : ∀ i, 0 ≤ i → i < 3 * μ 11 l 0 → -100000000 ≤ μ 12 l i ∧ μ 12 l i ≤ 100000000) : Mc mX2_sumFrom 3 [vR 11 (l + 1), vR 11 l] μ (fun r μ' => r = none ∧ (∀ k l1 i, ¬ (k = 12 ∧ l1 = l + 1) → μ' k l1 i = μ k l1 i) ∧ (∀ j, 0 ≤ j → j < μ 11 l 2 → ∀ a, 0 ≤ a → a < 3 → μ' 12 (l + 1) (3 * j + a) = μ 12 l (3 * μ 14 l (μ 18 l j) + a) + μ 12 l (3 * μ 14 l (nxF (μ 13 l) (μ 15 l) (μ 18 l j)) + a))) := by
  refine Mc.of (L := [some (vR 11 (l + 1)), some (vR 11 l), none, none, none, none]) (by decide +kernel) (by simp [leL, entA, isLong, mX2_sumFrom]) (by simp [entA, isLong, mX2_sumFrom]) ?_
  have hCc := capC_in l
  have hCp := capP_in l
  have hCe := capE_in l
  have hCc1 := capC_in (l + 1)
  have hE := hb2.1
  have hC := hb1.1
  have hn := hb1.2.2.1
  refine e_iconst (dec_at dX2_sumFrom 0) ?_
  refine e_is2 (dec_at dX2_sumFrom 1) (by decide) rfl ?_
  exact l_sumFrom hb1 hb2 hE1 hs _ 0 μ rfl (by omega) (by omega) (fun _ _ _ _ => rfl) (fun j a b => by omega)

set_option maxRecDepth 100000 in
set_option maxHeartbeats 4000000 in
theorem l_addTo {μ : Mm} {l : Int} (h : Mv μ) (hC : 0 ≤ μ 11 l 0 ∧ μ 11 l 0 ≤ capC l) (hl : inR l) (hs : ∀ i, 0 ≤ i → i < 3 * μ 11 l 0 → -100000000 ≤ μ 12 l i ∧ μ 12 l i ≤ 100000000) : ∀ (q : Nat) (m : Int) (ν : Mm), (μ 7 0 3 - m).toNat = q → 0 ≤ m → m ≤ μ 7 0 3 → (∀ k l1 i, ¬ (k = 12 ∧ l1 = l) → ν k l1 i = μ k l1 i) → (∀ c a, 0 ≤ c → c < μ 11 l 0 → 0 ≤ a → a < 3 → (∀ i, 0 ≤ i → i < m → μ 8 0 i = l → μ 9 0 i = c → ν 12 l (3 * c + a) = μ 12 l (3 * c + a) + μ 10 0 (3 * i + a)) ∧ ((∀ i, 0 ≤ i → i < m → ¬ (μ 8 0 i = l ∧ μ 9 0 i = c)) → ν 12 l (3 * c + a) = μ 12 l (3 * c + a))) → Ev mX1_addTo 1 2 [some (vR 7 0), some (vR 11 l), some (vI l), some (vI m), none] [] ν (fun r μ' => r = none ∧ (∀ k l1 i, ¬ (k = 12 ∧ l1 = l) → μ' k l1 i = μ k l1 i) ∧ ∀ c a, 0 ≤ c → c < μ 11 l 0 → 0 ≤ a → a < 3 → μ' 12 l (3 * c + a) = μ 12 l (3 * c + a) + mvx μ l c a) := by
  intro q
  induction q using Nat.strongRecOn with
  | _ q ih =>
  intro m ν hq h0 h1 fr hi
  have hCc := capC_in l
  have hm := h.1
  refine e_iload_n 3 (dec_at dX1_addTo 2) rfl rfl ?_
  refine e_aload_n 0 (dec_at dX1_addTo 3) rfl rfl ?_
  refine e_getiv 3 3 (μ 7 0 3) (dec_at dX1_addTo 4) flX1_21 rfl rfl rfl (by exact fr 7 0 3 (by omega)) (fun r4 => ?_)
  refine e_icmp_ge 84 (dec_at dX1_addTo 5) (by decide) (by omega) (by omega) (fun h7 => ?_) (fun h7 => ?_)
  · refine e_return (dec_at dX1_addTo 50) rfl ?_
    obtain rfl : m = μ 7 0 3 := by omega
    refine ⟨rfl, fr, fun c a c0 c1 a0 a1 => ?_⟩
    have z := hi c a c0 c1 a0 a1
    by_cases q : ∃ i, HM μ l c i
    · obtain ⟨i, hx⟩ := q
      rw [mvx_at h hx]
      exact z.1 i hx.1.1 hx.1.2 hx.2.1 hx.2.2
    · rw [mvx_no q, Int.add_zero]
      exact z.2 (fun i i0 i1 w => q ⟨i, ⟨i0, i1⟩, w.1, w.2⟩)
  · have hq1 := h.2.1 m h0 (by omega)
    refine e_aload_n 0 (dec_at dX1_addTo 6) rfl rfl ?_
    refine e_getr 0 (dec_at dX1_addTo 7) flX1_9 rfl rfl ?_
    refine e_iload_n 3 (dec_at dX1_addTo 8) rfl rfl ?_
    refine e_ialdv (μ 8 0 m) (dec_at dX1_addTo 9) rfl (by decide) (aLk_8 _) (by omega) (by exact fr 8 0 m (by omega)) (fun r15 => ?_)
    refine e_iload_n 2 (dec_at dX1_addTo 10) rfl rfl ?_
    refine e_icmp_ne 78 (dec_at dX1_addTo 11) (by decide) (by omega) (by omega) (fun h17 => ?_) (fun h17 => ?_)
    · refine e_ii3 (dec_at dX1_addTo 48) (by decide) rfl ?_
      refine e_goto 2 (dec_at dX1_addTo 49) (by decide) ?_
      refine ih _ (by omega) (m + 1) ν rfl (by omega) (by omega) fr (fun c a c0 c1 a0 a1 => ?_)
      have z := hi c a c0 c1 a0 a1
      refine ⟨fun i i0 i1 e1 e2 => ?_, fun hno => z.2 (fun i i0 i1 => hno i i0 (by omega))⟩
      by_cases q : i = m
      · subst q; omega
      · exact z.1 i i0 (by omega) e1 e2
    · refine e_aload_n 1 (dec_at dX1_addTo 12) rfl rfl ?_
      refine e_aload_n 0 (dec_at dX1_addTo 13) rfl rfl ?_
      refine e_getr 1 (dec_at dX1_addTo 14) flX1_15 rfl rfl ?_
      refine e_iload_n 3 (dec_at dX1_addTo 15) rfl rfl ?_
      refine e_ialdv (μ 9 0 m) (dec_at dX1_addTo 16) rfl (by decide) (aLk_9 _) (by omega) (by exact fr 9 0 m (by omega)) (fun r26 => ?_)
      refine e_callVr (M' := mX2_hasCorner) (dec_at dX1_addTo 17) mlX1_36 ((c_hasCorner (μ := ν) l (μ 9 0 m) (by omega)).rt (r' := some (vI (b01 (0 ≤ μ 9 0 m ∧ μ 9 0 m < μ 11 l 0)))) (by rw [fr 11 l 0 (by omega)]) rfl) oX2_hasCorner iX2_hasCorner rfl rfl rfl rfl (by decide) (by decide) (Nat.le_of_ble_eq_true rfl) ?_
      refine e_beq 78 (dec_at dX1_addTo 18) (by decide) (fun h30 => ?_) (fun h30 => ?_)
      · have hnb := h30
        refine e_ii3 (dec_at dX1_addTo 48) (by decide) rfl ?_
        refine e_goto 2 (dec_at dX1_addTo 49) (by decide) ?_
        refine ih _ (by omega) (m + 1) ν rfl (by omega) (by omega) fr (fun c a c0 c1 a0 a1 => ?_)
        have z := hi c a c0 c1 a0 a1
        refine ⟨fun i i0 i1 e1 e2 => ?_, fun hno => z.2 (fun i i0 i1 => hno i i0 (by omega))⟩
        by_cases q : i = m
        · subst q; omega
        · exact z.1 i i0 (by omega) e1 e2
      · have hb := h30
        have hnm : ∀ i, 0 ≤ i → i < m → ¬ (μ 8 0 i = l ∧ μ 9 0 i = μ 9 0 m) := fun i i0 i1 z => by
          have := HM.uq h (L := l) (c := μ 9 0 m) (i := i) (j := m) ⟨by omega, z.1, z.2⟩ ⟨by omega, by omega, rfl⟩
          omega
        have s0 := hs (3 * μ 9 0 m + 0) (by omega) (by omega)
        have s1 := hs (3 * μ 9 0 m + (0 + 1)) (by omega) (by omega)
        have s2 := hs (3 * μ 9 0 m + (0 + 1 + 1)) (by omega) (by omega)
        have u0 := hq1.2.2 0 (by decide) (by decide)
        have u1 := hq1.2.2 (0 + 1) (by decide) (by decide)
        have u2 := hq1.2.2 (0 + 1 + 1) (by decide) (by decide)
        refine e_iconst (dec_at dX1_addTo 19) ?_
        refine e_is4 (dec_at dX1_addTo 20) (by decide) rfl ?_
        refine e_iload (dec_at dX1_addTo 21) rfl ?_
        refine e_iconst (dec_at dX1_addTo 22) ?_
        refine e_icmp_ge 78 (dec_at dX1_addTo 23) (by decide) (by decide) (by decide) (fun h => absurd h (by decide)) (fun _ => ?_)
        refine e_aload_n 1 (dec_at dX1_addTo 24) rfl rfl ?_
        refine e_getr 3 (dec_at dX1_addTo 25) flX1_42 rfl rfl ?_
        refine e_iconst (dec_at dX1_addTo 26) ?_
        refine e_aload_n 0 (dec_at dX1_addTo 27) rfl rfl ?_
        refine e_getr 1 (dec_at dX1_addTo 28) flX1_15 rfl rfl ?_
        refine e_iload_n 3 (dec_at dX1_addTo 29) rfl rfl ?_
        refine e_ialdv (μ 9 0 m) (dec_at dX1_addTo 30) rfl (by decide) (aLk_9 _) (by omega) (by rw [fr 9 0 m (by omega)]) (fun r52 => ?_)
        refine e_imul (dec_at dX1_addTo 31) ?_
        refine e_iload (dec_at dX1_addTo 32) rfl ?_
        refine e_iadd (dec_at dX1_addTo 33) ?_
        refine e_dup2 (dec_at dX1_addTo 34) rfl rfl ?_
        refine e_ialdv (μ 12 l (3 * μ 9 0 m + 0)) (dec_at dX1_addTo 35) rfl (by decide) (aLk_12 _) (by omega) (by exact (hi (μ 9 0 m) 0 hb.1 hb.2 (by decide) (by decide)).2 hnm) (fun r58 => ?_)
        refine e_aload_n 0 (dec_at dX1_addTo 36) rfl rfl ?_
        refine e_getr 2 (dec_at dX1_addTo 37) flX1_18 rfl rfl ?_
        refine e_iconst (dec_at dX1_addTo 38) ?_
        refine e_iload_n 3 (dec_at dX1_addTo 39) rfl rfl ?_
        refine e_imul (dec_at dX1_addTo 40) ?_
        refine e_iload (dec_at dX1_addTo 41) rfl ?_
        refine e_iadd (dec_at dX1_addTo 42) ?_
        refine e_ialdv (μ 10 0 (3 * m + 0)) (dec_at dX1_addTo 43) rfl (by decide) (aLk_10 _) (by omega) (by rw [fr 10 0 _ (by omega)]) (fun r69 => ?_)
        refine e_iadd (dec_at dX1_addTo 44) ?_
        refine e_iast (dec_at dX1_addTo 45) rfl (by decide) (aLk_12 _) (by omega) (by omega) ?_
        refine e_ii4 (dec_at dX1_addTo 46) (by decide) rfl ?_
        refine e_goto 36 (dec_at dX1_addTo 47) (by decide) ?_
        refine e_iload (dec_at dX1_addTo 21) rfl ?_
        refine e_iconst (dec_at dX1_addTo 22) ?_
        refine e_icmp_ge 78 (dec_at dX1_addTo 23) (by decide) (by decide) (by decide) (fun h => absurd h (by decide)) (fun _ => ?_)
        refine e_aload_n 1 (dec_at dX1_addTo 24) rfl rfl ?_
        refine e_getr 3 (dec_at dX1_addTo 25) flX1_42 rfl rfl ?_
        refine e_iconst (dec_at dX1_addTo 26) ?_
        refine e_aload_n 0 (dec_at dX1_addTo 27) rfl rfl ?_
        refine e_getr 1 (dec_at dX1_addTo 28) flX1_15 rfl rfl ?_
        refine e_iload_n 3 (dec_at dX1_addTo 29) rfl rfl ?_
        refine e_ialdv (μ 9 0 m) (dec_at dX1_addTo 30) rfl (by decide) (aLk_9 _) (by omega) (by rw [mset_k (by decide), fr 9 0 m (by omega)]) (fun r52 => ?_)
        refine e_imul (dec_at dX1_addTo 31) ?_
        refine e_iload (dec_at dX1_addTo 32) rfl ?_
        refine e_iadd (dec_at dX1_addTo 33) ?_
        refine e_dup2 (dec_at dX1_addTo 34) rfl rfl ?_
        refine e_ialdv (μ 12 l (3 * μ 9 0 m + (0 + 1))) (dec_at dX1_addTo 35) rfl (by decide) (aLk_12 _) (by omega) (by rw [mset_i (by omega)]; exact (hi (μ 9 0 m) (0 + 1) hb.1 hb.2 (by decide) (by decide)).2 hnm) (fun r58 => ?_)
        refine e_aload_n 0 (dec_at dX1_addTo 36) rfl rfl ?_
        refine e_getr 2 (dec_at dX1_addTo 37) flX1_18 rfl rfl ?_
        refine e_iconst (dec_at dX1_addTo 38) ?_
        refine e_iload_n 3 (dec_at dX1_addTo 39) rfl rfl ?_
        refine e_imul (dec_at dX1_addTo 40) ?_
        refine e_iload (dec_at dX1_addTo 41) rfl ?_
        refine e_iadd (dec_at dX1_addTo 42) ?_
        refine e_ialdv (μ 10 0 (3 * m + (0 + 1))) (dec_at dX1_addTo 43) rfl (by decide) (aLk_10 _) (by omega) (by rw [mset_k (by decide), fr 10 0 _ (by omega)]) (fun r69 => ?_)
        refine e_iadd (dec_at dX1_addTo 44) ?_
        refine e_iast (dec_at dX1_addTo 45) rfl (by decide) (aLk_12 _) (by omega) (by omega) ?_
        refine e_ii4 (dec_at dX1_addTo 46) (by decide) rfl ?_
        refine e_goto 36 (dec_at dX1_addTo 47) (by decide) ?_
        refine e_iload (dec_at dX1_addTo 21) rfl ?_
        refine e_iconst (dec_at dX1_addTo 22) ?_
        refine e_icmp_ge 78 (dec_at dX1_addTo 23) (by decide) (by decide) (by decide) (fun h => absurd h (by decide)) (fun _ => ?_)
        refine e_aload_n 1 (dec_at dX1_addTo 24) rfl rfl ?_
        refine e_getr 3 (dec_at dX1_addTo 25) flX1_42 rfl rfl ?_
        refine e_iconst (dec_at dX1_addTo 26) ?_
        refine e_aload_n 0 (dec_at dX1_addTo 27) rfl rfl ?_
        refine e_getr 1 (dec_at dX1_addTo 28) flX1_15 rfl rfl ?_
        refine e_iload_n 3 (dec_at dX1_addTo 29) rfl rfl ?_
        refine e_ialdv (μ 9 0 m) (dec_at dX1_addTo 30) rfl (by decide) (aLk_9 _) (by omega) (by rw [mset_k (by decide), mset_k (by decide), fr 9 0 m (by omega)]) (fun r52 => ?_)
        refine e_imul (dec_at dX1_addTo 31) ?_
        refine e_iload (dec_at dX1_addTo 32) rfl ?_
        refine e_iadd (dec_at dX1_addTo 33) ?_
        refine e_dup2 (dec_at dX1_addTo 34) rfl rfl ?_
        refine e_ialdv (μ 12 l (3 * μ 9 0 m + (0 + 1 + 1))) (dec_at dX1_addTo 35) rfl (by decide) (aLk_12 _) (by omega) (by rw [mset_i (by omega), mset_i (by omega)]; exact (hi (μ 9 0 m) (0 + 1 + 1) hb.1 hb.2 (by decide) (by decide)).2 hnm) (fun r58 => ?_)
        refine e_aload_n 0 (dec_at dX1_addTo 36) rfl rfl ?_
        refine e_getr 2 (dec_at dX1_addTo 37) flX1_18 rfl rfl ?_
        refine e_iconst (dec_at dX1_addTo 38) ?_
        refine e_iload_n 3 (dec_at dX1_addTo 39) rfl rfl ?_
        refine e_imul (dec_at dX1_addTo 40) ?_
        refine e_iload (dec_at dX1_addTo 41) rfl ?_
        refine e_iadd (dec_at dX1_addTo 42) ?_
        refine e_ialdv (μ 10 0 (3 * m + (0 + 1 + 1))) (dec_at dX1_addTo 43) rfl (by decide) (aLk_10 _) (by omega) (by rw [mset_k (by decide), mset_k (by decide), fr 10 0 _ (by omega)]) (fun r69 => ?_)
        refine e_iadd (dec_at dX1_addTo 44) ?_
        refine e_iast (dec_at dX1_addTo 45) rfl (by decide) (aLk_12 _) (by omega) (by omega) ?_
        refine e_ii4 (dec_at dX1_addTo 46) (by decide) rfl ?_
        refine e_goto 36 (dec_at dX1_addTo 47) (by decide) ?_
        refine e_iload (dec_at dX1_addTo 21) rfl ?_
        refine e_iconst (dec_at dX1_addTo 22) ?_
        refine e_icmp_ge 78 (dec_at dX1_addTo 23) (by decide) (by decide) (by decide) (fun _ => ?_) (fun h => absurd h (by decide))
        refine e_ii3 (dec_at dX1_addTo 48) (by decide) rfl ?_
        refine e_goto 2 (dec_at dX1_addTo 49) (by decide) ?_
        refine e_le [some (vR 7 0), some (vR 11 l), some (vI l), some (vI (m + 1)), none] (by simp [leL]) (ih _ (by omega) (m + 1) _ rfl (by omega) (by omega) (fr_set (fr_set (fr_set fr ⟨rfl, rfl⟩) ⟨rfl, rfl⟩) ⟨rfl, rfl⟩) (fun c a c0 c1 a0 a1 => ?_))
        have z := hi c a c0 c1 a0 a1
        by_cases q : c = μ 9 0 m
        · subst q
          refine ⟨fun i i0 i1 e1 e2 => ?_, fun hno => absurd ⟨by omega, rfl⟩ (hno m h0 (by omega))⟩
          obtain rfl : i = m := HM.uq h (L := l) (c := μ 9 0 m) ⟨by omega, e1, e2⟩ ⟨by omega, by omega, rfl⟩
          rcases (show a = 0 ∨ a = 1 ∨ a = 2 by omega) with rfl | rfl | rfl
          · rw [mset_i (by omega), mset_i (by omega)]
            exact mset_eq
          · rw [mset_i (by omega)]
            exact mset_eq
          · exact mset_eq
        · rw [mset_i (by omega), mset_i (by omega), mset_i (by omega)]
          refine ⟨fun i i0 i1 e1 e2 => ?_, fun hno => z.2 (fun i i0 i1 => hno i i0 (by omega))⟩
          by_cases w : i = m
          · subst w; exact absurd e2.symm q
          · exact z.1 i i0 (by omega) e1 e2

set_option maxRecDepth 100000 in
set_option maxHeartbeats 4000000 in
theorem c_addTo {μ : Mm} (l : Int) (h : Mv μ) (hC : 0 ≤ μ 11 l 0 ∧ μ 11 l 0 ≤ capC l) (hl : inR l) (hs : ∀ i, 0 ≤ i → i < 3 * μ 11 l 0 → -100000000 ≤ μ 12 l i ∧ μ 12 l i ≤ 100000000) : Mc mX1_addTo 1 [vR 7 0, vR 11 l, vI l] μ (fun r μ' => r = none ∧ (∀ k l1 i, ¬ (k = 12 ∧ l1 = l) → μ' k l1 i = μ k l1 i) ∧ ∀ c a, 0 ≤ c → c < μ 11 l 0 → 0 ≤ a → a < 3 → μ' 12 l (3 * c + a) = μ 12 l (3 * c + a) + mvx μ l c a) := by
  refine Mc.of (L := [some (vR 7 0), some (vR 11 l), some (vI l), none, none]) (by decide +kernel) (by simp [leL, entA, isLong, mX1_addTo]) (by simp [entA, isLong, mX1_addTo]) ?_
  have hm := h.1
  refine e_iconst (dec_at dX1_addTo 0) ?_
  refine e_is3 (dec_at dX1_addTo 1) (by decide) rfl ?_
  exact l_addTo h hC hl hs _ 0 μ rfl (by omega) (by omega) (fun _ _ _ _ => rfl) (fun c a _ _ _ _ => ⟨fun i i0 i1 => by omega, fun _ => rfl⟩)
