theorem cE_s {bk : Int → Int} {s : Int} (h0 : 0 ≤ s) : (fm bk s → cE bk (s + 1) = cE bk s + 1) ∧ (¬ fm bk s → cE bk (s + 1) = cE bk s) := by
  unfold cE
  rw [show (s + 1).toNat = s.toNat + 1 by omega]
  constructor
  · intro h
    rw [ct_t (by rw [Int.toNat_of_nonneg h0]; exact h)]
    omega
  · intro h
    rw [ct_f (by rw [Int.toNat_of_nonneg h0]; exact h)]
/-- the edge of a step, by its step back -/
noncomputable def eoF (bk : Int → Int) (s : Int) : Int := if bk s < s then cE bk (bk s) else cE bk s
theorem fr_set {P : Nat → Int → Int → Prop} {μ ν : Mm} {k0 : Nat} {l0 i0 v : Int} (h : ∀ k l i, ¬ P k l i → ν k l i = μ k l i) (hp : P k0 l0 i0) : ∀ k l i, ¬ P k l i → mset ν k0 l0 i0 v k l i = μ k l i := by
  intro k l i hn
  rw [mset_ne (fun q => hn (by rw [q.1, q.2.1, q.2.2]; exact hp))]
  exact h k l i hn

set_option maxRecDepth 100000 in
set_option maxHeartbeats 4000000 in
theorem l_numberEdges {μ : Mm} {l : Int} (hP : 0 ≤ μ 11 l 1 ∧ μ 11 l 1 ≤ capP l) (hn : 0 ≤ μ 13 l (μ 11 l 1) ∧ μ 13 l (μ 11 l 1) ≤ 2 * capE l) (hb : ∀ s, 0 ≤ s → s < μ 13 l (μ 11 l 1) → (0 ≤ μ 16 l s ∧ μ 16 l s < μ 13 l (μ 11 l 1)) ∧ μ 16 l (μ 16 l s) = s ∧ μ 16 l s ≠ s) (hcap : cE (μ 16 l) (μ 13 l (μ 11 l 1)) ≤ capE l) : ∀ (q : Nat) (s : Int) (ν : Mm), (μ 13 l (μ 11 l 1) - s).toNat = q → 0 ≤ s → s ≤ μ 13 l (μ 11 l 1) → (∀ k l1 i, ¬ (l1 = l ∧ (k = 17 ∨ k = 18 ∨ k = 11 ∧ i = 2)) → ν k l1 i = μ k l1 i) → ν 11 l 2 = cE (μ 16 l) s → (∀ t, 0 ≤ t → t < s → ν 17 l t = eoF (μ 16 l) t) → (∀ t, 0 ≤ t → t < s → fm (μ 16 l) t → ν 18 l (cE (μ 16 l) t) = t) → Ev mX2_numberEdges 1 7 [some (vR 11 l), some (vI s)] [] ν (fun r μ' => r = none ∧ (∀ k l1 i, ¬ (l1 = l ∧ (k = 17 ∨ k = 18 ∨ k = 11 ∧ i = 2)) → μ' k l1 i = μ k l1 i) ∧ μ' 11 l 2 = cE (μ 16 l) (μ 13 l (μ 11 l 1)) ∧ (∀ t, 0 ≤ t → t < μ 13 l (μ 11 l 1) → μ' 17 l t = eoF (μ 16 l) t) ∧ (∀ t, 0 ≤ t → t < μ 13 l (μ 11 l 1) → fm (μ 16 l) t → μ' 18 l (cE (μ 16 l) t) = t)) := by
  intro q
  induction q using Nat.strongRecOn with
  | _ q ih =>
  intro s ν hq h0 h1 fr hE h6 h7
  have hCc := capC_in l
  have hCp := capP_in l
  have hCe := capE_in l
  refine e_iload_n 1 (dec_at dX2_numberEdges 5) rfl rfl ?_
  refine e_aload_n 0 (dec_at dX2_numberEdges 6) rfl rfl ?_
  refine e_callVr (M' := mX2_steps) (dec_at dX2_numberEdges 7) mlX2_53 ((c_steps (μ := ν) l (by rw [fr 11 l 1 (by omega)]; exact hP)).rt (r' := some (vI (μ 13 l (μ 11 l 1)))) (by rw [fr 11 l 1 (by omega), fr 13 l _ (by omega)]) rfl) oX2_steps iX2_steps rfl rfl rfl rfl (by decide) (by decide) (Nat.le_of_ble_eq_true rfl) ?_
  refine e_icmp_ge 81 (dec_at dX2_numberEdges 8) (by decide) (by omega) (by omega) (fun h12 => ?_) (fun h12 => ?_)
  · refine e_return (dec_at dX2_numberEdges 47) rfl ?_
    obtain rfl : s = μ 13 l (μ 11 l 1) := by omega
    exact ⟨rfl, fr, hE, h6, h7⟩
  · have hbs := hb s h0 (by omega)
    have hs1 := cE_s (bk := μ 16 l) h0
    refine e_aload_n 0 (dec_at dX2_numberEdges 9) rfl rfl ?_
    refine e_getr 7 (dec_at dX2_numberEdges 10) flX2_24 rfl rfl ?_
    refine e_iload_n 1 (dec_at dX2_numberEdges 11) rfl rfl ?_
    refine e_ialdv (μ 16 l s) (dec_at dX2_numberEdges 12) rfl (by decide) (aLk_16 _) (by omega) (by exact fr 16 l s (by omega)) (fun r20 => ?_)
    refine e_iload_n 1 (dec_at dX2_numberEdges 13) rfl rfl ?_
    refine e_icmp_ge 45 (dec_at dX2_numberEdges 14) (by decide) (by omega) (by omega) (fun h22 => ?_) (fun h22 => ?_)
    · have hfm : fm (μ 16 l) s := by unfold fm; omega
      have hlt := cE_lt (bk := μ 16 l) h0 (show s < μ 13 l (μ 11 l 1) by omega) hfm
      have hc0 := cE_0 (μ 16 l) s
      have hs2 := hs1.1 hfm
      refine e_aload_n 0 (dec_at dX2_numberEdges 27) rfl rfl ?_
      refine e_getr 8 (dec_at dX2_numberEdges 28) flX2_27 rfl rfl ?_
      refine e_iload_n 1 (dec_at dX2_numberEdges 29) rfl rfl ?_
      refine e_aload_n 0 (dec_at dX2_numberEdges 30) rfl rfl ?_
      refine e_getiv 2 2 (cE (μ 16 l) s) (dec_at dX2_numberEdges 31) flX2_61 rfl rfl rfl (by exact hE) (fun r51 => ?_)
      refine e_iast (dec_at dX2_numberEdges 32) rfl (by decide) (aLk_17 _) (by omega) (by omega) ?_
      refine e_aload_n 0 (dec_at dX2_numberEdges 33) rfl rfl ?_
      refine e_getr 9 (dec_at dX2_numberEdges 34) flX2_30 rfl rfl ?_
      refine e_aload_n 0 (dec_at dX2_numberEdges 35) rfl rfl ?_
      refine e_getiv 2 2 (cE (μ 16 l) s) (dec_at dX2_numberEdges 36) flX2_61 rfl rfl rfl (by rw [mset_k (by decide)]; exact hE) (fun r60 => ?_)
      refine e_iload_n 1 (dec_at dX2_numberEdges 37) rfl rfl ?_
      refine e_iast (dec_at dX2_numberEdges 38) rfl (by decide) (aLk_18 _) (by omega) (by omega) ?_
      refine e_aload_n 0 (dec_at dX2_numberEdges 39) rfl rfl ?_
      refine e_dup (dec_at dX2_numberEdges 40) rfl ?_
      refine e_getiv 2 2 (cE (μ 16 l) s) (dec_at dX2_numberEdges 41) flX2_61 rfl rfl rfl (by rw [mset_k (by decide), mset_k (by decide)]; exact hE) (fun r67 => ?_)
      refine e_iconst (dec_at dX2_numberEdges 42) ?_
      refine e_iadd (dec_at dX2_numberEdges 43) ?_
      refine e_put 2 2 (dec_at dX2_numberEdges 44) flX2_61 fpX2_2 rfl rfl rfl (by omega) (fit_int _) ?_
      refine e_ii1 (dec_at dX2_numberEdges 45) (by decide) rfl ?_
      refine e_goto 7 (dec_at dX2_numberEdges 46) (by decide) ?_
      first
      | refine ih _ (by omega) (s + 1) _ rfl (by omega) (by omega) (fr_set fr (by omega)) (by rw [mset_k (by decide), hE, hs2]) (fun t a b => ?_) (fun t a b c => ?_)
        · by_cases q : t = s
          · subst q; rw [mset_eq]; unfold eoF; rw [if_pos (by omega)]
          · rw [mset_i q]; exact h6 t a (by omega)
        · by_cases q : t = s
          · subst q; exact absurd c hfm
          · rw [mset_k (by decide)]; exact h7 t a (by omega) c
      | refine ih _ (by omega) (s + 1) _ rfl (by omega) (by omega) (fr_set (fr_set (fr_set fr (by omega)) (by omega)) (by omega)) (by rw [mset_eq, hs2]) (fun t a b => ?_) (fun t a b c => ?_)
        · rw [mset_k (by decide), mset_k (by decide)]
          by_cases q : t = s
          · subst q; rw [mset_eq]; unfold eoF; rw [if_neg (by omega)]
          · rw [mset_i q]; exact h6 t a (by omega)
        · rw [mset_k (by decide)]
          by_cases q : t = s
          · subst q; rw [mset_eq]
          · rw [mset_i (fun z => q (cE_inj a h0 c hfm z)), mset_k (by decide)]
            exact h7 t a (by omega) c
    · have hfm : ¬ fm (μ 16 l) s := by unfold fm; omega
      have hs2 := hs1.2 hfm
      refine e_aload_n 0 (dec_at dX2_numberEdges 15) rfl rfl ?_
      refine e_getr 8 (dec_at dX2_numberEdges 16) flX2_27 rfl rfl ?_
      refine e_iload_n 1 (dec_at dX2_numberEdges 17) rfl rfl ?_
      refine e_aload_n 0 (dec_at dX2_numberEdges 18) rfl rfl ?_
      refine e_getr 8 (dec_at dX2_numberEdges 19) flX2_27 rfl rfl ?_
      refine e_aload_n 0 (dec_at dX2_numberEdges 20) rfl rfl ?_
      refine e_getr 7 (dec_at dX2_numberEdges 21) flX2_24 rfl rfl ?_
      refine e_iload_n 1 (dec_at dX2_numberEdges 22) rfl rfl ?_
      refine e_ialdv (μ 16 l s) (dec_at dX2_numberEdges 23) rfl (by decide) (aLk_16 _) (by omega) (by exact fr 16 l s (by omega)) (fun r39 => ?_)
      refine e_ialdv (cE (μ 16 l) (μ 16 l s)) (dec_at dX2_numberEdges 24) rfl (by decide) (aLk_17 _) (by omega) (by rw [h6 _ hbs.1.1 (by omega)]; unfold eoF; rw [if_neg (by omega)]) (fun r40 => ?_)
      refine e_iast (dec_at dX2_numberEdges 25) rfl (by decide) (aLk_17 _) (by omega) (by omega) ?_
      refine e_goto 75 (dec_at dX2_numberEdges 26) (by decide) ?_
      refine e_ii1 (dec_at dX2_numberEdges 45) (by decide) rfl ?_
      refine e_goto 7 (dec_at dX2_numberEdges 46) (by decide) ?_
      first
      | refine ih _ (by omega) (s + 1) _ rfl (by omega) (by omega) (fr_set fr (by omega)) (by rw [mset_k (by decide), hE, hs2]) (fun t a b => ?_) (fun t a b c => ?_)
        · by_cases q : t = s
          · subst q; rw [mset_eq]; unfold eoF; rw [if_pos (by omega)]
          · rw [mset_i q]; exact h6 t a (by omega)
        · by_cases q : t = s
          · subst q; exact absurd c hfm
          · rw [mset_k (by decide)]; exact h7 t a (by omega) c
      | refine ih _ (by omega) (s + 1) _ rfl (by omega) (by omega) (fr_set (fr_set (fr_set fr (by omega)) (by omega)) (by omega)) (by rw [mset_eq, hs2]) (fun t a b => ?_) (fun t a b c => ?_)
        · rw [mset_k (by decide), mset_k (by decide)]
          by_cases q : t = s
          · subst q; rw [mset_eq]; unfold eoF; rw [if_neg (by omega)]
          · rw [mset_i q]; exact h6 t a (by omega)
        · rw [mset_k (by decide)]
          by_cases q : t = s
          · subst q; rw [mset_eq]
          · rw [mset_i (fun z => q (cE_inj a h0 c hfm z)), mset_k (by decide)]
            exact h7 t a (by omega) c

set_option maxRecDepth 100000 in
set_option maxHeartbeats 4000000 in
theorem c_numberEdges {μ : Mm} (l : Int) (hP : 0 ≤ μ 11 l 1 ∧ μ 11 l 1 ≤ capP l) (hn : 0 ≤ μ 13 l (μ 11 l 1) ∧ μ 13 l (μ 11 l 1) ≤ 2 * capE l) (hb : ∀ s, 0 ≤ s → s < μ 13 l (μ 11 l 1) → (0 ≤ μ 16 l s ∧ μ 16 l s < μ 13 l (μ 11 l 1)) ∧ μ 16 l (μ 16 l s) = s ∧ μ 16 l s ≠ s) (hcap : cE (μ 16 l) (μ 13 l (μ 11 l 1)) ≤ capE l) : Mc mX2_numberEdges 1 [vR 11 l] μ (fun r μ' => r = none ∧ (∀ k l1 i, ¬ (l1 = l ∧ (k = 17 ∨ k = 18 ∨ k = 11 ∧ i = 2)) → μ' k l1 i = μ k l1 i) ∧ μ' 11 l 2 = cE (μ 16 l) (μ 13 l (μ 11 l 1)) ∧ (∀ t, 0 ≤ t → t < μ 13 l (μ 11 l 1) → μ' 17 l t = eoF (μ 16 l) t) ∧ (∀ t, 0 ≤ t → t < μ 13 l (μ 11 l 1) → fm (μ 16 l) t → μ' 18 l (cE (μ 16 l) t) = t)) := by
  refine Mc.of (L := [some (vR 11 l), none]) (by decide +kernel) (by simp [leL, entA, isLong, mX2_numberEdges]) (by simp [entA, isLong, mX2_numberEdges]) ?_
  have hCc := capC_in l
  have hCp := capP_in l
  have hCe := capE_in l
  refine e_aload_n 0 (dec_at dX2_numberEdges 0) rfl rfl ?_
  refine e_iconst (dec_at dX2_numberEdges 1) ?_
  refine e_put 2 2 (dec_at dX2_numberEdges 2) flX2_61 fpX2_2 rfl rfl rfl (by omega) (fit_int _) ?_
  refine e_iconst (dec_at dX2_numberEdges 3) ?_
  refine e_is1 (dec_at dX2_numberEdges 4) (by decide) rfl ?_
  refine l_numberEdges hP hn hb hcap _ 0 _ rfl (by omega) (by omega) (fr_set (fun _ _ _ _ => rfl) (by omega)) (by rw [mset_eq]; rfl) (fun t a b => by omega) (fun t a b => by omega)
