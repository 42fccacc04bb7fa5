/-- a net in the memory -/
def Nt (μ : Mm) (l : Int) : Net := fun j i => μ (11 + j) l i
theorem NB1.fr {μ ν : Mm} {l : Int} (h : NB1 μ l) (f : ∀ k i, ν k l i = μ k l i) : NB1 ν l := by
  have e : ∀ k, ν k l = μ k l := fun k => funext (f k)
  unfold NB1 at h ⊢
  rw [e 11, e 13, e 14, e 15]
  exact h
theorem NB2.fr {μ ν : Mm} {l : Int} (h : NB2 μ l) (f : ∀ k i, ν k l i = μ k l i) : NB2 ν l := by
  have e : ∀ k, ν k l = μ k l := fun k => funext (f k)
  unfold NB2 at h ⊢
  rw [e 11, e 13, e 18]
  exact h
/-- a good net's numbers name something, where it fits -/
theorem Good.nb {μ : Mm} {l : Int} (h : Good (Nt μ l)) (hC : μ 11 l 0 ≤ capC l) (hP : μ 11 l 1 ≤ capP l) (hn : μ 13 l (μ 11 l 1) ≤ 2 * capE l) (hE : μ 11 l 2 ≤ capE l) : NB1 μ l ∧ NB2 μ l := by
  have g := h.1.2.1
  refine ⟨⟨⟨h.1.1, hC⟩, ⟨g.1, hP⟩, ⟨g.n0, hn⟩, fun f h0 h1 => ?_, fun s h0 h1 => ⟨(h.1.b1 h0 h1).1, g.2.2.2 s h0 h1⟩⟩, ⟨⟨?_, hE⟩, fun e h0 h1 => (h.mt h0 h1).1⟩⟩
  · have a := g.2.2.1 f h0 h1
    have b := g.le (f := f) h0 (Int.le_of_lt h1)
    have c := g.le (f := f + 1) (by omega) h1
    have a : μ 13 l f + 3 ≤ μ 13 l (f + 1) := a
    have b : 0 ≤ μ 13 l f ∧ _ := b
    have c : 0 ≤ μ 13 l (f + 1) ∧ μ 13 l (f + 1) ≤ μ 13 l (μ 11 l 1) := c
    exact ⟨b.1, by omega, c.2⟩
  · have := cE_0 (μ 16 l) (nN (Nt μ l))
    have e : μ 11 l 2 = cE (μ 16 l) (nN (Nt μ l)) := h.2.1.1
    rw [e]; exact this

set_option maxRecDepth 100000 in
set_option maxHeartbeats 4000000 in
theorem l_shrink2 {μ : Mm} {l : Int} (hP : 0 ≤ μ 11 l 1 ∧ μ 11 l 1 ≤ capP l) (hP1 : μ 11 l 1 ≤ capP (l + 1)) (hn : 0 ≤ μ 13 l (μ 11 l 1) ∧ μ 13 l (μ 11 l 1) ≤ 2 * capE l) (hn1 : μ 13 l (μ 11 l 1) ≤ 2 * capE (l + 1)) : ∀ (q : Nat) (s : Int) (ν : Mm), (μ 13 l (μ 11 l 1) - s).toNat = q → 0 ≤ s → s ≤ μ 13 l (μ 11 l 1) → (∀ k l1 i, ¬ (l1 = l + 1 ∧ (k = 11 ∧ i = 1 ∨ k = 13 ∨ k = 14 ∨ k = 15)) → ν k l1 i = μ k l1 i) → ν 11 (l + 1) 1 = μ 11 l 1 → (∀ j, 0 ≤ j → j < μ 11 l 1 + 1 → ν 13 (l + 1) j = μ 13 l j) → (∀ j, 0 ≤ j → j < s → ν 14 (l + 1) j = μ 17 l j ∧ ν 15 (l + 1) j = μ 15 l j) → Ev mX2_shrinkPlates 1 38 [some (vR 11 (l + 1)), some (vR 11 l), some (vI s)] [] ν (fun r μ' => r = none ∧ (∀ k l1 i, ¬ (l1 = l + 1 ∧ (k = 11 ∧ i = 1 ∨ k = 13 ∨ k = 14 ∨ k = 15)) → μ' k l1 i = μ k l1 i) ∧ μ' 11 (l + 1) 1 = μ 11 l 1 ∧ (∀ j, 0 ≤ j → j < μ 11 l 1 + 1 → μ' 13 (l + 1) j = μ 13 l j) ∧ (∀ j, 0 ≤ j → j < μ 13 l (μ 11 l 1) → μ' 14 (l + 1) j = μ 17 l j ∧ μ' 15 (l + 1) j = μ 15 l j)) := by
  intro q
  induction q using Nat.strongRecOn with
  | _ q ih =>
  intro s ν hq h0 h1 fr hp h13 h14
  have hCc := capC_in l
  have hCp := capP_in l
  have hCe := capE_in l
  have hCc1 := capC_in (l + 1)
  have hCp1 := capP_in (l + 1)
  have hCe1 := capE_in (l + 1)
  refine e_iload_n 2 (dec_at dX2_shrinkPlates 22) rfl rfl ?_
  refine e_aload_n 0 (dec_at dX2_shrinkPlates 23) rfl rfl ?_
  refine e_callVr (M' := mX2_steps) (dec_at dX2_shrinkPlates 24) mlX2_53 ((c_steps (μ := ν) (l + 1) (by omega)).rt (r' := some (vI (μ 13 l (μ 11 l 1)))) (by rw [hp, h13 _ hP.1 (by omega)]) rfl) oX2_steps iX2_steps rfl rfl rfl rfl (by decide) (by decide) (Nat.le_of_ble_eq_true rfl) ?_
  refine e_icmp_ge 76 (dec_at dX2_shrinkPlates 25) (by decide) (by omega) (by omega) (fun h43 => ?_) (fun h43 => ?_)
  · refine e_return (dec_at dX2_shrinkPlates 44) rfl ?_
    obtain rfl : s = μ 13 l (μ 11 l 1) := by omega
    exact ⟨rfl, fr, hp, h13, h14⟩
  · refine e_aload_n 0 (dec_at dX2_shrinkPlates 26) rfl rfl ?_
    refine e_getr 5 (dec_at dX2_shrinkPlates 27) flX2_18 rfl rfl ?_
    refine e_iload_n 2 (dec_at dX2_shrinkPlates 28) rfl rfl ?_
    refine e_aload_n 1 (dec_at dX2_shrinkPlates 29) rfl rfl ?_
    refine e_getr 8 (dec_at dX2_shrinkPlates 30) flX2_27 rfl rfl ?_
    refine e_iload_n 2 (dec_at dX2_shrinkPlates 31) rfl rfl ?_
    refine e_ialdv (μ 17 l s) (dec_at dX2_shrinkPlates 32) rfl (by decide) (aLk_17 _) (by omega) (by exact fr 17 l s (by omega)) (fun r56 => ?_)
    refine e_iast (dec_at dX2_shrinkPlates 33) rfl (by decide) (aLk_14 _) (by omega) (by omega) ?_
    refine e_aload_n 0 (dec_at dX2_shrinkPlates 34) rfl rfl ?_
    refine e_getr 6 (dec_at dX2_shrinkPlates 35) flX2_21 rfl rfl ?_
    refine e_iload_n 2 (dec_at dX2_shrinkPlates 36) rfl rfl ?_
    refine e_aload_n 1 (dec_at dX2_shrinkPlates 37) rfl rfl ?_
    refine e_getr 6 (dec_at dX2_shrinkPlates 38) flX2_21 rfl rfl ?_
    refine e_iload_n 2 (dec_at dX2_shrinkPlates 39) rfl rfl ?_
    refine e_ialdv (μ 15 l s) (dec_at dX2_shrinkPlates 40) rfl (by decide) (aLk_15 _) (by omega) (by rw [mset_l (by omega)]; exact fr 15 l s (by omega)) (fun r68 => ?_)
    refine e_iast (dec_at dX2_shrinkPlates 41) rfl (by decide) (aLk_15 _) (by omega) (by omega) ?_
    refine e_ii2 (dec_at dX2_shrinkPlates 42) (by decide) rfl ?_
    refine e_goto 38 (dec_at dX2_shrinkPlates 43) (by decide) ?_
    refine ih _ (by omega) (s + 1) _ rfl (by omega) (by omega) (fr_set (fr_set fr (by omega)) (by omega)) (by rw [mset_k (by decide), mset_k (by decide)]; exact hp) (fun j a b => by rw [mset_k (by decide), mset_k (by decide)]; exact h13 j a b) (fun j a b => ?_)
    by_cases q : j = s
    · subst q; rw [mset_k (by decide), mset_eq, mset_eq]; exact ⟨rfl, rfl⟩
    · rw [mset_k (by decide), mset_i q, mset_i q, mset_k (by decide)]; exact h14 j a (by omega)

set_option maxRecDepth 100000 in
set_option maxHeartbeats 4000000 in
theorem l_shrink1 {μ : Mm} {l : Int} (hP : 0 ≤ μ 11 l 1 ∧ μ 11 l 1 ≤ capP l) (hP1 : μ 11 l 1 ≤ capP (l + 1)) (hn : 0 ≤ μ 13 l (μ 11 l 1) ∧ μ 13 l (μ 11 l 1) ≤ 2 * capE l) (hn1 : μ 13 l (μ 11 l 1) ≤ 2 * capE (l + 1)) : ∀ (q : Nat) (f : Int) (ν : Mm), (μ 11 l 1 + 1 - f).toNat = q → 0 ≤ f → f ≤ μ 11 l 1 + 1 → (∀ k l1 i, ¬ (l1 = l + 1 ∧ (k = 11 ∧ i = 1 ∨ k = 13 ∨ k = 14 ∨ k = 15)) → ν k l1 i = μ k l1 i) → ν 11 (l + 1) 1 = μ 11 l 1 → (∀ j, 0 ≤ j → j < f → ν 13 (l + 1) j = μ 13 l j) → Ev mX2_shrinkPlates 1 10 [some (vR 11 (l + 1)), some (vR 11 l), some (vI f)] [] ν (fun r μ' => r = none ∧ (∀ k l1 i, ¬ (l1 = l + 1 ∧ (k = 11 ∧ i = 1 ∨ k = 13 ∨ k = 14 ∨ k = 15)) → μ' k l1 i = μ k l1 i) ∧ μ' 11 (l + 1) 1 = μ 11 l 1 ∧ (∀ j, 0 ≤ j → j < μ 11 l 1 + 1 → μ' 13 (l + 1) j = μ 13 l j) ∧ (∀ j, 0 ≤ j → j < μ 13 l (μ 11 l 1) → μ' 14 (l + 1) j = μ 17 l j ∧ μ' 15 (l + 1) j = μ 15 l j)) := by
  intro q
  induction q using Nat.strongRecOn with
  | _ q ih =>
  intro f ν hq h0 h1 fr hp h13
  have hCc := capC_in l
  have hCp := capP_in l
  have hCe := capE_in l
  have hCc1 := capC_in (l + 1)
  have hCp1 := capP_in (l + 1)
  have hCe1 := capE_in (l + 1)
  refine e_iload_n 2 (dec_at dX2_shrinkPlates 6) rfl rfl ?_
  refine e_aload_n 0 (dec_at dX2_shrinkPlates 7) rfl rfl ?_
  refine e_getiv 1 1 (μ 11 l 1) (dec_at dX2_shrinkPlates 8) flX2_43 rfl rfl rfl (by exact hp) (fun r12 => ?_)
  refine e_icmp_gt 36 (dec_at dX2_shrinkPlates 9) (by decide) (by omega) (by omega) (fun h15 => ?_) (fun h15 => ?_)
  · refine e_iconst (dec_at dX2_shrinkPlates 20) ?_
    refine e_is2 (dec_at dX2_shrinkPlates 21) (by decide) rfl ?_
    refine l_shrink2 hP hP1 hn hn1 _ 0 ν rfl (by omega) (by omega) fr hp (fun j a b => h13 j a (by omega)) (fun j a b => by omega)
  · refine e_aload_n 0 (dec_at dX2_shrinkPlates 10) rfl rfl ?_
    refine e_getr 4 (dec_at dX2_shrinkPlates 11) flX2_15 rfl rfl ?_
    refine e_iload_n 2 (dec_at dX2_shrinkPlates 12) rfl rfl ?_
    refine e_aload_n 1 (dec_at dX2_shrinkPlates 13) rfl rfl ?_
    refine e_getr 4 (dec_at dX2_shrinkPlates 14) flX2_15 rfl rfl ?_
    refine e_iload_n 2 (dec_at dX2_shrinkPlates 15) rfl rfl ?_
    refine e_ialdv (μ 13 l f) (dec_at dX2_shrinkPlates 16) rfl (by decide) (aLk_13 _) (by omega) (by exact fr 13 l f (by omega)) (fun r28 => ?_)
    refine e_iast (dec_at dX2_shrinkPlates 17) rfl (by decide) (aLk_13 _) (by omega) (by omega) ?_
    refine e_ii2 (dec_at dX2_shrinkPlates 18) (by decide) rfl ?_
    refine e_goto 10 (dec_at dX2_shrinkPlates 19) (by decide) ?_
    refine ih _ (by omega) (f + 1) _ rfl (by omega) (by omega) (fr_set fr (by omega)) (by rw [mset_k (by decide)]; exact hp) (fun j a b => ?_)
    by_cases q : j = f
    · subst q; rw [mset_eq]
    · rw [mset_i q]; exact h13 j a (by omega)

set_option maxRecDepth 100000 in
set_option maxHeartbeats 4000000 in
theorem c_shrinkPlates {μ : Mm} (l : Int) (hP : 0 ≤ μ 11 l 1 ∧ μ 11 l 1 ≤ capP l) (hP1 : μ 11 l 1 ≤ capP (l + 1)) (hn : 0 ≤ μ 13 l (μ 11 l 1) ∧ μ 13 l (μ 11 l 1) ≤ 2 * capE l) (hn1 : μ 13 l (μ 11 l 1) ≤ 2 * capE (l + 1)) : Mc mX2_shrinkPlates 1 [vR 11 (l + 1), vR 11 l] μ (fun r μ' => r = none ∧ (∀ k l1 i, ¬ (l1 = l + 1 ∧ (k = 11 ∧ i = 1 ∨ k = 13 ∨ k = 14 ∨ k = 15)) → μ' k l1 i = μ k l1 i) ∧ μ' 11 (l + 1) 1 = μ 11 l 1 ∧ (∀ j, 0 ≤ j → j < μ 11 l 1 + 1 → μ' 13 (l + 1) j = μ 13 l j) ∧ (∀ j, 0 ≤ j → j < μ 13 l (μ 11 l 1) → μ' 14 (l + 1) j = μ 17 l j ∧ μ' 15 (l + 1) j = μ 15 l j)) := by
  refine Mc.of (L := [some (vR 11 (l + 1)), some (vR 11 l), none]) (by decide +kernel) (by simp [leL, entA, isLong, mX2_shrinkPlates]) (by simp [entA, isLong, mX2_shrinkPlates]) ?_
  have hCc := capC_in l
  have hCp := capP_in l
  have hCe := capE_in l
  have hCc1 := capC_in (l + 1)
  have hCp1 := capP_in (l + 1)
  have hCe1 := capE_in (l + 1)
  refine e_aload_n 0 (dec_at dX2_shrinkPlates 0) rfl rfl ?_
  refine e_aload_n 1 (dec_at dX2_shrinkPlates 1) rfl rfl ?_
  refine e_geti 1 1 (dec_at dX2_shrinkPlates 2) flX2_43 rfl rfl rfl (fun r2 => ?_)
  refine e_put 1 1 (dec_at dX2_shrinkPlates 3) flX2_43 fpX2_1 rfl rfl rfl (by omega) (fit_int _) ?_
  refine e_iconst (dec_at dX2_shrinkPlates 4) ?_
  refine e_is2 (dec_at dX2_shrinkPlates 5) (by decide) rfl ?_
  exact l_shrink1 hP hP1 hn hn1 _ 0 _ rfl (by omega) (by omega) (fr_set (fun _ _ _ _ => rfl) (by omega)) mset_eq (fun j a b => by omega)

set_option maxRecDepth 100000 in
set_option maxHeartbeats 4000000 in
theorem c_closePlate {μ : Mm} (l e : Int) (hP : 0 ≤ μ 11 l 1 ∧ μ 11 l 1 < capP l) (he : inR e) : Mc mX2_closePlate 0 [vR 11 l, vI e] μ (Rt none (mset (mset μ 11 l 1 (μ 11 l 1 + 1)) 13 l (μ 11 l 1 + 1) e)) := by
  refine Mc.of (L := [some (vR 11 l), some (vI e)]) (by decide +kernel) (by simp [leL, entA, isLong, mX2_closePlate]) (by simp [entA, isLong, mX2_closePlate]) ?_
  have hCc := capC_in l
  have hCp := capP_in l
  have hCe := capE_in l
  have hCc1 := capC_in (l + 1)
  have hCp1 := capP_in (l + 1)
  have hCe1 := capE_in (l + 1)
  refine e_aload_n 0 (dec_at dX2_closePlate 0) rfl rfl ?_
  refine e_dup (dec_at dX2_closePlate 1) rfl ?_
  refine e_geti 1 1 (dec_at dX2_closePlate 2) flX2_43 rfl rfl rfl (fun r2 => ?_)
  refine e_iconst (dec_at dX2_closePlate 3) ?_
  refine e_iadd (dec_at dX2_closePlate 4) ?_
  refine e_put 1 1 (dec_at dX2_closePlate 5) flX2_43 fpX2_1 rfl rfl rfl (by omega) (fit_int _) ?_
  refine e_aload_n 0 (dec_at dX2_closePlate 6) rfl rfl ?_
  refine e_getr 4 (dec_at dX2_closePlate 7) flX2_15 rfl rfl ?_
  refine e_aload_n 0 (dec_at dX2_closePlate 8) rfl rfl ?_
  refine e_getiv 1 1 (μ 11 l 1 + 1) (dec_at dX2_closePlate 9) flX2_43 rfl rfl rfl (by exact mset_eq) (fun r15 => ?_)
  refine e_iload_n 1 (dec_at dX2_closePlate 10) rfl rfl ?_
  refine e_iast (dec_at dX2_closePlate 11) rfl (by decide) (aLk_13 _) (by omega) (by omega) ?_
  refine e_return (dec_at dX2_closePlate 12) rfl ?_
  exact ⟨rfl, rfl⟩

set_option maxRecDepth 100000 in
set_option maxHeartbeats 4000000 in
theorem l_addCP {μ : Mm} {l c : Int} (hg : Good (Nt μ l)) (hC : μ 11 l 0 ≤ capC l) (hP : μ 11 l 1 ≤ capP l) (hn : μ 13 l (μ 11 l 1) ≤ 2 * capE l) (hE : μ 11 l 2 ≤ capE l) (hE1 : μ 11 l 2 ≤ capC (l + 1)) (hP1 : μ 11 l 1 + μ 11 l 0 ≤ capP (l + 1)) (hn1 : μ 13 l (μ 11 l 1) ≤ capE (l + 1)) (hc0 : 0 ≤ c) (hc1 : c < μ 11 l 0) (hp : μ 11 (l + 1) 1 = μ 11 l 1 + c) (hst : μ 13 (l + 1) (μ 11 l 1 + c) = st (Nt μ l) c) : ∀ (q : Nat) (k : Int) (ν : Mm), (st (Nt μ l) (c + 1) - st (Nt μ l) c - k).toNat = q → 0 ≤ k → st (Nt μ l) c + k ≤ st (Nt μ l) (c + 1) → (∀ k l1 i, ¬ (l1 = l + 1 ∧ (k = 11 ∧ i = 1 ∨ k = 13 ∧ i = μ 11 l 1 + c + 1 ∨ ((k = 14 ∨ k = 15) ∧ st (Nt μ l) c ≤ i ∧ i < st (Nt μ l) (c + 1)) ∨ k = 16)) → ν k l1 i = μ k l1 i) → (∀ i, ¬ (st (Nt μ l) c ≤ i ∧ i < st (Nt μ l) (c + 1)) → (∀ s, st (Nt μ l) c ≤ s → s < st (Nt μ l) (c + 1) → i ≠ pv (Nt μ l) (un (Nt μ l) s)) → ν 16 (l + 1) i = μ 16 (l + 1) i) → ν 11 (l + 1) 1 = μ 11 l 1 + c → ν 13 (l + 1) (μ 11 l 1 + c + 1) = μ 13 (l + 1) (μ 11 l 1 + c + 1) → (∀ s, st (Nt μ l) c ≤ s → s < st (Nt μ l) c + k → ν 14 (l + 1) s = μ 17 l (un (Nt μ l) s) ∧ ν 15 (l + 1) s = μ 11 l 1 + c ∧ ν 16 (l + 1) s = pv (Nt μ l) (un (Nt μ l) s) ∧ ν 16 (l + 1) (pv (Nt μ l) (un (Nt μ l) s)) = s) → Ev mX2_addCornerPlate 1 16 [some (vR 11 (l + 1)), some (vR 11 l), some (vI c), some (vI (st (Nt μ l) c)), some (vI (it (rho (Nt μ l)) k.toNat (μ 20 l c))), some (vI k), none] [] ν (fun r μ' => r = none ∧ (∀ k l1 i, ¬ (l1 = l + 1 ∧ (k = 11 ∧ i = 1 ∨ k = 13 ∧ i = μ 11 l 1 + c + 1 ∨ ((k = 14 ∨ k = 15) ∧ st (Nt μ l) c ≤ i ∧ i < st (Nt μ l) (c + 1)) ∨ k = 16)) → μ' k l1 i = μ k l1 i) ∧ (∀ i, ¬ (st (Nt μ l) c ≤ i ∧ i < st (Nt μ l) (c + 1)) → (∀ s, st (Nt μ l) c ≤ s → s < st (Nt μ l) (c + 1) → i ≠ pv (Nt μ l) (un (Nt μ l) s)) → μ' 16 (l + 1) i = μ 16 (l + 1) i) ∧ μ' 11 (l + 1) 1 = μ 11 l 1 + c + 1 ∧ μ' 13 (l + 1) (μ 11 l 1 + c + 1) = st (Nt μ l) (c + 1) ∧ (∀ s, st (Nt μ l) c ≤ s → s < st (Nt μ l) (c + 1) → μ' 14 (l + 1) s = μ 17 l (un (Nt μ l) s) ∧ μ' 15 (l + 1) s = μ 11 l 1 + c ∧ μ' 16 (l + 1) s = pv (Nt μ l) (un (Nt μ l) s) ∧ μ' 16 (l + 1) (pv (Nt μ l) (un (Nt μ l) s)) = s)) := by
  intro q
  induction q using Nat.strongRecOn with
  | _ q ih =>
  intro k ν hq h0 h1 fra frb hpn h13 hs
  have hCc := capC_in l
  have hCp := capP_in l
  have hCe := capE_in l
  have hCc1 := capC_in (l + 1)
  have hCp1 := capP_in (l + 1)
  have hCe1 := capE_in (l + 1)
  have nb := hg.nb hC hP hn hE
  have hP0 : 0 ≤ μ 11 l 1 := nb.1.2.1.1
  have hd := hg.door (c := c) hc0 hc1
  have hss := st_s hg.1 c
  have hm1 := st_mono hg.1 _ (c + 1) (μ 11 l 0) rfl (by omega)
  have hm0 := st_mono hg.1 _ 0 c rfl hc0
  have hsC : st (Nt μ l) (μ 11 l 0) = 2 * μ 13 l (μ 11 l 1) := st_C hg.1
  have hs0 : st (Nt μ l) 0 = μ 13 l (μ 11 l 1) := st_0 hg.1
  have hdg : μ 19 l c = (deg (Nt μ l) c : Int) := hd.2.2.2.1
  have hd1 : (0 ≤ μ 20 l c ∧ μ 20 l c < μ 13 l (μ 11 l 1)) := hd.1
  refine e_iload (dec_at dX2_addCornerPlate 10) rfl ?_
  refine e_aload_n 1 (dec_at dX2_addCornerPlate 11) rfl rfl ?_
  refine e_getr 10 (dec_at dX2_addCornerPlate 12) flX2_33 rfl rfl ?_
  refine e_iload_n 2 (dec_at dX2_addCornerPlate 13) rfl rfl ?_
  refine e_ialdv ((deg (Nt μ l) c : Int)) (dec_at dX2_addCornerPlate 14) rfl (by decide) (aLk_19 _) (by omega) (by rw [fra 19 l c (by omega)]; exact hdg) (fun r23 => ?_)
  refine e_icmp_ge 101 (dec_at dX2_addCornerPlate 15) (by decide) (by omega) (by omega) (fun h24 => ?_) (fun h24 => ?_)
  · refine e_aload_n 0 (dec_at dX2_addCornerPlate 59) rfl rfl ?_
    refine e_iload_n 3 (dec_at dX2_addCornerPlate 60) rfl rfl ?_
    refine e_aload_n 1 (dec_at dX2_addCornerPlate 61) rfl rfl ?_
    refine e_getr 10 (dec_at dX2_addCornerPlate 62) flX2_33 rfl rfl ?_
    refine e_iload_n 2 (dec_at dX2_addCornerPlate 63) rfl rfl ?_
    refine e_ialdv ((deg (Nt μ l) c : Int)) (dec_at dX2_addCornerPlate 64) rfl (by decide) (aLk_19 _) (by omega) (by rw [fra 19 l c (by omega)]; exact hdg) (fun r108 => ?_)
    refine e_iadd (dec_at dX2_addCornerPlate 65) ?_
    refine e_callVv (M' := mX2_closePlate) (dec_at dX2_addCornerPlate 66) mlX2_57 (c_closePlate (μ := ν) (l + 1) _ (by omega) (by omega)) oX2_closePlate iX2_closePlate rfl rfl rfl rfl (by decide) (by decide) (Nat.le_of_ble_eq_true rfl) ?_
    refine e_return (dec_at dX2_addCornerPlate 67) rfl ?_
    have hkk : st (Nt μ l) c + k = st (Nt μ l) (c + 1) := by omega
    rw [hkk] at hs
    refine ⟨rfl, fun k1 l1 i z => ?_, fun i z w => ?_, ?_, ?_, fun s a b => ?_⟩
    · rw [hpn, mset_ne (by omega), mset_ne (by omega)]; exact fra k1 l1 i z
    · rw [mset_k (by decide), mset_k (by decide)]; exact frb i z w
    · rw [hpn, mset_k (by decide), mset_eq]
    · rw [hpn, mset_eq]; omega
    · rw [mset_k (by decide), mset_k (by decide), mset_k (by decide), mset_k (by decide), mset_k (by decide), mset_k (by decide), mset_k (by decide), mset_k (by decide)]; exact hs s a b
  · have hor := hg.1.itr hd1.1 hd1.2 k.toNat
    have hor1 : 0 ≤ it (rho (Nt μ l)) k.toNat (μ 20 l c) ∧ it (rho (Nt μ l)) k.toNat (μ 20 l c) < μ 13 l (μ 11 l 1) := hor.1
    have hpv := hg.1.2.1.pvr hor.1.1 hor.1.2
    have hpv1 : 0 ≤ pv (Nt μ l) (it (rho (Nt μ l)) k.toNat (μ 20 l c)) ∧ pv (Nt μ l) (it (rho (Nt μ l)) k.toNat (μ 20 l c)) < μ 13 l (μ 11 l 1) := hpv.1
    have hbp := hg.1.b1 hpv.1.1 hpv.1.2
    have hun := (un_at hg hc0 hc1 (k := k.toNat) (by omega)).2.2
    rw [Int.toNat_of_nonneg h0] at hun
    have hun2 : it (rho (Nt μ l)) k.toNat (μ 20 l c) = un (Nt μ l) (st (Nt μ l) c + k) := hun.symm
    refine e_aload_n 1 (dec_at dX2_addCornerPlate 16) rfl rfl ?_
    refine e_iload (dec_at dX2_addCornerPlate 17) rfl ?_
    refine e_callVr (M' := mX2_stepBefore) (dec_at dX2_addCornerPlate 18) mlX2_78 ((c_stepBefore (μ := ν) l (it (rho (Nt μ l)) k.toNat (μ 20 l c)) (nb.1.fr (fun k i => fra k l i (by omega))) hor.1.1 (by rw [fra 11 l 1 (by omega), fra 13 l _ (by omega)]; exact hor.1.2)).rt (r' := some (vI (pv (Nt μ l) (it (rho (Nt μ l)) k.toNat (μ 20 l c))))) (by rw [show ν 13 l = μ 13 l from funext (fun i => fra 13 l i (by omega)), show ν 15 l = μ 15 l from funext (fun i => fra 15 l i (by omega))]; rfl) rfl) oX2_stepBefore iX2_stepBefore rfl rfl rfl rfl (by decide) (by decide) (Nat.le_of_ble_eq_true rfl) ?_
    refine e_is6 (dec_at dX2_addCornerPlate 19) (by decide) rfl ?_
    refine e_aload_n 0 (dec_at dX2_addCornerPlate 20) rfl rfl ?_
    refine e_getr 5 (dec_at dX2_addCornerPlate 21) flX2_18 rfl rfl ?_
    refine e_iload_n 3 (dec_at dX2_addCornerPlate 22) rfl rfl ?_
    refine e_iload (dec_at dX2_addCornerPlate 23) rfl ?_
    refine e_iadd (dec_at dX2_addCornerPlate 24) ?_
    refine e_aload_n 1 (dec_at dX2_addCornerPlate 25) rfl rfl ?_
    refine e_getr 8 (dec_at dX2_addCornerPlate 26) flX2_27 rfl rfl ?_
    refine e_iload (dec_at dX2_addCornerPlate 27) rfl ?_
    refine e_ialdv (μ 17 l (it (rho (Nt μ l)) k.toNat (μ 20 l c))) (dec_at dX2_addCornerPlate 28) rfl (by decide) (aLk_17 _) (by omega) (by exact fra 17 l _ (by omega)) (fun r49 => ?_)
    refine e_iast (dec_at dX2_addCornerPlate 29) rfl (by decide) (aLk_14 _) (by omega) (by omega) ?_
    refine e_aload_n 0 (dec_at dX2_addCornerPlate 30) rfl rfl ?_
    refine e_getr 6 (dec_at dX2_addCornerPlate 31) flX2_21 rfl rfl ?_
    refine e_iload_n 3 (dec_at dX2_addCornerPlate 32) rfl rfl ?_
    refine e_iload (dec_at dX2_addCornerPlate 33) rfl ?_
    refine e_iadd (dec_at dX2_addCornerPlate 34) ?_
    refine e_aload_n 0 (dec_at dX2_addCornerPlate 35) rfl rfl ?_
    refine e_getiv 1 1 (μ 11 l 1 + c) (dec_at dX2_addCornerPlate 36) flX2_43 rfl rfl rfl (by rw [mset_k (by decide)]; exact hpn) (fun r60 => ?_)
    refine e_iast (dec_at dX2_addCornerPlate 37) rfl (by decide) (aLk_15 _) (by omega) (by omega) ?_
    refine e_aload_n 0 (dec_at dX2_addCornerPlate 38) rfl rfl ?_
    refine e_getr 7 (dec_at dX2_addCornerPlate 39) flX2_24 rfl rfl ?_
    refine e_iload_n 3 (dec_at dX2_addCornerPlate 40) rfl rfl ?_
    refine e_iload (dec_at dX2_addCornerPlate 41) rfl ?_
    refine e_iadd (dec_at dX2_addCornerPlate 42) ?_
    refine e_iload (dec_at dX2_addCornerPlate 43) rfl ?_
    refine e_iast (dec_at dX2_addCornerPlate 44) rfl (by decide) (aLk_16 _) (by omega) (by omega) ?_
    refine e_aload_n 0 (dec_at dX2_addCornerPlate 45) rfl rfl ?_
    refine e_getr 7 (dec_at dX2_addCornerPlate 46) flX2_24 rfl rfl ?_
    refine e_iload (dec_at dX2_addCornerPlate 47) rfl ?_
    refine e_iload_n 3 (dec_at dX2_addCornerPlate 48) rfl rfl ?_
    refine e_iload (dec_at dX2_addCornerPlate 49) rfl ?_
    refine e_iadd (dec_at dX2_addCornerPlate 50) ?_
    refine e_iast (dec_at dX2_addCornerPlate 51) rfl (by decide) (aLk_16 _) (by omega) (by omega) ?_
    refine e_aload_n 1 (dec_at dX2_addCornerPlate 52) rfl rfl ?_
    refine e_getr 7 (dec_at dX2_addCornerPlate 53) flX2_24 rfl rfl ?_
    refine e_iload (dec_at dX2_addCornerPlate 54) rfl ?_
    refine e_ialdv (μ 16 l (pv (Nt μ l) (it (rho (Nt μ l)) k.toNat (μ 20 l c)))) (dec_at dX2_addCornerPlate 55) rfl (by decide) (aLk_16 _) (by omega) (by rw [mset_l (by omega), mset_l (by omega), mset_l (by omega), mset_l (by omega)]; exact fra 16 l _ (by omega)) (fun r92 => ?_)
    refine e_is4 (dec_at dX2_addCornerPlate 56) (by decide) rfl ?_
    refine e_ii5 (dec_at dX2_addCornerPlate 57) (by decide) rfl ?_
    refine e_goto 16 (dec_at dX2_addCornerPlate 58) (by decide) ?_
    have hnx : rho (Nt μ l) (it (rho (Nt μ l)) k.toNat (μ 20 l c)) = it (rho (Nt μ l)) (k + 1).toNat (μ 20 l c) := by
      rw [show (k + 1).toNat = k.toNat + 1 by omega]
      rfl
    have hnx2 : μ 16 l (pv (Nt μ l) (it (rho (Nt μ l)) k.toNat (μ 20 l c))) = it (rho (Nt μ l)) (k + 1).toNat (μ 20 l c) := hnx
    rw [hnx2]
    refine e_le [some (vR 11 (l + 1)), some (vR 11 l), some (vI c), some (vI (st (Nt μ l) c)), some (vI (it (rho (Nt μ l)) (k + 1).toNat (μ 20 l c))), some (vI (k + 1)), none] (by simp [leL]) (ih _ (by omega) (k + 1) _ rfl (by omega) (by omega) (fr_set (fr_set (fr_set (fr_set fra (by omega)) (by omega)) (by omega)) (by omega)) (fun i z w => ?_) ?_ ?_ (fun s a b => ?_))
    · have w1 := w (st (Nt μ l) c + k) (by omega) (by omega)
      rw [← hun2] at w1
      rw [mset_i w1, mset_i (by omega), mset_k (by decide), mset_k (by decide)]
      exact frb i z w
    · rw [mset_k (by decide), mset_k (by decide), mset_k (by decide), mset_k (by decide)]; exact hpn
    · rw [mset_k (by decide), mset_k (by decide), mset_k (by decide), mset_k (by decide)]; exact h13
    · by_cases q : s = st (Nt μ l) c + k
      · subst q
        rw [← hun2, mset_k (by decide), mset_k (by decide), mset_k (by decide), mset_eq, mset_k (by decide), mset_k (by decide), mset_eq, mset_i (by omega), mset_eq, mset_eq]
        exact ⟨rfl, rfl, rfl, rfl⟩
      · have hsr := un_r hg (s := s) (by show μ 13 l (μ 11 l 1) ≤ s; omega) (by show s < 2 * μ 13 l (μ 11 l 1); omega)
        have hsv := hg.1.2.1.pvr hsr.1.1 hsr.1.2
        have hsv1 : 0 ≤ pv (Nt μ l) (un (Nt μ l) s) ∧ pv (Nt μ l) (un (Nt μ l) s) < μ 13 l (μ 11 l 1) := hsv.1
        have hne : pv (Nt μ l) (un (Nt μ l) s) ≠ pv (Nt μ l) (it (rho (Nt μ l)) k.toNat (μ 20 l c)) := fun z => by
          have e := hg.1.pvi hsr.1.1 hsr.1.2 hor.1.1 hor.1.2 z
          have e1 := ps_un hg (s := s) (by show μ 13 l (μ 11 l 1) ≤ s; omega) (by show s < 2 * μ 13 l (μ 11 l 1); omega)
          have e2 := ps_un hg (s := st (Nt μ l) c + k) (by show μ 13 l (μ 11 l 1) ≤ _; omega) (by show _ < 2 * μ 13 l (μ 11 l 1); omega)
          rw [e, hun2, e2] at e1
          exact q e1.symm
        have hso := hs s a (by omega)
        rw [mset_k (by decide), mset_k (by decide), mset_k (by decide), mset_i q, mset_k (by decide), mset_k (by decide), mset_i q, mset_k (by decide), mset_i (by omega), mset_i q, mset_k (by decide), mset_k (by decide), mset_i hne, mset_i (by omega), mset_k (by decide), mset_k (by decide)]
        exact hso

set_option maxRecDepth 100000 in
set_option maxHeartbeats 4000000 in
theorem c_addCornerPlate {μ : Mm} (l c : Int) (hg : Good (Nt μ l)) (hC : μ 11 l 0 ≤ capC l) (hP : μ 11 l 1 ≤ capP l) (hn : μ 13 l (μ 11 l 1) ≤ 2 * capE l) (hE : μ 11 l 2 ≤ capE l) (hE1 : μ 11 l 2 ≤ capC (l + 1)) (hP1 : μ 11 l 1 + μ 11 l 0 ≤ capP (l + 1)) (hn1 : μ 13 l (μ 11 l 1) ≤ capE (l + 1)) (hc0 : 0 ≤ c) (hc1 : c < μ 11 l 0) (hp : μ 11 (l + 1) 1 = μ 11 l 1 + c) (hst : μ 13 (l + 1) (μ 11 l 1 + c) = st (Nt μ l) c) : Mc mX2_addCornerPlate 1 [vR 11 (l + 1), vR 11 l, vI c] μ (fun r μ' => r = none ∧ (∀ k l1 i, ¬ (l1 = l + 1 ∧ (k = 11 ∧ i = 1 ∨ k = 13 ∧ i = μ 11 l 1 + c + 1 ∨ ((k = 14 ∨ k = 15) ∧ st (Nt μ l) c ≤ i ∧ i < st (Nt μ l) (c + 1)) ∨ k = 16)) → μ' k l1 i = μ k l1 i) ∧ (∀ i, ¬ (st (Nt μ l) c ≤ i ∧ i < st (Nt μ l) (c + 1)) → (∀ s, st (Nt μ l) c ≤ s → s < st (Nt μ l) (c + 1) → i ≠ pv (Nt μ l) (un (Nt μ l) s)) → μ' 16 (l + 1) i = μ 16 (l + 1) i) ∧ μ' 11 (l + 1) 1 = μ 11 l 1 + c + 1 ∧ μ' 13 (l + 1) (μ 11 l 1 + c + 1) = st (Nt μ l) (c + 1) ∧ (∀ s, st (Nt μ l) c ≤ s → s < st (Nt μ l) (c + 1) → μ' 14 (l + 1) s = μ 17 l (un (Nt μ l) s) ∧ μ' 15 (l + 1) s = μ 11 l 1 + c ∧ μ' 16 (l + 1) s = pv (Nt μ l) (un (Nt μ l) s) ∧ μ' 16 (l + 1) (pv (Nt μ l) (un (Nt μ l) s)) = s)) := by
  refine Mc.of (L := [some (vR 11 (l + 1)), some (vR 11 l), some (vI c), none, none, none, none]) (by decide +kernel) (by simp [leL, entA, isLong, mX2_addCornerPlate]) (by simp [entA, isLong, mX2_addCornerPlate]) ?_
  have hCc := capC_in l
  have hCp := capP_in l
  have hCe := capE_in l
  have hCc1 := capC_in (l + 1)
  have hCp1 := capP_in (l + 1)
  have hCe1 := capE_in (l + 1)
  have nb := hg.nb hC hP hn hE
  have hP0 : 0 ≤ μ 11 l 1 := nb.1.2.1.1
  have hd := hg.door (c := c) hc0 hc1
  have hss := st_s hg.1 c
  have hm1 := st_mono hg.1 _ (c + 1) (μ 11 l 0) rfl (by omega)
  have hm0 := st_mono hg.1 _ 0 c rfl hc0
  have hsC : st (Nt μ l) (μ 11 l 0) = 2 * μ 13 l (μ 11 l 1) := st_C hg.1
  have hs0 : st (Nt μ l) 0 = μ 13 l (μ 11 l 1) := st_0 hg.1
  have hdg : μ 19 l c = (deg (Nt μ l) c : Int) := hd.2.2.2.1
  have hd1 : (0 ≤ μ 20 l c ∧ μ 20 l c < μ 13 l (μ 11 l 1)) := hd.1
  refine e_aload_n 0 (dec_at dX2_addCornerPlate 0) rfl rfl ?_
  refine e_callVr (M' := mX2_steps) (dec_at dX2_addCornerPlate 1) mlX2_53 ((c_steps (μ := μ) (l + 1) (by omega)).rt (r' := some (vI (st (Nt μ l) c))) (by rw [hp, hst]) rfl) oX2_steps iX2_steps rfl rfl rfl rfl (by decide) (by decide) (Nat.le_of_ble_eq_true rfl) ?_
  refine e_is3 (dec_at dX2_addCornerPlate 2) (by decide) rfl ?_
  refine e_aload_n 1 (dec_at dX2_addCornerPlate 3) rfl rfl ?_
  refine e_getr 11 (dec_at dX2_addCornerPlate 4) flX2_36 rfl rfl ?_
  refine e_iload_n 2 (dec_at dX2_addCornerPlate 5) rfl rfl ?_
  refine e_iald (dec_at dX2_addCornerPlate 6) rfl (by decide) (aLk_20 _) (by omega) (fun r10 => ?_)
  refine e_is4 (dec_at dX2_addCornerPlate 7) (by decide) rfl ?_
  refine e_iconst (dec_at dX2_addCornerPlate 8) ?_
  refine e_is5 (dec_at dX2_addCornerPlate 9) (by decide) rfl ?_
  exact l_addCP hg hC hP hn hE hE1 hP1 hn1 hc0 hc1 hp hst _ 0 μ rfl (by omega) (by omega) (fun _ _ _ _ => rfl) (fun _ _ _ => rfl) hp rfl (fun s a b => by omega)
