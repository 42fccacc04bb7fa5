/-! THE REFERENCE: faces of a corner, the ring of a corner -/
noncomputable def ctz (p : Int → Prop) (s : Int) : Int := (ct p s.toNat : Int)
theorem ctz_t {p : Int → Prop} {s : Int} (h0 : 0 ≤ s) (hp : p s) : ctz p (s + 1) = ctz p s + 1 := by
  unfold ctz
  rw [show (s + 1).toNat = s.toNat + 1 by omega, ct_t (by rw [Int.toNat_of_nonneg h0]; exact hp)]
  omega
theorem ctz_f {p : Int → Prop} {s : Int} (h0 : 0 ≤ s) (hp : ¬ p s) : ctz p (s + 1) = ctz p s := by
  unfold ctz
  rw [show (s + 1).toNat = s.toNat + 1 by omega, ct_f (by rw [Int.toNat_of_nonneg h0]; exact hp)]
theorem ctz_in {p : Int → Prop} {s : Int} (h0 : 0 ≤ s) : 0 ≤ ctz p s ∧ ctz p s ≤ s := by
  have := ct_le (p := p) s.toNat
  unfold ctz
  omega
theorem ctz_0 {p : Int → Prop} : ctz p 0 = 0 := rfl
theorem GP.inp {A : Net} (h : GP A) {f s : Int} (h0 : 0 ≤ s) (h1 : s < nN A) (e : A 4 s = f) : (0 ≤ f ∧ f < A 0 1) ∧ A 2 f ≤ s ∧ s < A 2 (f + 1) := by
  have z := h.2.2.2 s h0 h1
  subst e
  exact z

set_option maxRecDepth 100000 in
set_option maxHeartbeats 4000000 in
theorem l_facesOf2 {μ : Mm} {B : Net} {c : Int} (h : MP μ 0 B) (hc : inR c) {f : Int} (f0 : 0 ≤ f) (f1 : f < B 0 1) : ∀ (q : Nat) (k : Int), (B 2 (f + 1) - B 2 f - k).toNat = q → 0 ≤ k → k ≤ B 2 (f + 1) - B 2 f → (Ev mX6_facesOf 1 54 [some (vR 21 0), some (vI c), some (vI (ctz (fun s => B 3 s = c) (B 2 (f + 1)))), some (vI f), none] [] μ (Rt (some (vI (ctz (fun s => B 3 s = c) (nN B)))) μ)) → Ev mX6_facesOf 1 17 [some (vR 21 0), some (vI c), some (vI (ctz (fun s => B 3 s = c) (B 2 f + k))), some (vI f), some (vI k)] [] μ (Rt (some (vI (ctz (fun s => B 3 s = c) (nN B)))) μ) := by
  intro q
  induction q using Nat.strongRecOn with
  | _ q ih =>
  intro k hq k0 k1 K
  have hat := h.at f0 f1
  have hin := ctz_in (p := (fun s => B 3 s = c)) (s := B 2 f + k) (by omega)
  refine e_iload (dec_at dX6_facesOf 12) rfl ?_
  refine e_aload_n 0 (dec_at dX6_facesOf 13) rfl rfl ?_
  refine e_iconst (dec_at dX6_facesOf 14) ?_
  refine e_iload_n 3 (dec_at dX6_facesOf 15) rfl rfl ?_
  refine e_callVr (M' := mX6_sizeOf) (dec_at dX6_facesOf 16) mlX6_70 (m_sizeOf (μ := μ) (B := B) 0 f h f0 f1) oX6_sizeOf iX6_sizeOf rfl rfl rfl rfl (by decide) (by decide) (Nat.le_of_ble_eq_true rfl) ?_
  refine e_icmp_ge 54 (dec_at dX6_facesOf 17) (by decide) (by omega) (by omega) (fun h25 => ?_) (fun h25 => ?_)
  · obtain rfl : k = B 2 (f + 1) - B 2 f := by omega
    rw [show B 2 f + (B 2 (f + 1) - B 2 f) = B 2 (f + 1) by omega]
    exact e_le [some (vR 21 0), some (vI c), some (vI (ctz (fun s => B 3 s = c) (B 2 (f + 1)))), some (vI f), none] (by simp [leL]) K
  · have hrg := h.rg (s := B 2 f + k) (by omega) (by omega)
    refine e_iload_n 2 (dec_at dX6_facesOf 18) rfl rfl ?_
    refine e_aload_n 0 (dec_at dX6_facesOf 19) rfl rfl ?_
    refine e_iconst (dec_at dX6_facesOf 20) ?_
    refine e_iload_n 3 (dec_at dX6_facesOf 21) rfl rfl ?_
    refine e_iload (dec_at dX6_facesOf 22) rfl ?_
    refine e_callVr (M' := mX6_cornerOf) (dec_at dX6_facesOf 23) mlX6_74 (m_cornerOf (μ := μ) (B := B) 0 f k h f0 f1 k0 (by omega)) oX6_cornerOf iX6_cornerOf rfl rfl rfl rfl (by decide) (by decide) (Nat.le_of_ble_eq_true rfl) ?_
    refine e_iload_n 1 (dec_at dX6_facesOf 24) rfl rfl ?_
    refine e_icmp_ne 45 (dec_at dX6_facesOf 25) (by decide) (by omega) (by omega) (fun h38 => ?_) (fun h38 => ?_)
    · refine e_iconst (dec_at dX6_facesOf 28) ?_
      refine e_iadd (dec_at dX6_facesOf 29) ?_
      refine e_is2 (dec_at dX6_facesOf 30) (by decide) rfl ?_
      refine e_ii4 (dec_at dX6_facesOf 31) (by decide) rfl ?_
      refine e_goto 17 (dec_at dX6_facesOf 32) (by decide) ?_
      rw [show ctz (fun s => B 3 s = c) (B 2 f + k) + 0 = ctz (fun s => B 3 s = c) (B 2 f + (k + 1)) by rw [show B 2 f + (k + 1) = B 2 f + k + 1 by omega, ctz_f (p := (fun s => B 3 s = c)) (by omega) h38]; omega]
      exact ih _ (by omega) (k + 1) rfl (by omega) (by omega) K
    · refine e_iconst (dec_at dX6_facesOf 26) ?_
      refine e_goto 46 (dec_at dX6_facesOf 27) (by decide) ?_
      refine e_iadd (dec_at dX6_facesOf 29) ?_
      refine e_is2 (dec_at dX6_facesOf 30) (by decide) rfl ?_
      refine e_ii4 (dec_at dX6_facesOf 31) (by decide) rfl ?_
      refine e_goto 17 (dec_at dX6_facesOf 32) (by decide) ?_
      rw [show ctz (fun s => B 3 s = c) (B 2 f + k) + 1 = ctz (fun s => B 3 s = c) (B 2 f + (k + 1)) by rw [show B 2 f + (k + 1) = B 2 f + k + 1 by omega, ctz_t (p := (fun s => B 3 s = c)) (by omega) h38]]
      exact ih _ (by omega) (k + 1) rfl (by omega) (by omega) K

set_option maxRecDepth 100000 in
set_option maxHeartbeats 4000000 in
theorem l_facesOf1 {μ : Mm} {B : Net} {c : Int} (h : MP μ 0 B) (hc : inR c) : ∀ (q : Nat) (f : Int), (B 0 1 - f).toNat = q → 0 ≤ f → f ≤ B 0 1 → Ev mX6_facesOf 1 4 [some (vR 21 0), some (vI c), some (vI (ctz (fun s => B 3 s = c) (B 2 f))), some (vI f), none] [] μ (Rt (some (vI (ctz (fun s => B 3 s = c) (nN B)))) μ) := by
  intro q
  induction q using Nat.strongRecOn with
  | _ q ih =>
  intro f hq f0 f1
  have hat := h.1.2.2.1
  refine e_iload_n 3 (dec_at dX6_facesOf 4) rfl rfl ?_
  refine e_aload_n 0 (dec_at dX6_facesOf 5) rfl rfl ?_
  refine e_getr 8 (dec_at dX6_facesOf 6) flX6_16 rfl rfl ?_
  refine e_iconst (dec_at dX6_facesOf 7) ?_
  refine e_ialdv (B 0 1) (dec_at dX6_facesOf 8) rfl (by decide) (aLk_24 _) (by omega) (by exact h.2.2.1) (fun r10 => ?_)
  refine e_icmp_ge 60 (dec_at dX6_facesOf 9) (by decide) (by omega) (by omega) (fun h11 => ?_) (fun h11 => ?_)
  · refine e_iload_n 2 (dec_at dX6_facesOf 35) rfl rfl ?_
    refine e_ireturn (dec_at dX6_facesOf 36) rfl ?_
    obtain rfl : f = B 0 1 := by omega
    exact ⟨rfl, rfl⟩
  · have hz : B 2 f = B 2 f + 0 := by omega
    rw [hz]
    refine e_iconst (dec_at dX6_facesOf 10) ?_
    refine e_is4 (dec_at dX6_facesOf 11) (by decide) rfl ?_
    refine l_facesOf2 h hc f0 (by omega) _ 0 rfl (by omega) (by have := h.at f0 (f := f) (by omega); omega) ?_
    refine e_ii3 (dec_at dX6_facesOf 33) (by decide) rfl ?_
    refine e_goto 4 (dec_at dX6_facesOf 34) (by decide) ?_
    exact ih _ (by omega) (f + 1) rfl (by omega) (by omega)

set_option maxRecDepth 100000 in
set_option maxHeartbeats 4000000 in
theorem m_facesOf {μ : Mm} {B : Net} (c : Int) (h : MP μ 0 B) (hc : inR c) : Mc mX6_facesOf 1 [vR 21 0, vI c] μ (Rt (some (vI (ctz (fun s => B 3 s = c) (nN B)))) μ) := by
  refine Mc.of (L := [some (vR 21 0), some (vI c), none, none, none]) (by decide +kernel) (by simp [leL, entA, isLong, mX6_facesOf]) (by simp [entA, isLong, mX6_facesOf]) ?_
  refine e_iconst (dec_at dX6_facesOf 0) ?_
  refine e_is2 (dec_at dX6_facesOf 1) (by decide) rfl ?_
  refine e_iconst (dec_at dX6_facesOf 2) ?_
  refine e_is3 (dec_at dX6_facesOf 3) (by decide) rfl ?_
  have z := l_facesOf1 h hc _ 0 rfl (by omega) (h.gp.1)
  rw [show B 2 0 = 0 from h.gp.2.1, ctz_0] at z
  exact z

set_option maxRecDepth 100000 in
set_option maxHeartbeats 4000000 in
theorem m_fails {μ : Mm} (k p : Int) (hk : inR k) (hp : inR p) : Mc mX6_fails 0 [vR 21 0, vI k, vI p] μ (Rt none (if μ 21 0 5 = 0 then mset (mset μ 21 0 5 k) 21 0 6 p else μ)) := by
  refine Mc.of (L := [some (vR 21 0), some (vI k), some (vI p)]) (by decide +kernel) (by simp [leL, entA, isLong, mX6_fails]) (by simp [entA, isLong, mX6_fails]) ?_
  refine e_aload_n 0 (dec_at dX6_fails 0) rfl rfl ?_
  refine e_geti 5 5 (dec_at dX6_fails 1) flX6_99 rfl rfl rfl (fun r1 => ?_)
  refine e_if_ne 17 (dec_at dX6_fails 2) (by decide) (by omega) (fun h4 => ?_) (fun h4 => ?_)
  · refine e_return (dec_at dX6_fails 9) rfl ?_
    refine ⟨rfl, ?_⟩
    first | rw [if_neg (by omega)] | rw [if_pos (by omega)]
  · refine e_aload_n 0 (dec_at dX6_fails 3) rfl rfl ?_
    refine e_iload_n 1 (dec_at dX6_fails 4) rfl rfl ?_
    refine e_put 5 5 (dec_at dX6_fails 5) flX6_99 fpX6_5 rfl rfl rfl (by omega) (fit_int _) ?_
    refine e_aload_n 0 (dec_at dX6_fails 6) rfl rfl ?_
    refine e_iload_n 2 (dec_at dX6_fails 7) rfl rfl ?_
    refine e_put 6 6 (dec_at dX6_fails 8) flX6_102 fpX6_6 rfl rfl rfl (by omega) (fit_int _) ?_
    refine e_return (dec_at dX6_fails 9) rfl ?_
    refine ⟨rfl, ?_⟩
    first | rw [if_neg (by omega)] | rw [if_pos (by omega)]

set_option maxRecDepth 100000 in
set_option maxHeartbeats 4000000 in
theorem l_ring3 {μ : Mm} {B : Net} {c : Int} (h : MP μ 0 B) (hc : 0 ≤ c ∧ c < B 0 0) {Q : Option Vv → Mm → Prop} {f : Int} (f0 : 0 ≤ f) (f1 : f < B 0 1) : ∀ (q : Nat) (k : Int) (u : Int) (w : Int), (B 2 (f + 1) - B 2 f - k).toNat = q → 0 ≤ k → k ≤ B 2 (f + 1) - B 2 f → ((w = -1 ∧ ∀ s, 0 ≤ s → s < B 2 f + k → B 3 s ≠ c) ∨ (u = f ∧ (0 ≤ w ∧ w < k) ∧ B 3 (B 2 f + w) = c)) → (∀ u w, ((w = -1 ∧ ∀ s, 0 ≤ s → s < B 2 (f + 1) → B 3 s ≠ c) ∨ (u = f ∧ (0 ≤ w ∧ w < B 2 (f + 1) - B 2 f) ∧ B 3 (B 2 f + w) = c)) → Ev mX6_ringOf 3 63 [some (vR 21 0), some (vI c), some (vI u), some (vI w), some (vI f), none, none, none] [] μ Q) → Ev mX6_ringOf 3 26 [some (vR 21 0), some (vI c), some (vI u), some (vI w), some (vI f), some (vI k), none, none] [] μ (Q) := by
  intro q
  induction q using Nat.strongRecOn with
  | _ q ih =>
  intro k u w hq k0 k1 hi K
  have hat := h.at f0 f1
  refine e_iload (dec_at dX6_ringOf 17) rfl ?_
  refine e_aload_n 0 (dec_at dX6_ringOf 18) rfl rfl ?_
  refine e_iconst (dec_at dX6_ringOf 19) ?_
  refine e_iload (dec_at dX6_ringOf 20) rfl ?_
  refine e_callVr (M' := mX6_sizeOf) (dec_at dX6_ringOf 21) mlX6_70 (m_sizeOf (μ := μ) (B := B) 0 f h f0 f1) oX6_sizeOf iX6_sizeOf rfl rfl rfl rfl (by decide) (by decide) (Nat.le_of_ble_eq_true rfl) ?_
  refine e_icmp_ge 63 (dec_at dX6_ringOf 22) (by decide) (by omega) (by omega) (fun h35 => ?_) (fun h35 => ?_)
  · obtain rfl : k = B 2 (f + 1) - B 2 f := by omega
    rw [show B 2 f + (B 2 (f + 1) - B 2 f) = B 2 (f + 1) by omega] at hi
    exact e_le [some (vR 21 0), some (vI c), some (vI u), some (vI w), some (vI f), none, none, none] (by simp [leL]) (K u w hi)
  · have hrg := h.rg (s := B 2 f + k) (by omega) (by omega)
    refine e_aload_n 0 (dec_at dX6_ringOf 23) rfl rfl ?_
    refine e_iconst (dec_at dX6_ringOf 24) ?_
    refine e_iload (dec_at dX6_ringOf 25) rfl ?_
    refine e_iload (dec_at dX6_ringOf 26) rfl ?_
    refine e_callVr (M' := mX6_cornerOf) (dec_at dX6_ringOf 27) mlX6_74 (m_cornerOf (μ := μ) (B := B) 0 f k h f0 f1 k0 (by omega)) oX6_cornerOf iX6_cornerOf rfl rfl rfl rfl (by decide) (by decide) (Nat.le_of_ble_eq_true rfl) ?_
    refine e_iload_n 1 (dec_at dX6_ringOf 28) rfl rfl ?_
    refine e_icmp_ne 57 (dec_at dX6_ringOf 29) (by decide) (by omega) (by omega) (fun h48 => ?_) (fun h48 => ?_)
    · refine e_ii5 (dec_at dX6_ringOf 34) (by decide) rfl ?_
      refine e_goto 26 (dec_at dX6_ringOf 35) (by decide) ?_
      refine ih _ (by omega) (k + 1) u w rfl (by omega) (by omega) ?_ K
      rcases hi with ⟨a, b⟩ | ⟨a, b, e⟩
      · refine Or.inl ⟨a, fun s s0 s1 => ?_⟩
        by_cases q : s = B 2 f + k
        · subst q; exact h48
        · exact b s s0 (by omega)
      · exact Or.inr ⟨a, by omega, e⟩
    · refine e_iload (dec_at dX6_ringOf 30) rfl ?_
      refine e_is2 (dec_at dX6_ringOf 31) (by decide) rfl ?_
      refine e_iload (dec_at dX6_ringOf 32) rfl ?_
      refine e_is3 (dec_at dX6_ringOf 33) (by decide) rfl ?_
      refine e_ii5 (dec_at dX6_ringOf 34) (by decide) rfl ?_
      refine e_goto 26 (dec_at dX6_ringOf 35) (by decide) ?_
      exact ih _ (by omega) (k + 1) f k rfl (by omega) (by omega) (Or.inr ⟨rfl, by omega, h48⟩) K

set_option maxRecDepth 100000 in
set_option maxHeartbeats 4000000 in
theorem l_ring2 {μ : Mm} {B : Net} {c : Int} (h : MP μ 0 B) (hc : 0 ≤ c ∧ c < B 0 0) {Q : Option Vv → Mm → Prop} : ∀ (q : Nat) (f : Int) (u : Int) (w : Int), (B 0 1 - f).toNat = q → 0 ≤ f → f ≤ B 0 1 → ((w = -1 ∧ ∀ s, 0 ≤ s → s < B 2 f → B 3 s ≠ c) ∨ ((0 ≤ u ∧ u < B 0 1) ∧ (0 ≤ w ∧ w < B 2 (u + 1) - B 2 u) ∧ B 3 (B 2 u + w) = c)) → (∀ u w, ((w = -1 ∧ ∀ s, 0 ≤ s → s < nN B → B 3 s ≠ c) ∨ ((0 ≤ u ∧ u < B 0 1) ∧ (0 ≤ w ∧ w < B 2 (u + 1) - B 2 u) ∧ B 3 (B 2 u + w) = c)) → Ev mX6_ringOf 3 69 [some (vR 21 0), some (vI c), some (vI u), some (vI w), none, none, none, none] [] μ Q) → Ev mX6_ringOf 3 7 [some (vR 21 0), some (vI c), some (vI u), some (vI w), some (vI f), none, none, none] [] μ (Q) := by
  intro q
  induction q using Nat.strongRecOn with
  | _ q ih =>
  intro f u w hq f0 f1 hi K
  have hat := h.1.2.2.1
  have hw : inR w := by
    rcases hi with a | a
    · omega
    · have z := h.at a.1.1 a.1.2
      omega
  refine e_iload (dec_at dX6_ringOf 6) rfl ?_
  refine e_aload_n 0 (dec_at dX6_ringOf 7) rfl rfl ?_
  refine e_getr 8 (dec_at dX6_ringOf 8) flX6_16 rfl rfl ?_
  refine e_iconst (dec_at dX6_ringOf 9) ?_
  refine e_ialdv (B 0 1) (dec_at dX6_ringOf 10) rfl (by decide) (aLk_24 _) (by omega) (by exact h.2.2.1) (fun r14 => ?_)
  refine e_icmp_ge 69 (dec_at dX6_ringOf 11) (by decide) (by omega) (by omega) (fun h15 => ?_) (fun h15 => ?_)
  · have e : f = B 0 1 := by omega
    subst e
    exact e_le [some (vR 21 0), some (vI c), some (vI u), some (vI w), none, none, none, none] (by simp [leL]) (K u w hi)
  · refine e_iload_n 3 (dec_at dX6_ringOf 12) rfl rfl ?_
    refine e_iconst (dec_at dX6_ringOf 13) ?_
    refine e_icmp_ne 69 (dec_at dX6_ringOf 14) (by decide) (by omega) (by omega) (fun h20 => ?_) (fun h20 => ?_)
    · exact e_le [some (vR 21 0), some (vI c), some (vI u), some (vI w), none, none, none, none] (by simp [leL]) (K u w (Or.inr (hi.resolve_left (fun a => h20 a.1))))
    · refine e_iconst (dec_at dX6_ringOf 15) ?_
      refine e_is5 (dec_at dX6_ringOf 16) (by decide) rfl ?_
      have hat2 := h.at f0 (f := f) (by omega)
      refine l_ring3 h hc f0 (by omega) _ 0 u w rfl (by omega) (by omega) ?_ (fun u w hi => ?_)
      · rcases hi with a | a
        · exact Or.inl ⟨a.1, fun s s0 s1 => a.2 s s0 (by omega)⟩
        · omega
      refine e_ii4 (dec_at dX6_ringOf 36) (by decide) rfl ?_
      refine e_goto 7 (dec_at dX6_ringOf 37) (by decide) ?_
      refine ih _ (by omega) (f + 1) u w rfl (by omega) (by omega) ?_ K
      rcases hi with a | a
      · exact Or.inl a
      · obtain ⟨rfl, a1, a2⟩ := a
        exact Or.inr ⟨⟨f0, by omega⟩, a1, a2⟩

theorem ring_le {B : Net} (hp : GP B) (hb : GB B) {x c : Int} (h0 : 0 ≤ x) (h1 : x < nN B) (hc : B 3 x = c) {m : Nat} (hn : ∀ k, 0 < k → k < m → it (rho B) k x ≠ x) : (m : Int) ≤ ctz (fun s => B 3 s = c) (nN B) := by
  have ap := it_apart (f := rho B) (D := fun s => (0 ≤ s ∧ s < nN B)) (fun s hs => (g2_rh hp hb hs.1 hs.2).1) (fun s t hs ht e => g2_rhi hp hb hs.1 hs.2 ht.1 ht.2 e) (x := x) ⟨h0, h1⟩ hn
  have z := ct_inj (p := fun s => B 3 s = c) (nN B).toNat m (fun i => it (rho B) i x) (fun i hi => by
    have q := g2_itr hp hb h0 h1 i
    refine ⟨?_, q.2.trans hc⟩
    have := hp.n0
    omega) ap
  unfold ctz
  omega
theorem rho_st {B : Net} (h : Bas B) (n3 : No (fDb B) (B 0 1)) (n4 : No (fOp B) (B 0 1)) {s t : Int} (h0 : 0 ≤ s) (h1 : s < nN B) (g0 : 0 ≤ t) (g1 : t < nN B) (e1 : B 3 t = B 3 s) (e2 : B 3 (nx B t) = B 3 (pv B s)) : rho (bN B) s = t := by
  have p := h.2.1.pvr h0 h1
  exact bkr_u h n3 n4 p.1.1 p.1.2 g0 g1 ⟨by rw [show pv (bN B) s = pv B s from rfl, h.2.1.nxpv h0 h1]; exact e1, e2⟩
theorem rho_ex {B : Net} (h : Bas B) (n4 : No (fOp B) (B 0 1)) {s : Int} (h0 : 0 ≤ s) (h1 : s < nN B) : ∃ t, (0 ≤ t ∧ t < nN B) ∧ B 3 t = B 3 s ∧ B 3 (nx B t) = B 3 (pv B s) := by
  have p := h.2.1.pvr h0 h1
  have z := bkr_s h n4 p.1.1 p.1.2
  exact ⟨bkr B (pv B s), z.1, by rw [z.2.1, h.2.1.nxpv h0 h1], z.2.2⟩

set_option maxRecDepth 100000 in
set_option maxHeartbeats 4000000 in
theorem l_ring4 {μ : Mm} {B : Net} {c : Int} (h : MP μ 0 B) (hc : 0 ≤ c ∧ c < B 0 0) (n2 : No (fTw B) (B 0 1)) (n3 : No (fDb B) (B 0 1)) (n4 : No (fOp B) (B 0 1)) {u w : Int} (hu : 0 ≤ u ∧ u < B 0 1) (hw : 0 ≤ w ∧ w < B 2 (u + 1) - B 2 u) (hx : B 3 (B 2 u + w) = c) : ∀ (q : Nat) (m : Nat) (f : Int) (k : Int) (ν : Mm), (ctz (fun s => B 3 s = c) (nN B) - m).toNat = q → (0 ≤ f ∧ f < B 0 1) → (0 ≤ k ∧ k < B 2 (f + 1) - B 2 f) → B 2 f + k = it (rho (bN B)) m (B 2 u + w) → (∀ j : Nat, 0 < j → j ≤ m → it (rho (bN B)) j (B 2 u + w) ≠ (B 2 u + w)) → (∀ k l1 i, ¬ (k = 21 ∧ l1 = 0 ∧ i = 16) → ν k l1 i = μ k l1 i) → Ev mX6_ringOf 3 78 [some (vR 21 0), some (vI c), some (vI u), some (vI w), some (vI (m : Int)), some (vI f), some (vI k), none] [] ν (fun r ν => (∀ k l1 i, ¬ (k = 21 ∧ l1 = 0 ∧ i = 16) → ν k l1 i = μ k l1 i) ∧ ∃ v, r = some (vI v) ∧ (0 ≤ v ∧ v ≤ 700) ∧ (v ≠ ctz (fun s => B 3 s = c) (nN B) ↔ fPi B c)) := by
  intro q
  induction q using Nat.strongRecOn with
  | _ q ih =>
  intro m f k ν hq hf hk he hn fr
  have hat := h.at hf.1 hf.2
  have hau := h.at hu.1 hu.2
  have gb := bN_GB h.1.2.1 n2 n3 n4
  have hC := h.1.2.2.2.2
  have hle : ((m + 1 : Nat) : Int) ≤ ctz (fun s => B 3 s = c) (nN B) := ring_le (B := bN B) h.gp gb (x := (B 2 u + w)) (by omega) (show (B 2 u + w) < nN B by omega) hx (fun j a b => hn j a (by omega))
  have hni := ctz_in (p := (fun s => B 3 s = c)) (s := nN B) h.gp.n0
  have hs3 : B 3 (B 2 f + k) = c := by
    rw [he]
    exact (g2_itr (A := bN B) h.gp gb (s := (B 2 u + w)) (by omega) (show (B 2 u + w) < nN B by omega) m).2.trans hx
  have hM : MP ν 0 B := h.fr0 (fun k i a b => fr k 0 i (by omega))
  have hm0 := Int.emod_nonneg (k + (B 2 (f + 1) - B 2 f) - 1) (show B 2 (f + 1) - B 2 f ≠ 0 by omega)
  have hm1 := Int.emod_lt_of_pos (k + (B 2 (f + 1) - B 2 f) - 1) (show 0 < B 2 (f + 1) - B 2 f by omega)
  have hpv := pv_at h.gp hf.1 hf.2 hk.1 hk.2
  have hpr := h.gp.pvr (s := B 2 f + k) (by omega) (by omega)
  have hrg := h.rg hpr.1.1 hpr.1.2
  refine e_ii4 (dec_at dX6_ringOf 44) (by decide) rfl ?_
  refine e_aload_n 0 (dec_at dX6_ringOf 45) rfl rfl ?_
  refine e_iconst (dec_at dX6_ringOf 46) ?_
  refine e_iload (dec_at dX6_ringOf 47) rfl ?_
  refine e_iload (dec_at dX6_ringOf 48) rfl ?_
  refine e_aload_n 0 (dec_at dX6_ringOf 49) rfl rfl ?_
  refine e_iconst (dec_at dX6_ringOf 50) ?_
  refine e_iload (dec_at dX6_ringOf 51) rfl ?_
  refine e_callVr (M' := mX6_sizeOf) (dec_at dX6_ringOf 52) mlX6_70 (m_sizeOf (μ := ν) (B := B) 0 f hM hf.1 hf.2) oX6_sizeOf iX6_sizeOf rfl rfl rfl rfl (by decide) (by decide) (Nat.le_of_ble_eq_true rfl) ?_
  refine e_iadd (dec_at dX6_ringOf 53) ?_
  refine e_iconst (dec_at dX6_ringOf 54) ?_
  refine e_isub (dec_at dX6_ringOf 55) ?_
  refine e_aload_n 0 (dec_at dX6_ringOf 56) rfl rfl ?_
  refine e_iconst (dec_at dX6_ringOf 57) ?_
  refine e_iload (dec_at dX6_ringOf 58) rfl ?_
  refine e_callVr (M' := mX6_sizeOf) (dec_at dX6_ringOf 59) mlX6_70 (m_sizeOf (μ := ν) (B := B) 0 f hM hf.1 hf.2) oX6_sizeOf iX6_sizeOf rfl rfl rfl rfl (by decide) (by decide) (Nat.le_of_ble_eq_true rfl) ?_
  refine e_irem (dec_at dX6_ringOf 60) (by omega) (by omega) ?_
  refine e_callVr (M' := mX6_cornerOf) (dec_at dX6_ringOf 61) mlX6_74 (m_cornerOf (μ := ν) (B := B) 0 f ((k + (B 2 (f + 1) - B 2 f) - 1) % (B 2 (f + 1) - B 2 f)) hM hf.1 hf.2 hm0 hm1) oX6_cornerOf iX6_cornerOf rfl rfl rfl rfl (by decide) (by decide) (Nat.le_of_ble_eq_true rfl) ?_
  refine e_is7 (dec_at dX6_ringOf 62) (by decide) rfl ?_
  refine e_aload_n 0 (dec_at dX6_ringOf 63) rfl rfl ?_
  refine e_iconst (dec_at dX6_ringOf 64) ?_
  refine e_iload_n 1 (dec_at dX6_ringOf 65) rfl rfl ?_
  refine e_iload (dec_at dX6_ringOf 66) rfl ?_
  refine e_aload_n 0 (dec_at dX6_ringOf 67) rfl rfl ?_
  refine e_getr 8 (dec_at dX6_ringOf 68) flX6_16 rfl rfl ?_
  refine e_iconst (dec_at dX6_ringOf 69) ?_
  refine e_ialdv (B 0 1) (dec_at dX6_ringOf 70) rfl (by decide) (aLk_24 _) (by omega) (by exact hM.2.2.1) (fun r120 => ?_)
  refine e_callV (M' := mX6_faceWith) (dec_at dX6_ringOf 71) mlX6_95 (m_faceWith (μ := ν) (B := B) 0 c (B 3 (B 2 f + (k + (B 2 (f + 1) - B 2 f) - 1) % (B 2 (f + 1) - B 2 f))) (B 0 1) hM (by omega) (by rw [hpv]; omega) (by have := h.gp.1; omega)) oX6_faceWith iX6_faceWith rfl rfl rfl rfl (by decide) (by decide) (Nat.le_of_ble_eq_true rfl) (fun r ν2 hQ => ?_)
  obtain ⟨f2, rfl, hor⟩ := hQ
  rw [hpv] at hor
  replace hor := hor.resolve_left (fun q => by
    obtain ⟨t, t0, t1, t2⟩ := rho_ex h.1.2.1 n4 (s := B 2 f + k) (by omega) (by omega)
    exact q.2.2 t t0.1 t0.2 ⟨by rw [t1]; exact hs3, t2⟩)
  obtain ⟨hf2, k2, hk2, hν, ha, hb⟩ := hor
  have hat2 := h.at hf2.1 hf2.2
  have hrho : rho (bN B) (B 2 f + k) = B 2 f2 + k2 := rho_st h.1.2.1 n3 n4 (by omega) (by omega) (by omega) (by omega) (by rw [ha, hs3]) hb
  have hit : B 2 f2 + k2 = it (rho (bN B)) (m + 1) (B 2 u + w) := by
    show _ = rho (bN B) (it (rho (bN B)) m (B 2 u + w))
    rw [← he, hrho]
  have fr2 : ∀ k l1 i, ¬ (k = 21 ∧ l1 = 0 ∧ i = 16) → ν2 k l1 i = μ k l1 i := by
    rw [hν]; exact fr_set fr (by omega)
  show Ev mX6_ringOf 3 124 _ [vI f2] ν2 _
  refine e_is5 (dec_at dX6_ringOf 72) (by decide) rfl ?_
  refine e_aload_n 0 (dec_at dX6_ringOf 73) rfl rfl ?_
  refine e_getiv 16 16 (k2) (dec_at dX6_ringOf 74) flX6_92 rfl rfl rfl (by rw [hν]; exact mset_eq) (fun r127 => ?_)
  refine e_is6 (dec_at dX6_ringOf 75) (by decide) rfl ?_
  refine e_iload (dec_at dX6_ringOf 76) rfl ?_
  refine e_iload_n 2 (dec_at dX6_ringOf 77) rfl rfl ?_
  refine e_icmp_ne 78 (dec_at dX6_ringOf 78) (by decide) (by omega) (by omega) (fun h135 => ?_) (fun h135 => ?_)
  · rw [show (m : Int) + 1 = ((m + 1 : Nat) : Int) by omega]
    refine e_le [some (vR 21 0), some (vI c), some (vI u), some (vI w), some (vI ((m + 1 : Nat) : Int)), some (vI f2), some (vI k2), none] (by simp [leL]) (ih _ (by omega) (m + 1) f2 k2 ν2 rfl hf2 hk2 hit (fun j j0 j1 => ?_) fr2)
    by_cases q : j = m + 1
    · subst q
      rw [← hit]
      intro e
      apply h135
      have z1 := h.gp.pl hf2.1 hf2.2 (s := B 2 f2 + k2) (by omega) (by omega)
      have z2 := h.gp.pl hu.1 hu.2 (s := (B 2 u + w)) (by omega) (by omega)
      rw [← z1, e, z2]
    · exact hn j j0 (by omega)
  · refine e_iload (dec_at dX6_ringOf 79) rfl ?_
    refine e_ireturn (dec_at dX6_ringOf 80) rfl ?_
    have hxe : B 2 f2 + k2 = (B 2 u + w) := by
      refine no_tw h.1.2.1 n2 (by omega) (by omega) (by omega) (by omega) ?_ ?_
      · rw [h.gp.pl hf2.1 hf2.2 (s := B 2 f2 + k2) (by omega) (by omega), h.gp.pl hu.1 hu.2 (s := (B 2 u + w)) (by omega) (by omega)]; exact h135
      · rw [ha, hx]
    refine ⟨fr2, (m : Int) + 1, rfl, by omega, ?_⟩
    rw [pin_iff h.1.2.1 n2 n3 n4 (x := (B 2 u + w)) (by omega) (by omega) hx]
    constructor
    · intro q
      refine ⟨m + 1, by omega, ?_, by rw [← hit]; exact hxe⟩
      have : (deg B c : Int) = ctz (fun s => B 3 s = c) (nN B) := rfl
      omega
    · rintro ⟨j, j0, j1, j2⟩ q
      have : (deg B c : Int) = ctz (fun s => B 3 s = c) (nN B) := rfl
      exact hn j j0 (by omega) j2

set_option maxRecDepth 100000 in
set_option maxHeartbeats 4000000 in
theorem m_ringOf {μ : Mm} {B : Net} (c : Int) (h : MP μ 0 B) (hc : 0 ≤ c ∧ c < B 0 0) (n2 : No (fTw B) (B 0 1)) (n3 : No (fDb B) (B 0 1)) (n4 : No (fOp B) (B 0 1)) (n5 : ¬ fLo B c) : Mc mX6_ringOf 3 [vR 21 0, vI c] μ (fun r ν => (∀ k l1 i, ¬ (k = 21 ∧ l1 = 0 ∧ i = 16) → ν k l1 i = μ k l1 i) ∧ ∃ v, r = some (vI v) ∧ (0 ≤ v ∧ v ≤ 700) ∧ (v ≠ ctz (fun s => B 3 s = c) (nN B) ↔ fPi B c)) := by
  refine Mc.of (L := [some (vR 21 0), some (vI c), none, none, none, none, none, none]) (by decide +kernel) (by simp [leL, entA, isLong, mX6_ringOf]) (by simp [entA, isLong, mX6_ringOf]) ?_
  refine e_iconst (dec_at dX6_ringOf 0) ?_
  refine e_is2 (dec_at dX6_ringOf 1) (by decide) rfl ?_
  refine e_iconst (dec_at dX6_ringOf 2) ?_
  refine e_is3 (dec_at dX6_ringOf 3) (by decide) rfl ?_
  refine e_iconst (dec_at dX6_ringOf 4) ?_
  refine e_is4 (dec_at dX6_ringOf 5) (by decide) rfl ?_
  refine l_ring2 h hc _ 0 0 (-1) rfl (by omega) h.gp.1 (Or.inl ⟨rfl, fun s s0 s1 => by have := h.gp.2.1; omega⟩) (fun u w hi => ?_)
  replace hi := hi.resolve_left (fun q => n5 ((ct_zero _).2 (fun i i0 i1 => q.2 i i0 (by have := h.gp.n0; omega))))
  obtain ⟨hu, hw, hx⟩ := hi
  refine e_iconst (dec_at dX6_ringOf 38) ?_
  refine e_is4 (dec_at dX6_ringOf 39) (by decide) rfl ?_
  refine e_iload_n 2 (dec_at dX6_ringOf 40) rfl rfl ?_
  refine e_is5 (dec_at dX6_ringOf 41) (by decide) rfl ?_
  refine e_iload_n 3 (dec_at dX6_ringOf 42) rfl rfl ?_
  refine e_is6 (dec_at dX6_ringOf 43) (by decide) rfl ?_
  exact l_ring4 h hc n2 n3 n4 hu hw hx _ 0 u w μ rfl hu hw rfl (fun j a b => by omega) (fun _ _ _ _ => rfl)
