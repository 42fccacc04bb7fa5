/-! THE CLASS AND THE REFERENCE side by side: what changes the rows -/
theorem cp_row {μ : Mm} (h : J μ) (a n : Int) (ha : inR a) (hn : inR n) : Cp vI mX5_row mX6_row 6 [vI a, vI n] μ := by
  refine ⟨_, x_row a n ha hn, fun r ν hQ => ⟨_, m_row (μ := ν) a n ha hn, fun r1 ν1 hQ1 => ?_⟩⟩
  rcases hQ with ⟨g, hr, hν⟩ | ⟨g, hr, hν⟩ | ⟨g, hr, hν⟩ <;> rcases hQ1 with ⟨g1, hr1, hν1⟩ | ⟨g1, hr1, hν1⟩ | ⟨g1, hr1, f1, c1, c2, c3⟩ <;> first | (exfalso; omega) | skip
  · exact ⟨by rw [hν1, hν]; exact h, _, hr, hr1⟩
  · exact ⟨by rw [hν1, hν]; exact h.cause 3, _, hr, hr1⟩
  · have e : ∀ (k : Nat) (l i : Int), ¬ (k = 1 ∨ k = 2) → ν k l i = μ k l i := fun k l i q => by rw [hν, mfun_k (by omega), mset_k (by omega), mset_k (by omega)]
    have d1 : ν 1 0 1 = a := by rw [hν, mfun_k (by omega), mset_ne (by omega), mset_eq]
    have d2 : ν 1 0 2 = n := by rw [hν, mfun_k (by omega), mset_eq]
    have d3 : ∀ j, 0 ≤ j → j < 8 → ν 2 0 j = 0 := fun j j0 j1 => by rw [hν, mfun_eq, if_pos ⟨j0, j1⟩]
    have k1 := f1 1 0 1 (by omega)
    have k2 := f1 1 0 2 (by omega)
    have k3 := f1 0 0 2 (by omega)
    have k4 := f1 21 0 0 (by omega)
    have k5 := e 0 0 2 (by omega)
    have k6 := e 21 0 0 (by omega)
    have k7 := h.2.2.1.1
    refine ⟨h.row (fun k l i q => (f1 k l i (by omega)).trans (e k l i (by omega))) ?_ ?_, _, hr, hr1⟩
    · unfold XR
      omega
    · refine ⟨by omega, by omega, fun q => by omega, fun _ => ⟨by omega, by omega, fun j j0 j1 => ?_⟩⟩
      rw [c3 j j0 j1, f1 2 0 j (by omega), d3 j j0 j1]
theorem cp_put {μ : Mm} (h : J μ) (a i v : Int) (ha : inR a) (hi : inR i) (hv : inR v) : Cp vI mX5_put mX6_put 6 [vI a, vI i, vI v] μ := by
  have j := h.2.2.1
  have x := h.2.1
  refine ⟨_, x_put a i v ha hi hv x, fun r ν hQ => ?_⟩
  have E : ∀ (k : Nat) (l i : Int), 21 ≤ k → ν k l i = μ k l i := fun k l i q => by
    rcases hQ with ⟨g, hr, hν⟩ | ⟨g, hr, hν⟩ | ⟨g, hr, hν⟩ | ⟨g, hr, hν⟩ | ⟨g, hr, hν⟩ <;> rw [hν] <;> first | rfl | exact mset_k (by omega)
  have e1 := E 21 0 1 (by omega)
  have e2 := E 21 0 2 (by omega)
  have x1 := x.1
  have x2 := x.2
  have j2 := j.2.1
  have j3 := j.2.2.1
  refine ⟨_, m_put (μ := ν) a i v ha hi hv (by omega), fun r1 ν1 hQ1 => ?_⟩
  have j4 : μ 1 0 2 ≠ -1 → μ 21 0 1 = μ 1 0 1 ∧ μ 21 0 2 = μ 1 0 2 := fun q => ⟨(j.2.2.2 q).1, (j.2.2.2 q).2.1⟩
  rcases hQ with ⟨g, hr, hν⟩ | ⟨g, hr, hν⟩ | ⟨g, hr, hν⟩ | ⟨g, hr, hν⟩ | ⟨g, hr, hν⟩ <;> rcases hQ1 with ⟨g1, hr1, hν1⟩ | ⟨g1, hr1, hν1⟩ | ⟨g1, hr1, hν1⟩ | ⟨g1, hr1, hν1⟩ | ⟨g1, hr1, hν1⟩ <;> first | (exfalso; omega) | skip
  · exact ⟨by rw [hν1, hν]; exact h, _, hr, hr1⟩
  · exact ⟨by rw [hν1, hν]; exact h.cause 1, _, hr, hr1⟩
  · exact ⟨by rw [hν1, hν]; exact h.cause 4, _, hr, hr1⟩
  · exact ⟨by rw [hν1, hν]; exact h.cause 2, _, hr, hr1⟩
  · have e : ∀ (k : Nat) (l1 q : Int), ¬ (k = 2 ∨ k = 22) → ν1 k l1 q = μ k l1 q := fun k l1 q z => by rw [hν1, mset_k (by omega), hν, mset_k (by omega)]
    have jq := j.2.2.2 (by omega)
    have ea : a = μ 1 0 1 := by omega
    refine ⟨h.row (fun k l1 q z => e k l1 q (by omega)) (x.fr (e 1 0 1 (by omega)) (e 1 0 2 (by omega))) ?_, _, hr, hr1⟩
    refine ⟨by rw [e 0 0 2 (by omega), e 21 0 0 (by omega)]; exact j.1, by rw [e 21 0 2 (by omega)]; exact j2, by rw [e 1 0 2 (by omega), e 21 0 1 (by omega)]; exact j3, fun _ => ⟨by rw [e 21 0 1 (by omega), e 1 0 1 (by omega)]; exact jq.1, by rw [e 21 0 2 (by omega), e 1 0 2 (by omega)]; exact jq.2.1, fun p p0 p1 => ?_⟩⟩
    by_cases q : p = i
    · subst q
      rw [hν1, mset_eq, mset_k (by omega), hν, mset_eq, ea]
    · rw [hν1, mset_i q, mset_k (by omega), hν, mset_k (by omega), mset_i q]
      exact jq.2.2 p p0 p1
theorem cp_lose {μ : Mm} (h : J μ) : Cp vI mX5_lose mX6_lose 6 [] μ := by
  have j := h.2.2.1
  have x := h.2.1
  refine ⟨_, x_lose, fun r ν hQ => ⟨_, m_lose (μ := ν), fun r1 ν1 hQ1 => ?_⟩⟩
  have x1 := x.1
  have x2 := x.2
  have j2 := j.2.1
  have j3 := j.2.2.1
  have j4 : μ 1 0 2 ≠ -1 → μ 21 0 1 = μ 1 0 1 := fun q => (j.2.2.2 q).1
  rcases hQ with ⟨g, hr, hν⟩ | ⟨g, hr, hν⟩
  · have e1 : ν 21 0 1 = μ 21 0 1 := by rw [hν, mset_k (by omega)]
    rcases hQ1 with ⟨g1, hr1, hν1⟩ | ⟨g1, hr1, hν1⟩
    · exact ⟨by rw [hν1, hν]; exact h.cause 1, _, hr, hr1⟩
    · exfalso; omega
  · have e1 : ν 21 0 1 = μ 21 0 1 := by rw [hν, mset_k (by omega)]
    rcases hQ1 with ⟨g1, hr1, hν1⟩ | ⟨g1, hr1, hν1⟩
    · exfalso; omega
    · have e : ∀ (k : Nat) (l1 q : Int), ¬ (k = 1 ∧ q = 2 ∨ k = 21 ∧ q = 1) → ν1 k l1 q = μ k l1 q := fun k l1 q z => by rw [hν1, mset_ne (by omega), hν, mset_ne (by omega)]
      have d1 : ν1 1 0 2 = -1 := by rw [hν1, mset_k (by omega), hν, mset_eq]
      have d2 : ν1 21 0 1 = -1 := by rw [hν1, mset_eq]
      have k1 := e 1 0 1 (by omega)
      refine ⟨h.row (fun k l1 q z => e k l1 q (by omega)) (by unfold XR; omega) ⟨by rw [e 0 0 2 (by omega), e 21 0 0 (by omega)]; exact j.1, by rw [e 21 0 2 (by omega)]; exact j2, fun _ => d2, fun q => absurd d1 q⟩, _, hr, hr1⟩
/-! what changes the net -/
theorem cp_corner {μ : Mm} (h : J μ) : Cp vI mX5_corner mX6_corner 6 [] μ := by
  have j := h.2.2.1
  have x := h.2.1
  have p := h.2.2.2.2.1.pl
  obtain ⟨p1, p2, p3, p4, p5⟩ := p
  have b := h.1.1.1.un
  obtain ⟨b1, b2, b3, b4, b5, b6, b7⟩ := b
  refine ⟨_, x_corner h.1.1 h.1.2 x, fun r ν hQ => ?_⟩
  have E : ∀ (k : Nat) (l i : Int), 21 ≤ k → ν k l i = μ k l i := fun k l i q => by
    rcases hQ with ⟨g, hr, hν⟩ | ⟨g, hr, hν⟩ | ⟨g, hr, hν⟩ | ⟨g, hr, hν⟩ | ⟨g, hr, f, -⟩
    all_goals first | exact f k l i (by omega) | (subst hν; first | rfl | exact mset_k (by omega))
  have e1 := E 21 0 1 (by omega)
  have e2 := E 21 0 2 (by omega)
  have e3 := E 23 0 0 (by omega)
  have x1 := x.1
  have x2 := x.2
  have j3 := j.2.2.1
  refine ⟨_, m_corner (μ := ν) (by omega), fun r1 ν1 hQ1 => ?_⟩
  have j4 : μ 1 0 2 ≠ -1 → μ 21 0 1 = μ 1 0 1 ∧ μ 21 0 2 = μ 1 0 2 := fun q => ⟨(j.2.2.2 q).1, (j.2.2.2 q).2.1⟩
  have j5 : μ 1 0 2 ≠ -1 → ((∀ z, 0 ≤ z → z < 3 → -1000 ≤ ν 22 0 z ∧ ν 22 0 z ≤ 1000) ↔ (∀ z, 0 ≤ z → z < 3 → -1000 ≤ μ 2 0 z ∧ μ 2 0 z ≤ 1000)) := fun q => by
    constructor
    · intro w z z0 z1; have := w z z0 z1; rw [E 22 0 z (by omega), (j.2.2.2 q).2.2 z z0 (by omega)] at this; exact this
    · intro w z z0 z1; rw [E 22 0 z (by omega), (j.2.2.2 q).2.2 z z0 (by omega)]; exact w z z0 z1
  rcases hQ with ⟨g, hr, hν⟩ | ⟨g, hr, hν⟩ | ⟨g, hr, hν⟩ | ⟨g, hr, hν⟩ | ⟨g, hr, f, c1, c2, hX⟩ <;> rcases hQ1 with ⟨g1, hr1, hν1⟩ | ⟨g1, hr1, hν1⟩ | ⟨g1, hr1, hν1⟩ | ⟨g1, hr1, hν1⟩ | ⟨g1, hr1, f1, d1, d2, d3⟩ <;> first | (exfalso; omega) | skip
  · exact ⟨by rw [hν1, hν]; exact h.cause 1, _, hr, hr1⟩
  · exact ⟨by rw [hν1, hν]; exact h.cause 2, _, hr, hr1⟩
  · exact ⟨by rw [hν1, hν]; exact h, _, hr, hr1⟩
  · exact absurd ((j5 (by omega)).mp g1.2.2.1) g.2
  · exact absurd ((j5 (by omega)).mp g1.2.2.1) g.2
  · exact absurd ((j5 (by omega)).mpr g.2.1) g1.2.2
  · exact ⟨by rw [hν1, hν]; exact h, _, hr, hr1⟩
  · exact absurd ((j5 (by omega)).mpr g.2.1) g1.2.2
  · have e21 : ∀ i, i ≠ 4 → ν1 21 0 i = μ 21 0 i := fun i q => (f1 21 0 i (by omega)).trans (E 21 0 i (by omega))
    have k0 : ν1 11 0 0 = μ 11 0 0 + 1 := by rw [f1 11 0 0 (by omega)]; exact c1
    have k1 : ν1 11 0 1 = μ 11 0 1 := (f1 11 0 1 (by omega)).trans (f 11 0 1 (by omega))
    have k13 : ∀ i, ν1 13 0 i = μ 13 0 i := fun i => (f1 13 0 i (by omega)).trans (f 13 0 i (by omega))
    refine ⟨h.mut (fun k l i q => f k l i (by omega)) hX (fun k l i q => f1 k l i (by omega)) d2 (h.2.2.2.1.fr (fun k i q => (f1 k 0 i (by omega)).trans (f k 0 i (by omega)))) ⟨?_, ?_, fun g0 q0 q1 => ?_, fun s s0 s1 => ?_, fun i i0 i1 => ?_⟩, _, hr, by rw [hr1, e3, p1]⟩
    · rw [d1, k0, e3, p1]
    · rw [f1 24 0 0 (by omega), E 24 0 0 (by omega), k1]; exact p2
    · rw [k1] at q1
      rw [f1 27 0 g0 (by omega), f1 28 0 g0 (by omega), E 27 0 g0 (by omega), E 28 0 g0 (by omega), k13, k13]
      exact p3 g0 q0 q1
    · rw [k1, k13] at s1
      rw [f1 29 0 s (by omega), E 29 0 s (by omega), f1 14 0 s (by omega), f 14 0 s (by omega)]
      exact p4 s s0 s1
    · by_cases q : i < 3 * μ 11 0 0
      · rw [f1 26 0 i (by omega), E 26 0 i (by omega), f1 12 0 i (by omega), f 12 0 i (by omega)]
        exact p5 i i0 q
      · have w := d3 (i - 3 * μ 11 0 0) (by omega) (by omega)
        have w2 := c2 (i - 3 * μ 11 0 0) (by omega) (by omega)
        rw [e3, p1, show 3 * μ 11 0 0 + (i - 3 * μ 11 0 0) = i by omega] at w
        rw [show 3 * μ 11 0 0 + (i - 3 * μ 11 0 0) = i by omega] at w2
        rw [w, f1 12 0 i (by omega), w2, E 22 0 _ (by omega)]
        exact (j.2.2.2 (by omega)).2.2 _ (by omega) (by omega)
