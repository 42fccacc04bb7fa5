/-! THE CLASS AND THE REFERENCE side by side: what changes the net -/
theorem cp_place {μ : Mm} (h : J μ) (c a v : Int) (hc : inR c) (ha : inR a) (hv : inR v) : Cp vI mX5_place mX6_place 6 [vI c, vI a, vI v] μ := by
  have j := h.2.2.1
  have x := h.2.1
  obtain ⟨p1, p2, p3, p4, p5⟩ := h.2.2.2.2.1.pl
  obtain ⟨b1, b2, b3, b4, b5, b6, b7⟩ := h.1.1.1.un
  refine ⟨_, x_place c a v hc ha hv h.1.1 h.1.2, fun r ν hQ => ?_⟩
  have E : ∀ (k : Nat) (l i : Int), 21 ≤ k → ν k l i = μ k l i := fun k l i q => by
    rcases hQ with ⟨g, hr, hν⟩ | ⟨g, hr, hν⟩ | ⟨g, hr, f, -⟩
    · rw [hν]
    · rw [hν]
    · exact f k l i (by omega)
  have e3 := E 23 0 0 (by omega)
  refine ⟨_, m_place (μ := ν) c a v hc ha hv (by omega), fun r1 ν1 hQ1 => ?_⟩
  rcases hQ with ⟨g, hr, hν⟩ | ⟨g, hr, hν⟩ | ⟨g, hr, f, c1, hX⟩ <;> rcases hQ1 with ⟨g1, hr1, hν1⟩ | ⟨g1, hr1, hν1⟩ | ⟨g1, hr1, hν1⟩ <;> first | (exfalso; omega) | skip
  · exact ⟨by rw [hν1, hν]; exact h, _, hr, hr1⟩
  · exact ⟨by rw [hν1, hν]; exact h, _, hr, hr1⟩
  · have f1 : ∀ (k : Nat) (l i : Int), ¬ (k = 26 ∧ l = 0 ∧ i = 3 * c + a ∨ k = 21 ∧ l = 0 ∧ i = 4) → ν1 k l i = ν k l i := fun k l i q => by rw [hν1, mset_ne (by omega), mset_ne (by omega)]
    have d4 : ν1 21 0 4 = 1 := by rw [hν1, mset_eq]
    have d5 : ν1 26 0 (3 * c + a) = v := by rw [hν1, mset_k (by omega), mset_eq]
    have k0 : ν1 11 0 0 = μ 11 0 0 := (f1 11 0 0 (by omega)).trans (f 11 0 0 (by omega))
    have k1 : ν1 11 0 1 = μ 11 0 1 := (f1 11 0 1 (by omega)).trans (f 11 0 1 (by omega))
    have k13 : ∀ i, ν1 13 0 i = μ 13 0 i := fun i => (f1 13 0 i (by omega)).trans (f 13 0 i (by omega))
    refine ⟨h.mut (fun k l i q => f k l i (by omega)) hX (fun k l i q => f1 k l i (by omega)) d4 (h.2.2.2.1.fr (fun k i q => (f1 k 0 i (by omega)).trans (f k 0 i (by omega)))) ⟨?_, ?_, fun g0 q0 q1 => ?_, fun s s0 s1 => ?_, fun i i0 i1 => ?_⟩, _, hr, by rw [hr1, E 26 0 _ (by omega), p5 _ (by omega) (by omega)]⟩
    · rw [f1 23 0 0 (by omega), e3, k0]; exact p1
    · rw [f1 24 0 0 (by omega), E 24 0 0 (by omega), k1]; exact p2
    · rw [k1] at q1
      rw [f1 27 0 g0 (by omega), f1 28 0 g0 (by omega), E 27 0 g0 (by omega), E 28 0 g0 (by omega), k13, k13]
      exact p3 g0 q0 q1
    · rw [k1, k13] at s1
      rw [f1 29 0 s (by omega), E 29 0 s (by omega), f1 14 0 s (by omega), f 14 0 s (by omega)]
      exact p4 s s0 s1
    · rw [k0] at i1
      by_cases q : i = 3 * c + a
      · rw [q, d5, f1 12 0 _ (by omega), c1]
      · rw [f1 26 0 i (by omega), E 26 0 i (by omega), f1 12 0 i (by omega), f 12 0 i (by omega)]
        exact p5 i i0 i1
theorem cp_undo {μ : Mm} (h : J μ) : Cp vI mX5_undo mX6_undo 6 [] μ := by
  have j := h.2.2.1
  have x := h.2.1
  obtain ⟨p1, p2, p3, p4, p5⟩ := h.2.2.2.2.1.pl
  obtain ⟨b1, b2, b3, b4, b5, b6, b7⟩ := h.1.1.1.un
  refine ⟨_, x_undo h.1.1 h.1.2, fun r ν hQ => ?_⟩
  have E : ∀ (k : Nat) (l i : Int), 21 ≤ k → ν k l i = μ k l i := fun k l i q => by
    rcases hQ with ⟨g, hr, hν⟩ | ⟨g, hr, f, -⟩
    · rw [hν]
    · exact f k l i (by omega)
  have e3 := E 24 0 0 (by omega)
  refine ⟨_, m_undo (μ := ν) (by omega), fun r1 ν1 hQ1 => ?_⟩
  rcases hQ with ⟨g, hr, hν⟩ | ⟨g, hr, f, c1, hX⟩ <;> rcases hQ1 with ⟨g1, hr1, hν1⟩ | ⟨g1, hr1, hν1⟩ <;> first | (exfalso; omega) | skip
  · exact ⟨by rw [hν1, hν]; exact h, _, hr, hr1⟩
  · have f1 : ∀ (k : Nat) (l i : Int), ¬ (k = 24 ∧ l = 0 ∧ i = 0 ∨ k = 21 ∧ l = 0 ∧ i = 4) → ν1 k l i = ν k l i := fun k l i q => by rw [hν1, mset_ne (by omega), mset_ne (by omega)]
    have d4 : ν1 21 0 4 = 1 := by rw [hν1, mset_eq]
    have d5 : ν1 24 0 0 = ν 24 0 0 - 1 := by rw [hν1, mset_k (by omega), mset_eq]
    have k0 : ν1 11 0 0 = μ 11 0 0 := (f1 11 0 0 (by omega)).trans (f 11 0 0 (by omega))
    have k1 : ν1 11 0 1 = μ 11 0 1 - 1 := (f1 11 0 1 (by omega)).trans c1
    have k13 : ∀ i, ν1 13 0 i = μ 13 0 i := fun i => (f1 13 0 i (by omega)).trans (f 13 0 i (by omega))
    have mn := b4 (μ 11 0 1 - 1) (by omega) (by omega)
    rw [show μ 11 0 1 - 1 + 1 = μ 11 0 1 by omega] at mn
    refine ⟨h.mut (fun k l i q => f k l i (by omega)) hX (fun k l i q => f1 k l i (by omega)) d4 (h.2.2.2.1.fr (fun k i q => (f1 k 0 i (by omega)).trans (f k 0 i (by omega)))) ⟨?_, ?_, fun g0 q0 q1 => ?_, fun s s0 s1 => ?_, fun i i0 i1 => ?_⟩, _, hr, by rw [hr1, e3, p2]⟩
    · rw [f1 23 0 0 (by omega), E 23 0 0 (by omega), k0]; exact p1
    · rw [d5, e3, k1, p2]
    · rw [k1] at q1
      rw [f1 27 0 g0 (by omega), f1 28 0 g0 (by omega), E 27 0 g0 (by omega), E 28 0 g0 (by omega), k13, k13]
      exact p3 g0 q0 (by omega)
    · rw [k1, k13] at s1
      rw [f1 29 0 s (by omega), E 29 0 s (by omega), f1 14 0 s (by omega), f 14 0 s (by omega)]
      exact p4 s s0 (by omega)
    · rw [k0] at i1
      rw [f1 26 0 i (by omega), E 26 0 i (by omega), f1 12 0 i (by omega), f 12 0 i (by omega)]
      exact p5 i i0 i1
theorem cp_clear {μ : Mm} (h : J μ) : Cp vI mX5_clear mX6_clear 6 [] μ := by
  have j := h.2.2.1
  have x := h.2.1
  obtain ⟨p1, p2, p3, p4, p5⟩ := h.2.2.2.2.1.pl
  obtain ⟨b1, b2, b3, b4, b5, b6, b7⟩ := h.1.1.1.un
  refine ⟨_, x_clear h.1.1, fun r ν hQ => ?_⟩
  obtain ⟨hr, f, c1, c2, c3, hX⟩ := hQ
  have E : ∀ (k : Nat) (l i : Int), 21 ≤ k → ν k l i = μ k l i := fun k l i q => f k l i (by omega)
  refine ⟨_, m_clear (μ := ν), fun r1 ν1 hQ1 => ?_⟩
  obtain ⟨hr1, hν1⟩ := hQ1
  have f1 : ∀ (k : Nat) (l i : Int), ¬ (l = 0 ∧ (k = 23 ∧ i = 0 ∨ k = 24 ∧ i = 0 ∨ k = 21 ∧ (i = 18 ∨ i = 4))) → ν1 k l i = ν k l i := fun k l i q => by rw [hν1, mset_ne (by omega), mset_ne (by omega), mset_ne (by omega), mset_ne (by omega)]
  have d4 : ν1 21 0 4 = 1 := by rw [hν1, mset_eq]
  have d5 : ν1 21 0 18 = 0 := by rw [hν1, mset_i (by omega), mset_eq]
  have d6 : ν1 24 0 0 = 0 := by rw [hν1, mset_k (by omega), mset_k (by omega), mset_eq]
  have d7 : ν1 23 0 0 = 0 := by rw [hν1, mset_k (by omega), mset_k (by omega), mset_k (by omega), mset_eq]
  have k0 : ν1 11 0 0 = 0 := (f1 11 0 0 (by omega)).trans c1
  have k1 : ν1 11 0 1 = 0 := (f1 11 0 1 (by omega)).trans c2
  have k7 : ν1 7 0 3 = 0 := (f1 7 0 3 (by omega)).trans c3
  have k13 : ν1 13 0 0 = 0 := ((f1 13 0 0 (by omega)).trans (f 13 0 0 (by omega))).trans b3
  refine ⟨h.mut (fun k l i q => f k l i (by omega)) hX (fun k l i q => f1 k l i (by omega)) d4 ⟨by rw [d5, k7], fun i i0 i1 => by omega⟩ ⟨by omega, by omega, fun g0 q0 q1 => by omega, fun s s0 s1 => ?_, fun i i0 i1 => by omega⟩, _, hr, by rw [hr1, E 23 0 0 (by omega), p1]⟩
  rw [k1, k13] at s1
  omega
theorem cp_turn {μ : Mm} (h : J μ) (g : Int) (hg : inR g) : Cp vI mX5_turn mX6_turn 6 [vI g] μ := by
  have j := h.2.2.1
  have x := h.2.1
  obtain ⟨p1, p2, p3, p4, p5⟩ := h.2.2.2.2.1.pl
  obtain ⟨b1, b2, b3, b4, b5, b6, b7⟩ := h.1.1.1.un
  refine ⟨_, x_turn g hg h.1.1 h.1.2, fun r ν hQ => ?_⟩
  have E : ∀ (k : Nat) (l i : Int), 21 ≤ k → ν k l i = μ k l i := fun k l i q => by
    rcases hQ with ⟨g, hr, hν⟩ | ⟨g, hr, f, -⟩
    · rw [hν]
    · exact f k l i (by omega)
  have e3 := E 24 0 0 (by omega)
  have hF : ∀ f, 0 ≤ f → f < ν 24 0 0 → 0 ≤ ν 27 0 f ∧ 3 ≤ ν 28 0 f ∧ ν 27 0 f + ν 28 0 f ≤ 84 := fun f f0 f1 => by
    rw [e3, p2] at f1
    have w := p3 f f0 f1
    have gp : GP (Nt μ 0) := h.1.1.1.1.2.1
    have m0 := gp.mono (f := 0) (g := f) (by omega) f0 (show f ≤ μ 11 0 1 by omega)
    have m1 := gp.mono (f := f + 1) (g := μ 11 0 1) (by omega) (by omega) (show μ 11 0 1 ≤ μ 11 0 1 by omega)
    have m0 : μ 13 0 0 + 3 * (f - 0) ≤ μ 13 0 f := m0
    have m1 : μ 13 0 (f + 1) + 3 * (μ 11 0 1 - (f + 1)) ≤ μ 13 0 (μ 11 0 1) := m1
    have m2 := b4 f f0 f1
    rw [E 27 0 f (by omega), E 28 0 f (by omega)]
    omega
  refine ⟨_, m_turn (μ := ν) g hg (by omega) hF, fun r1 ν1 hQ1 => ?_⟩
  rcases hQ with ⟨g0, hr, hν⟩ | ⟨g0, hr, f, c1, hX⟩ <;> rcases hQ1 with ⟨g1, hr1, hν1⟩ | ⟨g1, hr1, f1, d4, d5⟩ <;> first | (exfalso; omega) | skip
  · exact ⟨by rw [hν1, hν]; exact h, _, hr, hr1⟩
  · have w := p3 g g0.1 g0.2
    have e27 : ν 27 0 g = μ 13 0 g := (E 27 0 g (by omega)).trans w.1
    have e28 : ν 28 0 g = μ 13 0 (g + 1) - μ 13 0 g := (E 28 0 g (by omega)).trans w.2
    have gp : GP (Nt μ 0) := h.1.1.1.1.2.1
    have m0 : μ 13 0 0 + 3 * (g - 0) ≤ μ 13 0 g := gp.mono (f := 0) (g := g) (by omega) g0.1 (show g ≤ μ 11 0 1 by omega)
    have m1 : μ 13 0 (g + 1) + 3 * (μ 11 0 1 - (g + 1)) ≤ μ 13 0 (μ 11 0 1) := gp.mono (f := g + 1) (g := μ 11 0 1) (by omega) (by omega) (show μ 11 0 1 ≤ μ 11 0 1 by omega)
    have m2 := b4 g g0.1 g0.2
    have k0 : ν1 11 0 0 = μ 11 0 0 := (f1 11 0 0 (by omega)).trans (f 11 0 0 (by omega))
    have k1 : ν1 11 0 1 = μ 11 0 1 := (f1 11 0 1 (by omega)).trans (f 11 0 1 (by omega))
    have k13 : ∀ i, ν1 13 0 i = μ 13 0 i := fun i => (f1 13 0 i (by omega)).trans (f 13 0 i (by omega))
    refine ⟨h.mut (fun k l i q => f k l i (by omega)) hX (fun k l i q => f1 k l i (by omega)) d4 (h.2.2.2.1.fr (fun k i q => (f1 k 0 i (by omega)).trans (f k 0 i (by omega)))) ⟨?_, ?_, fun g0 q0 q1 => ?_, fun s s0 s1 => ?_, fun i i0 i1 => ?_⟩, _, hr, hr1⟩
    · rw [f1 23 0 0 (by omega), E 23 0 0 (by omega), k0]; exact p1
    · rw [f1 24 0 0 (by omega), e3, k1]; exact p2
    · rw [k1] at q1
      rw [f1 27 0 g0 (by omega), f1 28 0 g0 (by omega), E 27 0 g0 (by omega), E 28 0 g0 (by omega), k13, k13]
      exact p3 g0 q0 q1
    · rw [k1, k13] at s1
      by_cases q : μ 13 0 g + 1 ≤ s ∧ s ≤ μ 13 0 (g + 1) - 1
      · rw [d5 s (by omega) (by omega), f1 14 0 s (by omega), c1 s q.1 q.2, E 29 0 _ (by omega), e27, e28, show μ 13 0 g + (μ 13 0 (g + 1) - μ 13 0 g) - 1 = μ 13 0 (g + 1) - 1 by omega]
        exact p4 _ (by omega) (by omega)
      · rw [f1 29 0 s (by omega), E 29 0 s (by omega), f1 14 0 s (by omega), f 14 0 s (by omega)]
        exact p4 s s0 s1
    · rw [k0] at i1
      rw [f1 26 0 i (by omega), E 26 0 i (by omega), f1 12 0 i (by omega), f 12 0 i (by omega)]
      exact p5 i i0 i1
theorem cp_face {μ : Mm} (h : J μ) (n : Int) (hn : inR n) : Cp vI mX5_face mX6_face 6 [vI n] μ := by
  have j := h.2.2.1
  have x := h.2.1
  obtain ⟨p1, p2, p3, p4, p5⟩ := h.2.2.2.2.1.pl
  obtain ⟨b1, b2, b3, b4, b5, b6, b7⟩ := h.1.1.1.un
  have n6 := h.1.2.n b3 _ (μ 11 0 1) rfl b2.1 (by omega)
  have n0 := h.1.1.1.nb.2.2.1
  refine ⟨_, x_face n hn h.1.1 h.1.2 x, fun r ν hQ => ?_⟩
  have E : ∀ (k : Nat) (l i : Int), 21 ≤ k → ν k l i = μ k l i := fun k l i q => by
    rcases hQ with ⟨g, hr, hν⟩ | ⟨g, hr, hν⟩ | ⟨g, hr, hν⟩ | ⟨g, hr, hν⟩ | ⟨g, hr, hν⟩ | ⟨g, hr, f, -⟩
    all_goals first | exact f k l i (by omega) | (subst hν; first | rfl | exact mset_k (by omega))
  have e1 := E 21 0 1 (by omega)
  have e2 := E 21 0 2 (by omega)
  have e3 := E 23 0 0 (by omega)
  have e4 := E 24 0 0 (by omega)
  have x1 := x.1
  have x2 := x.2
  have j2 := j.2.1
  have j3 := j.2.2.1
  have hs : (ν 24 0 0 = 0 → μ 13 0 (μ 11 0 1) = 0) ∧ (ν 24 0 0 ≠ 0 → ν 27 0 (ν 24 0 0 - 1) + ν 28 0 (ν 24 0 0 - 1) = μ 13 0 (μ 11 0 1)) := by
    rw [e4, p2]
    refine ⟨fun q => by rw [q]; exact b3, fun q => ?_⟩
    have w := p3 (μ 11 0 1 - 1) (by omega) (by omega)
    rw [show μ 11 0 1 - 1 + 1 = μ 11 0 1 by omega] at w
    rw [E 27 0 _ (by omega), E 28 0 _ (by omega), w.1, w.2]
    omega
  refine ⟨_, m_face (μ := ν) n (μ 13 0 (μ 11 0 1)) hn (by omega) (by omega) (by omega) hs (fun q => by omega), fun r1 ν1 hQ1 => ?_⟩
  have j4 : μ 1 0 2 ≠ -1 → μ 21 0 1 = μ 1 0 1 ∧ μ 21 0 2 = μ 1 0 2 := fun q => ⟨(j.2.2.2 q).1, (j.2.2.2 q).2.1⟩
  have j5 : 3 ≤ n → n ≤ 6 → μ 1 0 2 ≠ -1 → ((∀ z, 0 ≤ z → z < n → 0 ≤ ν 22 0 z ∧ ν 22 0 z ≤ ν 23 0 0 - 1) ↔ (∀ z, 0 ≤ z → z < n → 0 ≤ μ 2 0 z ∧ μ 2 0 z ≤ μ 11 0 0 - 1)) := fun n3 n66 q => by
    constructor
    · intro w z z0 z1; have := w z z0 z1; rw [E 22 0 z (by omega), (j.2.2.2 q).2.2 z z0 (by omega)] at this; omega
    · intro w z z0 z1; have := w z z0 z1; rw [E 22 0 z (by omega), (j.2.2.2 q).2.2 z z0 (by omega)]; omega
  rcases hQ with ⟨g, hr, hν⟩ | ⟨g, hr, hν⟩ | ⟨g, hr, hν⟩ | ⟨g, hr, hν⟩ | ⟨g, hr, hν⟩ | ⟨g, hr, f, c1, c2, c3, hX⟩ <;> rcases hQ1 with ⟨g1, hr1, hν1⟩ | ⟨g1, hr1, hν1⟩ | ⟨g1, hr1, hν1⟩ | ⟨g1, hr1, hν1⟩ | ⟨g1, hr1, hν1⟩ | ⟨g1, hr1, f1, d1, d2, d3, d4, d5⟩ <;> first | (exfalso; omega) | skip
  · exact ⟨by rw [hν1, hν]; exact h, _, hr, hr1⟩
  · exact ⟨by rw [hν1, hν]; exact h.cause 1, _, hr, hr1⟩
  · exact ⟨by rw [hν1, hν]; exact h.cause 2, _, hr, hr1⟩
  · exact ⟨by rw [hν1, hν]; exact h, _, hr, hr1⟩
  · exact absurd ((j5 (by omega) (by omega) (by omega)).mp g1.2.2.2.1) g.2.2
  · exact absurd ((j5 (by omega) (by omega) (by omega)).mp g1.2.2.2.1) g.2.2
  · exact absurd ((j5 (by omega) (by omega) (by omega)).mpr g.2.2.1) g1.2.2.2
  · exact ⟨by rw [hν1, hν]; exact h, _, hr, hr1⟩
  · exact absurd ((j5 (by omega) (by omega) (by omega)).mpr g.2.2.1) g1.2.2.2
  · have k0 : ν1 11 0 0 = μ 11 0 0 := (f1 11 0 0 (by omega)).trans (f 11 0 0 (by omega))
    have k1 : ν1 11 0 1 = μ 11 0 1 + 1 := (f1 11 0 1 (by omega)).trans c1
    have k13 : ∀ i, i ≠ μ 11 0 1 + 1 → ν1 13 0 i = μ 13 0 i := fun i q => (f1 13 0 i (by omega)).trans (f 13 0 i (by omega))
    have k14 : ν1 13 0 (μ 11 0 1 + 1) = μ 13 0 (μ 11 0 1) + n := (f1 13 0 _ (by omega)).trans c2
    refine ⟨h.mut (fun k l i q => f k l i (by omega)) hX (fun k l i q => f1 k l i (by omega)) d4 (h.2.2.2.1.fr (fun k i q => (f1 k 0 i (by omega)).trans (f k 0 i (by omega)))) ⟨?_, ?_, fun g0 q0 q1 => ?_, fun s s0 s1 => ?_, fun i i0 i1 => ?_⟩, _, hr, by rw [hr1, e4, p2]⟩
    · rw [f1 23 0 0 (by omega), e3, k0]; exact p1
    · rw [d1, e4, p2, k1]
    · rw [k1] at q1
      by_cases q : g0 = μ 11 0 1
      · subst q
        rw [e4, p2] at d2 d3
        rw [d2, d3, k14, k13 _ (by omega)]
        omega
      · rw [f1 27 0 g0 (by omega), f1 28 0 g0 (by omega), E 27 0 g0 (by omega), E 28 0 g0 (by omega), k13 g0 (by omega), k13 (g0 + 1) (by omega)]
        exact p3 g0 q0 (by omega)
    · rw [k1, k14] at s1
      by_cases q : s < μ 13 0 (μ 11 0 1)
      · rw [f1 29 0 s (by omega), E 29 0 s (by omega), f1 14 0 s (by omega), f 14 0 s (by omega)]
        exact p4 s s0 q
      · have w := d5 (s - μ 13 0 (μ 11 0 1)) (by omega) (by omega)
        have w2 := c3 (s - μ 13 0 (μ 11 0 1)) (by omega) (by omega)
        rw [show μ 13 0 (μ 11 0 1) + (s - μ 13 0 (μ 11 0 1)) = s by omega] at w w2
        rw [w, f1 14 0 s (by omega), w2, E 22 0 _ (by omega)]
        exact (j.2.2.2 (by omega)).2.2 _ (by omega) (by omega)
    · rw [k0] at i1
      rw [f1 26 0 i (by omega), E 26 0 i (by omega), f1 12 0 i (by omega), f 12 0 i (by omega)]
      exact p5 i i0 i1
/-! the moves -/
theorem RK_m {μ ν : Mm} {q v w : Int} (jm : JM μ) (hE : ∀ (k : Nat) (l i : Int), 21 ≤ k → ν k l i = μ k l i) (a : RK μ q v) (b : RKm ν q w) : v = w := by
  have e := hE 21 0 18 (by omega)
  have e7 := jm.1
  obtain ⟨a1, a2, a3⟩ := a
  obtain ⟨c1, c2, c3⟩ := b
  rcases Int.lt_trichotomy v w with z | z | z
  · exfalso
    have u := c2 v (by omega) z
    rw [hE 32 0 v (by omega), (jm.2 v (by omega) (by omega)).1] at u
    have u2 := a3 v (by omega) (by omega)
    omega
  · exact z
  · exfalso
    have u := c3 (by omega)
    rw [hE 32 0 w (by omega), (jm.2 w (by omega) (by omega)).1] at u
    have u2 := a2 w (by omega) z
    omega
theorem mv_one {μ ν ν1 : Mm} {i t : Int} (jm : JM μ) (hE : ∀ (k : Nat) (l i : Int), 21 ≤ k → ν k l i = μ k l i) (g : ∀ (k : Nat) (l i : Int), k ≤ 20 → ν1 k l i = ν k l i) (t0 : 0 ≤ t) (t1 : t < μ 7 0 3) (a : SM μ ν i t) (b : SMm ν ν1 i t) : ν1 32 0 i = ky ν1 i ∧ ∀ a, 0 ≤ a → a < 3 → ν1 33 0 (3 * i + a) = ν1 10 0 (3 * i + a) := by
  have w := jm.2 t t0 t1
  refine ⟨?_, fun z z0 z1 => ?_⟩
  · unfold ky
    rw [b.1, hE 32 0 t (by omega), w.1, g 8 0 i (by omega), g 9 0 i (by omega), a.1, a.2.1]
    rfl
  · rw [b.2 z z0 z1, hE 33 0 _ (by omega), w.2 z z0 z1, g 10 0 _ (by omega), a.2.2 z z0 z1]
theorem cp_move {μ : Mm} (h : J μ) (l c x y z : Int) (hl : inR l) (hc : inR c) (hx : inR x) (hy : inR y) (hz : inR z) : Cp vI mX5_move mX6_move 6 [vI l, vI c, vI x, vI y, vI z] μ := by
  have jm := h.2.2.2.1
  have jm1 := jm.1
  have mv := h.1.1.2.2.1.1
  refine ⟨_, x_move l c x y z hl hc hx hy hz h.1.1 h.1.2, fun r ν hQ => ?_⟩
  have E : ∀ (k : Nat) (l i : Int), 21 ≤ k → ν k l i = μ k l i := fun k l i q => by
    rcases hQ with ⟨g, hr, hν⟩ | ⟨g, hr, hν⟩ | ⟨g, hr, f, -⟩ | ⟨g, gg, gk, hr, hν⟩ | ⟨g, hr, f, -⟩
    all_goals first | exact f k l i (by omega) | rw [hν]
  have e18 := E 21 0 18 (by omega)
  refine ⟨_, m_move (μ := ν) l c x y z hl hc hx hy hz (by omega), fun r1 ν1 hQ1 => ?_⟩
  have JB1 : ∀ (f : ∀ (k : Nat) (l1 i : Int), ¬ (k = 7 ∨ k = 8 ∨ k = 9 ∨ k = 10 ∨ k = 3 ∧ l1 = 0 ∧ i = 6) → ν k l1 i = μ k l1 i) (f1 : ∀ (k : Nat) (l1 i : Int), ¬ (k = 21 ∧ l1 = 0 ∧ (i = 4 ∨ i = 18) ∨ k = 32 ∨ k = 33) → ν1 k l1 i = ν k l1 i), JBp ν1 := fun f f1 => by
    obtain ⟨p1, p2, p3, p4, p5⟩ := h.2.2.2.2.1.pl
    have e : ∀ (k : Nat) (i : Int), 11 ≤ k → k ≤ 29 → k ≠ 21 → ν1 k 0 i = μ k 0 i := fun k i a b c => (f1 k 0 i (by omega)).trans (f k 0 i (by omega))
    refine ⟨?_, ?_, fun g0 q0 q1 => ?_, fun s s0 s1 => ?_, fun i i0 i1 => ?_⟩
    · rw [e 23 0 (by omega) (by omega) (by omega), e 11 0 (by omega) (by omega) (by omega)]; exact p1
    · rw [e 24 0 (by omega) (by omega) (by omega), e 11 1 (by omega) (by omega) (by omega)]; exact p2
    · rw [e 11 1 (by omega) (by omega) (by omega)] at q1
      rw [e 27 g0 (by omega) (by omega) (by omega), e 28 g0 (by omega) (by omega) (by omega), e 13 g0 (by omega) (by omega) (by omega), e 13 _ (by omega) (by omega) (by omega)]
      exact p3 g0 q0 q1
    · rw [e 11 1 (by omega) (by omega) (by omega), e 13 _ (by omega) (by omega) (by omega)] at s1
      rw [e 29 s (by omega) (by omega) (by omega), e 14 s (by omega) (by omega) (by omega)]
      exact p4 s s0 s1
    · rw [e 11 0 (by omega) (by omega) (by omega)] at i1
      rw [e 26 i (by omega) (by omega) (by omega), e 12 i (by omega) (by omega) (by omega)]
      exact p5 i i0 i1
  rcases hQ with ⟨g, hr, hν⟩ | ⟨g, hr, hν⟩ | ⟨g, hr, f, md, hX⟩ | ⟨g, gg, gk, hr, hν⟩ | ⟨g, hr, f, md, hX⟩ <;> rcases hQ1 with ⟨g1, hr1, hν1⟩ | ⟨g1, hr1, hν1⟩ | ⟨g1, hr1, f1, d4, mm⟩ | ⟨g1, gm, gn, hr1, hν1⟩ | ⟨g1, hr1, f1, d4, mm⟩ <;> first | (exfalso; clear md; omega) | (exfalso; clear mm; omega) | (exfalso; clear md mm; omega) | (exfalso; clear gm; omega) | (exfalso; clear md gm; omega) | (exfalso; omega) | skip
  · exact ⟨by rw [hν1, hν]; exact h, _, hr, hr1⟩
  · exact ⟨by rw [hν1, hν]; exact h, _, hr, hr1⟩
  · obtain ⟨v, rk, md⟩ := md
    obtain ⟨w, rm, mm⟩ := mm
    obtain rfl := RK_m jm E rk rm
    have g20 : ∀ (k : Nat) (l i : Int), k ≤ 20 → ν1 k l i = ν k l i := fun k l i q => f1 k l i (by omega)
    have k7 := g20 7 0 3 (by omega)
    have rk1 := rk.1
    have q32 : v < μ 7 0 3 → ν 32 0 v = ky μ v := fun q => (E 32 0 v (by omega)).trans (jm.2 v rk1.1 q).1
    rcases md with ⟨m1, m2, m3⟩ | ⟨m1, m2, m3, m4⟩ <;> rcases mm with ⟨n1, n2, n3⟩ | ⟨n1, n2, n3, n4⟩
    · have kk : ν1 21 0 18 = ν1 7 0 3 := by omega
      refine ⟨h.mut (fun k l i q => f k l i (by omega)) hX (fun k l i q => f1 k l i (by omega)) d4 ⟨kk, fun i i0 i1 => ?_⟩ (JB1 f f1), _, hr, by rw [hr1, kk, k7]⟩
      exact mv_one jm E g20 i0 (by omega) (m3 i i0 (by omega)) (n3 i i0 (by omega))
    · exfalso
      exact m1 v rk1.1 (by omega) (by rw [← q32 (by omega)]; exact n1.2)
    · exfalso
      exact n1 ⟨by omega, by rw [q32 m1.1]; exact m1.2⟩
    · have kk : ν1 21 0 18 = ν1 7 0 3 := by omega
      refine ⟨h.mut (fun k l i q => f k l i (by omega)) hX (fun k l i q => f1 k l i (by omega)) d4 ⟨kk, fun i i0 i1 => ?_⟩ (JB1 f f1), _, hr, by rw [hr1, kk, k7]⟩
      by_cases q : i < v
      · exact mv_one jm E g20 i0 (by omega) (m3 i i0 q) (n3 i i0 q)
      · exact mv_one jm E g20 (t := i + 1) (by omega) (by omega) (m4 i (by omega) (by omega)) (n4 i (by omega) (by omega))
  · exact ⟨by rw [hν1, hν]; exact h, _, hr, hr1⟩
  · exfalso
    obtain ⟨w, rm, nn, mm⟩ := mm
    have rm1 := rm.1
    rcases mm with ⟨n1, n2, n3⟩ | ⟨n1, n2, n3, n4⟩
    · have q := (E 32 0 w (by omega)).trans (jm.2 w rm1.1 (by omega)).1
      exact gg w rm1.1 (by omega) (by rw [← q]; exact n1.2)
    · omega
  · exfalso
    obtain ⟨v, rk, nn, md⟩ := md
    obtain ⟨w, rm, gm⟩ := gm
    obtain rfl := RK_m jm E rk rm
    have rk1 := rk.1
    rcases md with ⟨m1, m2, m3⟩ | ⟨m1, m2, m3, m4⟩
    · have q := (E 32 0 v (by omega)).trans (jm.2 v rk1.1 m1.1).1
      exact gm ⟨by omega, by rw [q]; exact m1.2⟩
    · omega
  · obtain ⟨v, rk, m0, md⟩ := md
    obtain ⟨w, rm, n0, mm⟩ := mm
    obtain rfl := RK_m jm E rk rm
    have g20 : ∀ (k : Nat) (l i : Int), k ≤ 20 → ν1 k l i = ν k l i := fun k l i q => f1 k l i (by omega)
    have k7 := g20 7 0 3 (by omega)
    have rk1 := rk.1
    have q32 : v < μ 7 0 3 → ν 32 0 v = ky μ v := fun q => (E 32 0 v (by omega)).trans (jm.2 v rk1.1 q).1
    have one : ν1 32 0 v = ky ν1 v ∧ ∀ a, 0 ≤ a → a < 3 → ν1 33 0 (3 * v + a) = ν1 10 0 (3 * v + a) := by
      refine ⟨?_, fun a a0 a1 => ?_⟩
      · have u : ky ν1 v = ky ν v := by unfold ky; rw [g20 8 0 v (by omega), g20 9 0 v (by omega)]
        rw [u, n0.1, m0.1]
      · rw [g20 10 0 _ (by omega)]
        rcases (show a = 0 ∨ a = 1 ∨ a = 2 by omega) with rfl | rfl | rfl
        · rw [Int.add_zero, n0.2.1, m0.2.1]
        · rw [n0.2.2.1, m0.2.2.1]
        · rw [n0.2.2.2, m0.2.2.2]
    rcases md with ⟨m1, m2, m3⟩ | ⟨m1, m2, m3, m4, m5⟩ <;> rcases mm with ⟨n1, n2, n3⟩ | ⟨n1, n2, n3, n4, n5⟩
    · have kk : ν1 21 0 18 = ν1 7 0 3 := by omega
      refine ⟨h.mut (fun k l i q => f k l i (by omega)) hX (fun k l i q => f1 k l i (by omega)) d4 ⟨kk, fun i i0 i1 => ?_⟩ (JB1 f f1), _, hr, by rw [hr1, kk, k7]⟩
      by_cases q : i = v
      · subst q; exact one
      · exact mv_one jm E g20 i0 (by omega) (m3 i i0 (by omega) q) (n3 i i0 (by omega) q)
    · exfalso
      exact n1 ⟨by omega, by rw [q32 m1.1]; exact m1.2⟩
    · exfalso
      exact m1 v rk1.1 (by omega) (by rw [← q32 (by omega)]; exact n1.2)
    · have kk : ν1 21 0 18 = ν1 7 0 3 := by omega
      refine ⟨h.mut (fun k l i q => f k l i (by omega)) hX (fun k l i q => f1 k l i (by omega)) d4 ⟨kk, fun i i0 i1 => ?_⟩ (JB1 f f1), _, hr, by rw [hr1, kk, k7]⟩
      rcases Int.lt_trichotomy i v with q | q | q
      · exact mv_one jm E g20 i0 (by omega) (m4 i i0 q) (n4 i i0 q)
      · subst q; exact one
      · exact mv_one jm E g20 (t := i - 1) (by omega) (by omega) (m5 i q (by omega)) (n5 i q (by omega))
