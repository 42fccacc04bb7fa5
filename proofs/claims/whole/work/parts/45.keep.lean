/-! THE CLASS'S STATE STAYS RIGHT when the base or the moves are changed -/
def XR (μ : Mm) : Prop := (-1 ≤ μ 1 0 2 ∧ μ 1 0 2 ≤ 8) ∧ (0 ≤ μ 1 0 1 ∧ μ 1 0 1 ≤ 2)
/-- XB in plain words -/
theorem XB.mk {ν : Mm} (h1 : 0 ≤ ν 11 0 0 ∧ ν 11 0 0 ≤ 14) (h2 : 0 ≤ ν 11 0 1 ∧ ν 11 0 1 ≤ 14) (h3 : ν 13 0 0 = 0) (h4 : ∀ f, 0 ≤ f → f < ν 11 0 1 → ν 13 0 f + 3 ≤ ν 13 0 (f + 1)) (h5 : ∀ s, 0 ≤ s → s < ν 13 0 (ν 11 0 1) → (0 ≤ ν 15 0 s ∧ ν 15 0 s < ν 11 0 1) ∧ ν 13 0 (ν 15 0 s) ≤ s ∧ s < ν 13 0 (ν 15 0 s + 1)) (h6 : ∀ s, 0 ≤ s → s < ν 13 0 (ν 11 0 1) → 0 ≤ ν 14 0 s ∧ ν 14 0 s < ν 11 0 0) (h7 : ν 13 0 (ν 11 0 1) ≤ 84) : XB ν :=
  ⟨⟨h1.1, ⟨h2.1, h3, h4, h5⟩, h6⟩, h1.2, h2.2, h7⟩
theorem XB.un {μ : Mm} (h : XB μ) : (0 ≤ μ 11 0 0 ∧ μ 11 0 0 ≤ 14) ∧ (0 ≤ μ 11 0 1 ∧ μ 11 0 1 ≤ 14) ∧ μ 13 0 0 = 0 ∧ (∀ f, 0 ≤ f → f < μ 11 0 1 → μ 13 0 f + 3 ≤ μ 13 0 (f + 1)) ∧ (∀ s, 0 ≤ s → s < μ 13 0 (μ 11 0 1) → (0 ≤ μ 15 0 s ∧ μ 15 0 s < μ 11 0 1) ∧ μ 13 0 (μ 15 0 s) ≤ s ∧ s < μ 13 0 (μ 15 0 s + 1)) ∧ (∀ s, 0 ≤ s → s < μ 13 0 (μ 11 0 1) → 0 ≤ μ 14 0 s ∧ μ 14 0 s < μ 11 0 0) ∧ μ 13 0 (μ 11 0 1) ≤ 84 :=
  ⟨⟨h.1.1, h.2.1⟩, ⟨h.1.2.1.1, h.2.2.1⟩, h.1.2.1.2.1, h.1.2.1.2.2.1, h.1.2.1.2.2.2, h.1.2.2, h.2.2.2⟩
/-- a plate has six corners at most, so many plates have so many steps -/
def P6 (μ : Mm) : Prop := ∀ f, 0 ≤ f → f < μ 11 0 1 → μ 13 0 (f + 1) ≤ μ 13 0 f + 6
theorem P6.n {μ : Mm} (h : P6 μ) (h0 : μ 13 0 0 = 0) : ∀ (n : Nat) (f : Int), f.toNat = n → 0 ≤ f → f ≤ μ 11 0 1 → μ 13 0 f ≤ 6 * f := by
  intro n
  induction n with
  | zero => intro f hn h1 h2; obtain rfl : f = 0 := by omega
            omega
  | succ n ih =>
    intro f hn h1 h2
    have a := ih (f - 1) (by omega) (by omega) (by omega)
    have b := h (f - 1) (by omega) (by omega)
    rw [show f - 1 + 1 = f by omega] at b
    omega
theorem Mv.fr {μ ν : Mm} (h : Mv μ) (f : ∀ (k : Nat) (l i : Int), 7 ≤ k → k ≤ 10 → ν k l i = μ k l i) : Mv ν := by
  have e7 : ν 7 0 3 = μ 7 0 3 := f 7 0 3 (by decide) (by decide)
  have e8 : ν 8 0 = μ 8 0 := funext (fun i => f 8 0 i (by decide) (by decide))
  have e9 : ν 9 0 = μ 9 0 := funext (fun i => f 9 0 i (by decide) (by decide))
  have e10 : ν 10 0 = μ 10 0 := funext (fun i => f 10 0 i (by decide) (by decide))
  unfold Mv ky at h ⊢
  rw [e7, e8, e9, e10]
  exact h
theorem keep_corner {μ ν : Mm} (h : XI μ) (h6 : P6 μ) (hC : μ 11 0 0 < 14) (f : ∀ k l1 i, ¬ (l1 = 0 ∧ (k = 12 ∧ 3 * μ 11 0 0 ≤ i ∧ i ≤ 3 * μ 11 0 0 + 2 ∨ k = 11 ∧ i = 0) ∨ k = 3) → ν k l1 i = μ k l1 i) (c1 : ν 11 0 0 = μ 11 0 0 + 1) (c2 : ∀ a, 0 ≤ a → a < 3 → -1000 ≤ ν 12 0 (3 * μ 11 0 0 + a) ∧ ν 12 0 (3 * μ 11 0 0 + a) ≤ 1000) (z : ν 3 0 4 = 0 ∧ ν 3 0 5 = 0 ∧ ν 3 0 6 = 0) : XI ν ∧ P6 ν := by
  obtain ⟨a1, a2, a3, a4, a5, a6, a7⟩ := h.1.un
  have e1 : ν 11 0 1 = μ 11 0 1 := f 11 0 1 (by omega)
  have e13 : ∀ i, ν 13 0 i = μ 13 0 i := fun i => f 13 0 i (by omega)
  have e14 : ∀ i, ν 14 0 i = μ 14 0 i := fun i => f 14 0 i (by omega)
  have e15 : ∀ i, ν 15 0 i = μ 15 0 i := fun i => f 15 0 i (by omega)
  refine ⟨⟨XB.mk (by omega) (by omega) (by rw [e13]; exact a3) (fun g g0 g1 => ?_) (fun s s0 s1 => ?_) (fun s s0 s1 => ?_) (by rw [e1, e13]; exact a7), fun i i0 i1 => ?_, h.2.2.1.fr (fun k l i k0 k1 => f k l i (by omega)), Or.inl z⟩, fun g g0 g1 => ?_⟩
  · rw [e13, e13]; exact a4 g g0 (by omega)
  · rw [e1, e13] at s1
    rw [e15, e1, e13, e13]; exact a5 s s0 s1
  · rw [e1, e13] at s1
    have := a6 s s0 s1
    rw [e14, c1]; omega
  · by_cases q : i < 3 * μ 11 0 0
    · rw [f 12 0 i (by omega)]; exact h.2.1 i i0 q
    · have := c2 (i - 3 * μ 11 0 0) (by omega) (by omega)
      rw [show 3 * μ 11 0 0 + (i - 3 * μ 11 0 0) = i by omega] at this
      exact this
  · rw [e1] at g1
    rw [e13, e13]; exact h6 g g0 g1
theorem keep_face {μ ν : Mm} {m : Int} (h : XI μ) (h6 : P6 μ) (hm : 3 ≤ m ∧ m ≤ 6) (hP : μ 11 0 1 < 14) (f : ∀ k l1 i, ¬ (l1 = 0 ∧ ((k = 14 ∨ k = 15) ∧ μ 13 0 (μ 11 0 1) ≤ i ∧ i < μ 13 0 (μ 11 0 1) + m ∨ k = 11 ∧ i = 1 ∨ k = 13 ∧ i = μ 11 0 1 + 1) ∨ k = 3) → ν k l1 i = μ k l1 i) (c1 : ν 11 0 1 = μ 11 0 1 + 1) (c2 : ν 13 0 (μ 11 0 1 + 1) = μ 13 0 (μ 11 0 1) + m) (c3 : ∀ j, 0 ≤ j → j < m → (0 ≤ ν 14 0 (μ 13 0 (μ 11 0 1) + j) ∧ ν 14 0 (μ 13 0 (μ 11 0 1) + j) < μ 11 0 0) ∧ ν 15 0 (μ 13 0 (μ 11 0 1) + j) = μ 11 0 1) (z : ν 3 0 4 = 0 ∧ ν 3 0 5 = 0 ∧ ν 3 0 6 = 0) : XI ν ∧ P6 ν := by
  obtain ⟨a1, a2, a3, a4, a5, a6, a7⟩ := h.1.un
  have n0 := h.1.nb.2.2.1
  have hn6 := h6.n a3 _ (μ 11 0 1) rfl a2.1 (by omega)
  have e0 : ν 11 0 0 = μ 11 0 0 := f 11 0 0 (by omega)
  have e13 : ∀ i, i ≠ μ 11 0 1 + 1 → ν 13 0 i = μ 13 0 i := fun i q => f 13 0 i (by omega)
  refine ⟨⟨XB.mk (by omega) (by omega) (by rw [e13 0 (by omega)]; exact a3) (fun g g0 g1 => ?_) (fun s s0 s1 => ?_) (fun s s0 s1 => ?_) (by rw [c1, c2]; omega), fun i i0 i1 => by rw [e0] at i1; rw [f 12 0 i (by omega)]; exact h.2.1 i i0 i1, h.2.2.1.fr (fun k l i k0 k1 => f k l i (by omega)), Or.inl z⟩, fun g g0 g1 => ?_⟩
  · by_cases q : g = μ 11 0 1
    · subst q; rw [c2, e13 _ (by omega)]; omega
    · rw [e13 g (by omega), e13 (g + 1) (by omega)]; exact a4 g g0 (by omega)
  · rw [c1, c2] at s1
    by_cases q : s < μ 13 0 (μ 11 0 1)
    · have w := a5 s s0 q
      rw [f 15 0 s (by omega), c1, e13 _ (by omega), e13 _ (by omega)]
      exact ⟨by omega, w.2⟩
    · have w := c3 (s - μ 13 0 (μ 11 0 1)) (by omega) (by omega)
      rw [show μ 13 0 (μ 11 0 1) + (s - μ 13 0 (μ 11 0 1)) = s by omega] at w
      rw [w.2, c1, c2, e13 _ (by omega)]
      omega
  · rw [c1, c2] at s1
    by_cases q : s < μ 13 0 (μ 11 0 1)
    · rw [f 14 0 s (by omega), e0]; exact a6 s s0 q
    · have w := c3 (s - μ 13 0 (μ 11 0 1)) (by omega) (by omega)
      rw [show μ 13 0 (μ 11 0 1) + (s - μ 13 0 (μ 11 0 1)) = s by omega] at w
      rw [e0]; exact w.1
  · by_cases q : g = μ 11 0 1
    · subst q; rw [c2, e13 _ (by omega)]; omega
    · rw [e13 g (by omega), e13 (g + 1) (by omega)]; exact h6 g g0 (by omega)
theorem keep_undo {μ ν : Mm} (h : XI μ) (h6 : P6 μ) (hP : μ 11 0 1 ≠ 0) (f : ∀ k l1 i, ¬ (l1 = 0 ∧ k = 11 ∧ i = 1 ∨ k = 3) → ν k l1 i = μ k l1 i) (c1 : ν 11 0 1 = μ 11 0 1 - 1) (z : ν 3 0 4 = 0 ∧ ν 3 0 5 = 0 ∧ ν 3 0 6 = 0) : XI ν ∧ P6 ν := by
  obtain ⟨a1, a2, a3, a4, a5, a6, a7⟩ := h.1.un
  have e0 : ν 11 0 0 = μ 11 0 0 := f 11 0 0 (by omega)
  have e13 : ∀ i, ν 13 0 i = μ 13 0 i := fun i => f 13 0 i (by omega)
  have m1 : μ 13 0 (μ 11 0 1 - 1) + 3 * (μ 11 0 1 - (μ 11 0 1 - 1)) ≤ μ 13 0 (μ 11 0 1) := h.1.1.2.1.mono (f := μ 11 0 1 - 1) (g := μ 11 0 1) (by omega) (by omega) (Int.le_refl _)
  refine ⟨⟨XB.mk (by omega) (by omega) (by rw [e13]; exact a3) (fun g g0 g1 => by rw [e13, e13]; exact a4 g g0 (by omega)) (fun s s0 s1 => ?_) (fun s s0 s1 => ?_) (by rw [c1, e13]; omega), fun i i0 i1 => by rw [e0] at i1; rw [f 12 0 i (by omega)]; exact h.2.1 i i0 i1, h.2.2.1.fr (fun k l i k0 k1 => f k l i (by omega)), Or.inl z⟩, fun g g0 g1 => by rw [e13, e13]; exact h6 g g0 (by omega)⟩
  · rw [c1, e13] at s1
    have w := a5 s s0 (by omega)
    rw [f 15 0 s (by omega), e13, e13, c1]
    refine ⟨⟨w.1.1, ?_⟩, w.2⟩
    apply Classical.byContradiction
    intro q
    have m2 : μ 13 0 (μ 11 0 1 - 1) + 3 * (μ 15 0 s - (μ 11 0 1 - 1)) ≤ μ 13 0 (μ 15 0 s) := h.1.1.2.1.mono (f := μ 11 0 1 - 1) (g := μ 15 0 s) (by omega) (by omega) (Int.le_of_lt w.1.2)
    omega
  · rw [c1, e13] at s1
    rw [f 14 0 s (by omega), e0]; exact a6 s s0 (by omega)
theorem keep_turn {μ ν : Mm} {g : Int} (h : XI μ) (h6 : P6 μ) (hg : 0 ≤ g ∧ g < μ 11 0 1) (f : ∀ k l1 i, ¬ (k = 14 ∧ l1 = 0 ∧ μ 13 0 g + 1 ≤ i ∧ i ≤ μ 13 0 (g + 1) - 1 ∨ k = 3) → ν k l1 i = μ k l1 i) (c1 : ∀ i, μ 13 0 g + 1 ≤ i → i ≤ μ 13 0 (g + 1) - 1 → ν 14 0 i = μ 14 0 (μ 13 0 g + 1 + (μ 13 0 (g + 1) - 1) - i)) (z : ν 3 0 4 = 0 ∧ ν 3 0 5 = 0 ∧ ν 3 0 6 = 0) : XI ν ∧ P6 ν := by
  obtain ⟨a1, a2, a3, a4, a5, a6, a7⟩ := h.1.un
  have e0 : ν 11 0 0 = μ 11 0 0 := f 11 0 0 (by omega)
  have e1 : ν 11 0 1 = μ 11 0 1 := f 11 0 1 (by omega)
  have e13 : ∀ i, ν 13 0 i = μ 13 0 i := fun i => f 13 0 i (by omega)
  have hf := h.1.nb.2.2.2.1 g hg.1 hg.2
  refine ⟨⟨XB.mk (by omega) (by omega) (by rw [e13]; exact a3) (fun g g0 g1 => by rw [e13, e13]; exact a4 g g0 (by omega)) (fun s s0 s1 => ?_) (fun s s0 s1 => ?_) (by rw [e1, e13]; exact a7), fun i i0 i1 => by rw [e0] at i1; rw [f 12 0 i (by omega)]; exact h.2.1 i i0 i1, h.2.2.1.fr (fun k l i k0 k1 => f k l i (by omega)), Or.inl z⟩, fun g g0 g1 => by rw [e13, e13]; exact h6 g g0 (by omega)⟩
  · rw [e1, e13] at s1
    rw [f 15 0 s (by omega), e13, e13, e1]; exact a5 s s0 s1
  · rw [e1, e13] at s1
    rw [e0]
    by_cases q : μ 13 0 g + 1 ≤ s ∧ s ≤ μ 13 0 (g + 1) - 1
    · rw [c1 s q.1 q.2]; exact a6 _ (by omega) (by omega)
    · rw [f 14 0 s (by omega)]; exact a6 s s0 s1
theorem keep_clear {μ ν : Mm} (h : XI μ) (f : ∀ k l1 i, ¬ (l1 = 0 ∧ k = 11 ∧ (i = 0 ∨ i = 1) ∨ k = 7 ∨ k = 3) → ν k l1 i = μ k l1 i) (c0 : ν 11 0 0 = 0) (c1 : ν 11 0 1 = 0) (c7 : ν 7 0 3 = 0) (z : ν 3 0 4 = 0 ∧ ν 3 0 5 = 0 ∧ ν 3 0 6 = 0) : XI ν ∧ P6 ν := by
  obtain ⟨a1, a2, a3, a4, a5, a6, a7⟩ := h.1.un
  have e13 : ν 13 0 0 = 0 := by rw [f 13 0 0 (by omega)]; exact a3
  refine ⟨⟨XB.mk (by omega) (by omega) e13 (fun g g0 g1 => by omega) (fun s s0 s1 => by rw [c1, e13] at s1; omega) (fun s s0 s1 => by rw [c1, e13] at s1; omega) (by rw [c1, e13]; omega), fun i i0 i1 => by omega, ⟨by omega, fun i i0 i1 => by omega, fun i j i0 ij j1 => by omega⟩, Or.inl z⟩, fun g g0 g1 => by omega⟩
/-- a number of the base is changed -/
theorem keep_place {μ ν : Mm} {j v : Int} (h : XI μ) (h6 : P6 μ) (hv : -1000 ≤ v ∧ v ≤ 1000) (f : ∀ k l1 i, ¬ (k = 12 ∧ l1 = 0 ∧ i = j ∨ k = 3 ∧ l1 = 0 ∧ i = 6) → ν k l1 i = μ k l1 i) (c1 : ν 12 0 j = v) (c2 : ν 3 0 6 = min (μ 3 0 6) 0) : XI ν ∧ P6 ν := by
  obtain ⟨a1, a2, a3, a4, a5, a6, a7⟩ := h.1.un
  have e0 : ν 11 0 0 = μ 11 0 0 := f 11 0 0 (by omega)
  have e1 : ν 11 0 1 = μ 11 0 1 := f 11 0 1 (by omega)
  have e13 : ν 13 0 = μ 13 0 := funext (fun i => f 13 0 i (by omega))
  have e14 : ν 14 0 = μ 14 0 := funext (fun i => f 14 0 i (by omega))
  have e15 : ν 15 0 = μ 15 0 := funext (fun i => f 15 0 i (by omega))
  have hb : XB ν := XB.mk (by omega) (by omega) (by rw [e13]; exact a3) (by rw [e1, e13]; exact a4) (by rw [e1, e13, e15]; exact a5) (by rw [e0, e1, e13, e14]; exact a6) (by rw [e1, e13]; exact a7)
  have hbs : bs (Nt μ 0) = bs (Nt ν 0) := bs_eq e0.symm e1.symm e13.symm e14.symm e15.symm
  have hN : ∀ l : Int, Nt ν l = Nt μ l ∨ True := fun _ => Or.inr trivial
  refine ⟨⟨hb, fun i i0 i1 => ?_, h.2.2.1.fr (fun k l i k0 k1 => f k l i (by omega)), ?_⟩, fun g g0 g1 => by rw [e13]; exact h6 g g0 (by omega)⟩
  · rw [e0] at i1
    by_cases q : i = j
    · subst q; rw [c1]; exact hv
    · rw [f 12 0 i (by omega)]; exact h.2.1 i i0 i1
  · rcases h.2.2.2 with q | ⟨q1, q2, q3, q4, q5⟩
    · exact Or.inl ⟨by rw [f 3 0 4 (by omega)]; exact q.1, by rw [f 3 0 5 (by omega)]; exact q.2.1, by omega⟩
    · have x5 : ν 3 0 5 = μ 3 0 5 := f 3 0 5 (by omega)
      have y1 : ν 5 0 1 = μ 5 0 1 := f 5 0 1 (by omega)
      have y2 : ν 5 0 2 = μ 5 0 2 := f 5 0 2 (by omega)
      refine Or.inr ⟨by rw [f 3 0 4 (by omega)]; exact q1, ?_, by omega, by rw [y1, x5]; exact q4, fun w => ⟨fun l hl => ?_, fun l hl c a x0 x1 y0 y1 => ?_⟩⟩
      · rw [y1, y2]; exact IsF_cg hbs q2
      · rw [x5] at hl
        rw [y1] at w
        rw [← lev_cg hbs]
        have e : Agr (Nt μ l) (Nt ν l) := ⟨⟨(f 11 l 0 (by omega)).symm, (f 11 l 1 (by omega)).symm, fun g _ _ => (f 13 l g (by omega)).symm, fun s _ _ => (f 14 l s (by omega)).symm⟩, (f 11 l 2 (by omega)).symm, fun s _ _ => ⟨(f 15 l s (by omega)).symm, (f 16 l s (by omega)).symm, (f 17 l s (by omega)).symm⟩, fun e _ _ => (f 18 l e (by omega)).symm, fun c _ _ => ⟨(f 19 l c (by omega)).symm, (f 20 l c (by omega)).symm⟩⟩
        have g := (IsF.good h.1.1 (p := μ 5 0 2) (by rw [w] at q2; exact q2)).1
        exact ((q5 w).1 l hl).tr e (lev_good g l).1.2.1.1
      · obtain rfl : l = 0 := by omega
        rfl
/-- numbers below a level don't hang on the moves of that level and above -/
theorem nmF_cg {lv : Nat → Net} {b0 : Int → Int} {mv mv' : Int → Int → Int → Int} : ∀ (l : Nat), (∀ j : Nat, 1 ≤ j → j ≤ l → ∀ c a, 0 ≤ c → c < lv j 0 0 → 0 ≤ a → a < 3 → mv j c a = mv' j c a) → (∀ j : Nat, Good (lv j)) → (∀ j : Nat, lv (j + 1) 0 0 = lv j 0 2) → ∀ c a, 0 ≤ c → c < lv l 0 0 → 0 ≤ a → a < 3 → nmF lv b0 mv l c a = nmF lv b0 mv' l c a
  | 0, _, _, _, c, a, _, _, _, _ => rfl
  | l + 1, h, G, E, c, a, c0, c1, a0, a1 => by
    rw [E l] at c1
    have m := (G l).mt c0 c1
    have b := ((G l).1.b1 m.1.1 m.1.2).1
    have x := (G l).1.2.1.nxr m.1.1 m.1.2
    have y := ((G l).1.b1 x.1.1 x.1.2).1
    have ih := nmF_cg (b0 := b0) l (fun j j1 j2 => h j j1 (by omega)) G E
    show nmF lv b0 mv l _ a + nmF lv b0 mv l _ a + mv ((l : Int) + 1) c a = nmF lv b0 mv' l _ a + nmF lv b0 mv' l _ a + mv' ((l : Int) + 1) c a
    rw [ih _ a b.1 b.2 a0 a1, ih _ a y.1 y.2 a0 a1]
    have z := h (l + 1) (by omega) (by omega) c a c0 (by rw [E l]; exact c1) a0 a1
    have z : mv ((l : Int) + 1) c a = mv' ((l : Int) + 1) c a := z
    rw [z]
/-- a move is changed -/
theorem keep_move {μ ν : Mm} {L : Int} (h : XI μ) (h6 : P6 μ) (hL : 1 ≤ L ∧ L ≤ 3) (hM : Mv ν) (f : ∀ k l1 i, ¬ (k = 7 ∨ k = 8 ∨ k = 9 ∨ k = 10 ∨ k = 3 ∧ l1 = 0 ∧ i = 6) → ν k l1 i = μ k l1 i) (c1 : ∀ l c a, l < L → 0 ≤ a → a < 3 → mvx ν l c a = mvx μ l c a) (c2 : ν 3 0 6 = min (μ 3 0 6) (L - 1)) : XI ν ∧ P6 ν := by
  obtain ⟨a1, a2, a3, a4, a5, a6, a7⟩ := h.1.un
  have e0 : ν 11 0 0 = μ 11 0 0 := f 11 0 0 (by omega)
  have e1 : ν 11 0 1 = μ 11 0 1 := f 11 0 1 (by omega)
  have e12 : ν 12 0 = μ 12 0 := funext (fun i => f 12 0 i (by omega))
  have e13 : ν 13 0 = μ 13 0 := funext (fun i => f 13 0 i (by omega))
  have e14 : ν 14 0 = μ 14 0 := funext (fun i => f 14 0 i (by omega))
  have e15 : ν 15 0 = μ 15 0 := funext (fun i => f 15 0 i (by omega))
  have hb : XB ν := XB.mk (by omega) (by omega) (by rw [e13]; exact a3) (by rw [e1, e13]; exact a4) (by rw [e1, e13, e15]; exact a5) (by rw [e0, e1, e13, e14]; exact a6) (by rw [e1, e13]; exact a7)
  have hbs : bs (Nt μ 0) = bs (Nt ν 0) := bs_eq e0.symm e1.symm e13.symm e14.symm e15.symm
  refine ⟨⟨hb, fun i i0 i1 => ?_, hM, ?_⟩, fun g g0 g1 => by rw [e13]; exact h6 g g0 (by omega)⟩
  · rw [e0] at i1
    rw [e12]; exact h.2.1 i i0 i1
  · rcases h.2.2.2 with q | ⟨q1, q2, q3, q4, q5⟩
    · exact Or.inl ⟨by rw [f 3 0 4 (by omega)]; exact q.1, by rw [f 3 0 5 (by omega)]; exact q.2.1, by omega⟩
    · have x5 : ν 3 0 5 = μ 3 0 5 := f 3 0 5 (by omega)
      have y1 : ν 5 0 1 = μ 5 0 1 := f 5 0 1 (by omega)
      have y2 : ν 5 0 2 = μ 5 0 2 := f 5 0 2 (by omega)
      refine Or.inr ⟨by rw [f 3 0 4 (by omega)]; exact q1, ?_, by omega, by rw [y1, x5]; exact q4, fun w => ?_⟩
      · rw [y1, y2]; exact IsF_cg hbs q2
      rw [y1] at w
      have g := (IsF.good h.1.1 (p := μ 5 0 2) (by rw [w] at q2; exact q2)).1
      refine ⟨fun l hl => ?_, fun l hl c a x0 x1 z0 z1 => ?_⟩
      · rw [x5] at hl
        rw [← lev_cg hbs]
        have e : Agr (Nt μ l) (Nt ν l) := ⟨⟨(f 11 l 0 (by omega)).symm, (f 11 l 1 (by omega)).symm, fun g _ _ => (f 13 l g (by omega)).symm, fun s _ _ => (f 14 l s (by omega)).symm⟩, (f 11 l 2 (by omega)).symm, fun s _ _ => ⟨(f 15 l s (by omega)).symm, (f 16 l s (by omega)).symm, (f 17 l s (by omega)).symm⟩, fun e _ _ => (f 18 l e (by omega)).symm, fun c _ _ => ⟨(f 19 l c (by omega)).symm, (f 20 l c (by omega)).symm⟩⟩
        exact ((q5 w).1 l hl).tr e (lev_good g l).1.2.1.1
      · rw [f 11 l 0 (by omega)] at x1
        rw [f 12 l _ (by omega), (q5 w).2 l (by omega) c a x0 x1 z0 z1]
        have aA : lev (Nt μ 0) l 0 0 = μ 11 l 0 := ((q5 w).1 l (by omega)).1.1
        unfold nm
        rw [← lev_cg hbs, e12]
        exact nmF_cg l (fun j j1 j2 c a _ _ q0 q1 => (c1 j c a (by omega) q0 q1).symm) (lev_good g) (fun j => rfl) c a x0 (by rw [aA]; exact x1) z0 z1
