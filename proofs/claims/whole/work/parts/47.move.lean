/-! MOVES: the list after a call -/
def RK (μ : Mm) (q v : Int) : Prop := (0 ≤ v ∧ v ≤ μ 7 0 3) ∧ (∀ i, 0 ≤ i → i < v → ky μ i < q) ∧ (∀ i, v ≤ i → i < μ 7 0 3 → q ≤ ky μ i)
def SM (μ ν : Mm) (i j : Int) : Prop := ν 8 0 i = μ 8 0 j ∧ ν 9 0 i = μ 9 0 j ∧ ∀ a, 0 ≤ a → a < 3 → ν 10 0 (3 * i + a) = μ 10 0 (3 * j + a)
theorem SM.kye {μ ν : Mm} {i j : Int} (h : SM μ ν i j) : ky ν i = ky μ j := by unfold ky; rw [h.1, h.2.1]
theorem ky_iff {μ : Mm} (h : Mv μ) {i L c : Int} (h0 : 0 ≤ i) (h1 : i < μ 7 0 3) (hc : 0 ≤ c ∧ c ≤ 1000) : ky μ i = 10000 * L + c ↔ μ 8 0 i = L ∧ μ 9 0 i = c := by
  have := (h.2.1 i h0 h1).2.1
  unfold ky
  omega
theorem ky_ne {μ : Mm} (h : Mv μ) {L c : Int} (hc : 0 ≤ c ∧ c ≤ 1000) (hn : ∀ i, 0 ≤ i → i < μ 7 0 3 → ¬ (μ 8 0 i = L ∧ μ 9 0 i = c)) : ∀ i, 0 ≤ i → i < μ 7 0 3 → ky μ i ≠ 10000 * L + c :=
  fun i a b q => hn i a b ((ky_iff h a b hc).1 q)
theorem RK.at {μ : Mm} (h : Mv μ) {v q : Int} (h0 : 0 ≤ v ∧ v < μ 7 0 3) (hq : ky μ v = q) : RK μ q v := by
  refine ⟨by omega, fun i a b => ?_, fun i a b => ?_⟩
  · have := h.2.2 i v a b h0.2; omega
  · by_cases e : i = v
    · subst e; omega
    · have := h.2.2 v i h0.1 (by omega) b; omega
theorem RK_ex {μ : Mm} (h : Mv μ) (q : Int) : ∃ v, RK μ q v := by
  have key : ∀ (n : Nat) (i : Int), (μ 7 0 3 - i).toNat = n → 0 ≤ i → i ≤ μ 7 0 3 → (∀ j, 0 ≤ j → j < i → ky μ j < q) → ∃ v, RK μ q v := by
    intro n
    induction n with
    | zero => intro i hn h0 h1 hi; exact ⟨i, by omega, hi, fun j a b => by omega⟩
    | succ n ih =>
      intro i hn h0 h1 hi
      by_cases w : ky μ i < q
      · refine ih (i + 1) (by omega) (by omega) (by omega) (fun j a b => ?_)
        by_cases e : j = i
        · subst e; exact w
        · exact hi j a (by omega)
      · refine ⟨i, by omega, hi, fun j a b => ?_⟩
        by_cases e : j = i
        · subst e; omega
        · have := h.2.2 i j h0 (by omega) b; omega
  exact key _ 0 rfl (by omega) h.1.1 (fun j a b => by omega)
theorem SM.in {μ ν : Mm} (h : Mv μ) {i j : Int} (s : SM μ ν i j) (h0 : 0 ≤ j) (h1 : j < μ 7 0 3) : (1 ≤ ν 8 0 i ∧ ν 8 0 i ≤ 3) ∧ (0 ≤ ν 9 0 i ∧ ν 9 0 i ≤ 1000) ∧ ∀ a, 0 ≤ a → a < 3 → -1000 ≤ ν 10 0 (3 * i + a) ∧ ν 10 0 (3 * i + a) ≤ 1000 := by
  have z := h.2.1 j h0 h1
  rw [s.1, s.2.1]
  exact ⟨z.1, z.2.1, fun a a0 a1 => by rw [s.2.2 a a0 a1]; exact z.2.2 a a0 a1⟩
theorem mvx_cg {μ ν : Mm} (hμ : Mv μ) (hν : Mv ν) {l c : Int} (h1 : ∀ i, HM μ l c i → ∃ j, HM ν l c j ∧ SM μ ν j i) (h2 : ∀ j, HM ν l c j → ∃ i, HM μ l c i) : ∀ a, 0 ≤ a → a < 3 → mvx ν l c a = mvx μ l c a := by
  intro a a0 a1
  by_cases q : ∃ i, HM μ l c i
  · obtain ⟨i, hi⟩ := q
    obtain ⟨j, hj, s⟩ := h1 i hi
    rw [mvx_at hμ hi, mvx_at hν hj, s.2.2 a a0 a1]
  · rw [mvx_no q, mvx_no (fun ⟨j, hj⟩ => q (h2 j hj))]
/-- the new list's entries come from the old one's by p, but for those at key (L, c) -/
theorem Mv_same {μ ν : Mm} (h : Mv μ) (hn : ν 7 0 3 = μ 7 0 3) (s : ∀ i, 0 ≤ i → i < μ 7 0 3 → SM μ ν i i) : Mv ν ∧ ∀ l c a, 0 ≤ a → a < 3 → mvx ν l c a = mvx μ l c a := by
  have hv : Mv ν := ⟨by rw [hn]; exact h.1, fun i a b => (s i a (by omega)).in h a (by omega), fun i j a b c => by rw [(s i a (by omega)).kye, (s j (by omega) (by omega)).kye]; exact h.2.2 i j a b (by omega)⟩
  refine ⟨hv, fun l c => mvx_cg h hv (fun i hi => ⟨i, ⟨by rw [hn]; exact hi.1, ?_⟩, s i hi.1.1 hi.1.2⟩) (fun j hj => ⟨j, ?_⟩)⟩
  · have z := s i hi.1.1 hi.1.2
    rw [z.1, z.2.1]; exact hi.2
  · rw [HM, hn] at hj
    have z := s j hj.1.1 hj.1.2
    rw [z.1, z.2.1] at hj
    exact hj
theorem Mv_drop {μ ν : Mm} {L v : Int} (h : Mv μ) (hv : 0 ≤ v ∧ v < μ 7 0 3) (hL : μ 8 0 v = L) (hn : ν 7 0 3 = μ 7 0 3 - 1) (s1 : ∀ i, 0 ≤ i → i < v → SM μ ν i i) (s2 : ∀ i, v ≤ i → i < μ 7 0 3 - 1 → SM μ ν i (i + 1)) : Mv ν ∧ ∀ l c a, l < L → 0 ≤ a → a < 3 → mvx ν l c a = mvx μ l c a := by
  have sx : ∀ i, 0 ≤ i → i < ν 7 0 3 → ∃ j, (0 ≤ j ∧ j < μ 7 0 3) ∧ SM μ ν i j ∧ ((i < v ∧ j = i) ∨ (v ≤ i ∧ j = i + 1)) := fun i a b => by
    by_cases q : i < v
    · exact ⟨i, by omega, s1 i a q, Or.inl ⟨q, rfl⟩⟩
    · exact ⟨i + 1, by omega, s2 i (by omega) (by omega), Or.inr ⟨by omega, rfl⟩⟩
  have hv' : Mv ν := by
    refine ⟨by have := h.1; omega, fun i a b => ?_, fun i j a b c => ?_⟩
    · obtain ⟨j, hj, s, _⟩ := sx i a b
      exact s.in h hj.1 hj.2
    · obtain ⟨i', hi, si, ci⟩ := sx i a (by omega)
      obtain ⟨j', hj, sj, cj⟩ := sx j (by omega) c
      rw [si.kye, sj.kye]
      exact h.2.2 i' j' hi.1 (by omega) hj.2
  refine ⟨hv', fun l c a hl => mvx_cg h hv' (fun i hi => ?_) (fun j hj => ?_) a⟩
  · have e : i ≠ v := fun e => by have := hi.2.1; rw [e] at this; omega
    by_cases q : i < v
    · have z := s1 i hi.1.1 q
      exact ⟨i, ⟨by have := hi.1; omega, by rw [z.1, z.2.1]; exact hi.2⟩, z⟩
    · have z := s2 (i - 1) (by omega) (by have := hi.1; omega)
      rw [show i - 1 + 1 = i by omega] at z
      exact ⟨i - 1, ⟨by have := hi.1; omega, by rw [z.1, z.2.1]; exact hi.2⟩, z⟩
  · obtain ⟨i, hi, s, _⟩ := sx j hj.1.1 hj.1.2
    exact ⟨i, hi, by rw [← s.1, ← s.2.1]; exact hj.2⟩
/-- the entry at v is new: (L, c) with its numbers in bounds -/
theorem Mv_put {μ ν : Mm} {L c v : Int} (h : Mv μ) (hL : 1 ≤ L ∧ L ≤ 3) (hc : 0 ≤ c ∧ c ≤ 1000) (hv : 0 ≤ v ∧ v < μ 7 0 3) (hk : μ 8 0 v = L ∧ μ 9 0 v = c) (hn : ν 7 0 3 = μ 7 0 3) (s : ∀ i, 0 ≤ i → i < μ 7 0 3 → i ≠ v → SM μ ν i i) (w : ν 8 0 v = L ∧ ν 9 0 v = c) (w2 : ∀ a, 0 ≤ a → a < 3 → -1000 ≤ ν 10 0 (3 * v + a) ∧ ν 10 0 (3 * v + a) ≤ 1000) : Mv ν ∧ ∀ l c a, l < L → 0 ≤ a → a < 3 → mvx ν l c a = mvx μ l c a := by
  have kk : ∀ i, 0 ≤ i → i < μ 7 0 3 → ky ν i = ky μ i := fun i a b => by
    by_cases q : i = v
    · subst q; unfold ky; rw [w.1, w.2, hk.1, hk.2]
    · exact (s i a b q).kye
  have hv' : Mv ν := by
    refine ⟨by rw [hn]; exact h.1, fun i a b => ?_, fun i j a b c => ?_⟩
    · by_cases q : i = v
      · subst q; rw [w.1, w.2]; exact ⟨hL, hc, w2⟩
      · exact (s i a (by omega) q).in h a (by omega)
    · rw [kk i a (by omega), kk j (by omega) (by omega)]
      exact h.2.2 i j a b (by omega)
  refine ⟨hv', fun l c a hl => mvx_cg h hv' (fun i hi => ?_) (fun j hj => ?_) a⟩
  · have e : i ≠ v := fun e => by have := hi.2.1; rw [e] at this; omega
    have z := s i hi.1.1 hi.1.2 e
    exact ⟨i, ⟨by rw [hn]; exact hi.1, by rw [z.1, z.2.1]; exact hi.2⟩, z⟩
  · have e : j ≠ v := fun e => by have := hj.2.1; rw [e] at this; omega
    have z := s j hj.1.1 (by have := hj.1; omega) e
    exact ⟨j, by have := hj.1; omega, by rw [← z.1, ← z.2.1]; exact hj.2⟩
theorem Mv_ins {μ ν : Mm} {L c v : Int} (h : Mv μ) (hL : 1 ≤ L ∧ L ≤ 3) (hc : 0 ≤ c ∧ c ≤ 1000) (hm : μ 7 0 3 < 40) (hr : RK μ (10000 * L + c) v) (hk : ∀ i, 0 ≤ i → i < μ 7 0 3 → ky μ i ≠ 10000 * L + c) (hn : ν 7 0 3 = μ 7 0 3 + 1) (s1 : ∀ i, 0 ≤ i → i < v → SM μ ν i i) (s2 : ∀ i, v < i → i ≤ μ 7 0 3 → SM μ ν i (i - 1)) (w : ν 8 0 v = L ∧ ν 9 0 v = c) (w2 : ∀ a, 0 ≤ a → a < 3 → -1000 ≤ ν 10 0 (3 * v + a) ∧ ν 10 0 (3 * v + a) ≤ 1000) : Mv ν ∧ ∀ l c a, l < L → 0 ≤ a → a < 3 → mvx ν l c a = mvx μ l c a := by
  have v0 := hr.1
  have sx : ∀ i, 0 ≤ i → i < ν 7 0 3 → i ≠ v → ∃ j, (0 ≤ j ∧ j < μ 7 0 3) ∧ SM μ ν i j ∧ ((i < v ∧ j = i) ∨ (v < i ∧ j = i - 1)) := fun i a b e => by
    by_cases q : i < v
    · exact ⟨i, by omega, s1 i a q, Or.inl ⟨q, rfl⟩⟩
    · exact ⟨i - 1, by omega, s2 i (by omega) (by omega), Or.inr ⟨by omega, rfl⟩⟩
  have kv : ky ν v = 10000 * L + c := by unfold ky; rw [w.1, w.2]
  have hv' : Mv ν := by
    refine ⟨by have := h.1; omega, fun i a b => ?_, fun i j a b c => ?_⟩
    · by_cases q : i = v
      · subst q; rw [w.1, w.2]; exact ⟨hL, hc, w2⟩
      · obtain ⟨j, hj, s, _⟩ := sx i a b q
        exact s.in h hj.1 hj.2
    · by_cases q : i = v
      · subst q
        obtain ⟨j', hj, sj, cj⟩ := sx j (by omega) c (by omega)
        rw [sj.kye, kv]
        have := hr.2.2 j' (by omega) hj.2
        have := hk j' hj.1 hj.2
        omega
      · obtain ⟨i', hi, si, ci⟩ := sx i a (by omega) q
        by_cases q2 : j = v
        · subst q2
          rw [si.kye, kv]
          exact hr.2.1 i' hi.1 (by omega)
        · obtain ⟨j', hj, sj, cj⟩ := sx j (by omega) c q2
          rw [si.kye, sj.kye]
          exact h.2.2 i' j' hi.1 (by omega) hj.2
  refine ⟨hv', fun l c a hl => mvx_cg h hv' (fun i hi => ?_) (fun j hj => ?_) a⟩
  · by_cases q : i < v
    · have z := s1 i hi.1.1 q
      exact ⟨i, ⟨by have := hi.1; omega, by rw [z.1, z.2.1]; exact hi.2⟩, z⟩
    · have z := s2 (i + 1) (by omega) (by have := hi.1; omega)
      rw [show i + 1 - 1 = i by omega] at z
      exact ⟨i + 1, ⟨by have := hi.1; omega, by rw [z.1, z.2.1]; exact hi.2⟩, z⟩
  · have e : j ≠ v := fun e => by have := hj.2.1; rw [e] at this; omega
    obtain ⟨i, hi, s, _⟩ := sx j hj.1.1 hj.1.2 e
    exact ⟨i, hi, by rw [← s.1, ← s.2.1]; exact hj.2⟩

/-- the list after a move of nothing -/
def MD0 (μ ν : Mm) (l c : Int) : Prop := ∃ v, RK μ (10000 * l + c) v ∧ (((∀ i, 0 ≤ i → i < μ 7 0 3 → ky μ i ≠ 10000 * l + c) ∧ ν 7 0 3 = μ 7 0 3 ∧ ∀ i, 0 ≤ i → i < μ 7 0 3 → SM μ ν i i) ∨ ((v < μ 7 0 3 ∧ ky μ v = 10000 * l + c) ∧ ν 7 0 3 = μ 7 0 3 - 1 ∧ (∀ i, 0 ≤ i → i < v → SM μ ν i i) ∧ (∀ i, v ≤ i → i < μ 7 0 3 - 1 → SM μ ν i (i + 1))))
/-- the list after a move of something -/
def MD1 (μ ν : Mm) (l c x y z : Int) : Prop := ∃ v, RK μ (10000 * l + c) v ∧ (ky ν v = 10000 * l + c ∧ ν 10 0 (3 * v) = x ∧ ν 10 0 (3 * v + 1) = y ∧ ν 10 0 (3 * v + 2) = z) ∧ (((v < μ 7 0 3 ∧ ky μ v = 10000 * l + c) ∧ ν 7 0 3 = μ 7 0 3 ∧ (∀ i, 0 ≤ i → i < μ 7 0 3 → i ≠ v → SM μ ν i i)) ∨ ((∀ i, 0 ≤ i → i < μ 7 0 3 → ky μ i ≠ 10000 * l + c) ∧ μ 7 0 3 < 40 ∧ ν 7 0 3 = μ 7 0 3 + 1 ∧ (∀ i, 0 ≤ i → i < v → SM μ ν i i) ∧ (∀ i, v < i → i ≤ μ 7 0 3 → SM μ ν i (i - 1))))
theorem mo_fin {μ ν : Mm} {l : Int} (hI : XI μ) (h6 : P6 μ) (hl : 1 ≤ l ∧ l ≤ 3) (F : (∀ k l1 i, ¬ (k = 7 ∨ k = 8 ∨ k = 9 ∨ k = 10) → ν k l1 i = μ k l1 i)) (hM : Mv ν ∧ ∀ j c a, j < l → 0 ≤ a → a < 3 → mvx ν j c a = mvx μ j c a) : (∀ k l1 i, ¬ (k = 7 ∨ k = 8 ∨ k = 9 ∨ k = 10 ∨ k = 3 ∧ l1 = 0 ∧ i = 6) → mset ν 3 0 6 (min (ν 3 0 6) (l - 1)) k l1 i = μ k l1 i) ∧ XI (mset ν 3 0 6 (min (ν 3 0 6) (l - 1))) ∧ P6 (mset ν 3 0 6 (min (ν 3 0 6) (l - 1))) := by
  have F' : ∀ k l1 i, ¬ (k = 7 ∨ k = 8 ∨ k = 9 ∨ k = 10 ∨ k = 3 ∧ l1 = 0 ∧ i = 6) → mset ν 3 0 6 (min (ν 3 0 6) (l - 1)) k l1 i = μ k l1 i := fun k l1 i q => by rw [mset_ne (by omega)]; exact F k l1 i (by omega)
  have S : SB ν (mset ν 3 0 6 (min (ν 3 0 6) (l - 1))) := fun k l i q => mset_k (by omega)
  exact ⟨F', keep_move hI h6 hl (S.mv hM.1) F' (fun j c a hj a0 a1 => by rw [S.mve]; exact hM.2 j c a hj a0 a1) (by rw [mset_eq, F 3 0 6 (by omega)])⟩
theorem SM.ms {μ ν : Mm} {i j w : Int} (h : SM μ ν i j) : SM μ (mset ν 3 0 6 w) i j := ⟨by rw [mset_k (by decide)]; exact h.1, by rw [mset_k (by decide)]; exact h.2.1, fun a a0 a1 => by rw [mset_k (by decide)]; exact h.2.2 a a0 a1⟩
theorem SM.m10 {μ ν : Mm} {i j v x y z : Int} (h : SM μ ν i j) (e : i ≠ v) : SM μ (mset (mset (mset ν 10 0 (3 * v) x) 10 0 (3 * v + 1) y) 10 0 (3 * v + 2) z) i j := ⟨by rw [mset_k (by decide), mset_k (by decide), mset_k (by decide)]; exact h.1, by rw [mset_k (by decide), mset_k (by decide), mset_k (by decide)]; exact h.2.1, fun a a0 a1 => by rw [mset_i (by omega), mset_i (by omega), mset_i (by omega)]; exact h.2.2 a a0 a1⟩
theorem SM.rf {μ : Mm} {i : Int} : SM μ μ i i := ⟨rfl, rfl, fun _ _ _ => rfl⟩

set_option maxRecDepth 100000 in
set_option maxHeartbeats 4000000 in
theorem x_move {μ : Mm} (l c x y z : Int) (hl : inR l) (hc : inR c) (hx : inR x) (hy : inR y) (hz : inR z) (hI : XI μ) (h6 : P6 μ) : Mc mX5_move 6 [vR 0 0, vI l, vI c, vI x, vI y, vI z] μ (fun r ν => (¬ (1 ≤ l ∧ l < 4 ∧ 0 ≤ c ∧ c ≤ 1000) ∧ r = some (vI (-101)) ∧ ν = μ) ∨ (((1 ≤ l ∧ l < 4 ∧ 0 ≤ c ∧ c ≤ 1000) ∧ ¬ ((-1000 ≤ x ∧ x ≤ 1000) ∧ (-1000 ≤ y ∧ y ≤ 1000) ∧ (-1000 ≤ z ∧ z ≤ 1000))) ∧ r = some (vI (-102)) ∧ ν = μ) ∨ (((1 ≤ l ∧ l < 4 ∧ 0 ≤ c ∧ c ≤ 1000) ∧ ((-1000 ≤ x ∧ x ≤ 1000) ∧ (-1000 ≤ y ∧ y ≤ 1000) ∧ (-1000 ≤ z ∧ z ≤ 1000)) ∧ (x = 0 ∧ y = 0 ∧ z = 0)) ∧ r = some (vI (ν 7 0 3)) ∧ (∀ k l1 i, ¬ (k = 7 ∨ k = 8 ∨ k = 9 ∨ k = 10 ∨ k = 3 ∧ l1 = 0 ∧ i = 6) → ν k l1 i = μ k l1 i) ∧ MD0 μ ν l c ∧ XI ν ∧ P6 ν) ∨ (((1 ≤ l ∧ l < 4 ∧ 0 ≤ c ∧ c ≤ 1000) ∧ ((-1000 ≤ x ∧ x ≤ 1000) ∧ (-1000 ≤ y ∧ y ≤ 1000) ∧ (-1000 ≤ z ∧ z ≤ 1000)) ∧ ¬ (x = 0 ∧ y = 0 ∧ z = 0)) ∧ (∀ i, 0 ≤ i → i < μ 7 0 3 → ky μ i ≠ 10000 * l + c) ∧ 40 ≤ μ 7 0 3 ∧ r = some (vI (-104)) ∧ ν = μ) ∨ (((1 ≤ l ∧ l < 4 ∧ 0 ≤ c ∧ c ≤ 1000) ∧ ((-1000 ≤ x ∧ x ≤ 1000) ∧ (-1000 ≤ y ∧ y ≤ 1000) ∧ (-1000 ≤ z ∧ z ≤ 1000)) ∧ ¬ (x = 0 ∧ y = 0 ∧ z = 0)) ∧ r = some (vI (ν 7 0 3)) ∧ (∀ k l1 i, ¬ (k = 7 ∨ k = 8 ∨ k = 9 ∨ k = 10 ∨ k = 3 ∧ l1 = 0 ∧ i = 6) → ν k l1 i = μ k l1 i) ∧ MD1 μ ν l c x y z ∧ XI ν ∧ P6 ν)) := by
  refine Mc.of (L := [some (vR 0 0), some (vI l), some (vI c), some (vI x), some (vI y), some (vI z), none, none]) (by decide +kernel) (by simp [leL, entA, isLong, mX5_move]) (by simp [entA, isLong, mX5_move]) ?_
  have hM := hI.2.2.1
  have hM1 := hM.1
  refine e_aload_n 0 (dec_at dX5_move 0) rfl rfl ?_
  refine e_getr 1 (dec_at dX5_move 1) flX5_19 rfl rfl ?_
  refine e_getr 3 (dec_at dX5_move 2) flX5_104 rfl rfl ?_
  refine e_as6 (dec_at dX5_move 3) (by decide) rfl ?_
  refine e_iload_n 1 (dec_at dX5_move 4) rfl rfl ?_
  refine e_iload_n 2 (dec_at dX5_move 5) rfl rfl ?_
  refine e_callSr (M' := mX5_isMovable) (dec_at dX5_move 6) mlX5_193 (c_isMovable l c hl hc) oX5_isMovable sX5_isMovable rfl rfl (by decide) (by decide) (Nat.le_of_ble_eq_true rfl) ?_
  refine e_bne 20 (dec_at dX5_move 7) (by decide) (fun h14 => ?_) (fun h14 => ?_)
  · refine e_iload_n 3 (dec_at dX5_move 10) rfl rfl ?_
    refine e_iload (dec_at dX5_move 11) rfl ?_
    refine e_iload (dec_at dX5_move 12) rfl ?_
    refine e_sipush (dec_at dX5_move 13) (by decide) ?_
    refine e_callSr (M' := mX5_areWithin) (dec_at dX5_move 14) mlX5_185 (c_areWithin x y z 1000 hx hy hz (by decide)) oX5_areWithin sX5_areWithin rfl rfl (by decide) (by decide) (Nat.le_of_ble_eq_true rfl) ?_
    refine e_bne 37 (dec_at dX5_move 15) (by decide) (fun h31 => ?_) (fun h31 => ?_)
    · refine e_iload_n 3 (dec_at dX5_move 18) rfl rfl ?_
      refine e_if_ne 61 (dec_at dX5_move 19) (by decide) (by omega) (fun h38 => ?_) (fun h38 => ?_)
      · refine e_aload (dec_at dX5_move 29) rfl ?_
        refine e_iload_n 1 (dec_at dX5_move 30) rfl rfl ?_
        refine e_iload_n 2 (dec_at dX5_move 31) rfl rfl ?_
        refine e_callV (M' := mX1_open) (dec_at dX5_move 32) mlX5_199 (c_mopen (μ := μ) l c hM (by omega) (by omega)) oX1_open iX1_open rfl rfl rfl rfl (by decide) (by decide) (Nat.le_of_ble_eq_true rfl) (fun r ν hQ => ?_)
        obtain ⟨v, rfl, ho⟩ := hQ
        show Ev mX5_move 6 68 _ [vI v] ν _
        have hv : (v = -1 ∧ ν = μ ∧ (∀ i, 0 ≤ i → i < μ 7 0 3 → ky μ i ≠ 10000 * l + c) ∧ 40 ≤ μ 7 0 3) ∨ ((0 ≤ v ∧ v < 40) ∧ RK μ (10000 * l + c) v ∧ (∀ k l1 i, ¬ (k = 7 ∨ k = 8 ∨ k = 9 ∨ k = 10) → ν k l1 i = μ k l1 i) ∧ (ν 8 0 v = l ∧ ν 9 0 v = c) ∧ (((v < μ 7 0 3 ∧ μ 8 0 v = l ∧ μ 9 0 v = c) ∧ ν 7 0 3 = μ 7 0 3 ∧ (∀ i, 0 ≤ i → i < μ 7 0 3 → i ≠ v → SM μ ν i i)) ∨ ((∀ i, 0 ≤ i → i < μ 7 0 3 → ky μ i ≠ 10000 * l + c) ∧ μ 7 0 3 < 40 ∧ ν 7 0 3 = μ 7 0 3 + 1 ∧ (∀ i, 0 ≤ i → i < v → SM μ ν i i) ∧ (∀ i, v < i → i ≤ μ 7 0 3 → SM μ ν i (i - 1))))) := by
          rcases ho with ⟨rfl, v1, v2, v3⟩ | ⟨hn, ⟨rfl, e, m⟩ | ⟨m, v1, v2, v3, f, n1, s1, w, s2⟩⟩
          · exact Or.inr ⟨by omega, RK.at hM v1 ((ky_iff hM v1.1 v1.2 (by omega)).2 ⟨v2, v3⟩), fun _ _ _ _ => rfl, ⟨v2, v3⟩, Or.inl ⟨⟨v1.2, v2, v3⟩, rfl, fun _ _ _ _ => SM.rf⟩⟩
          · exact Or.inl ⟨e, rfl, ky_ne hM (by omega) hn, m⟩
          · exact Or.inr ⟨by omega, ⟨v1, v2, v3⟩, fun k l1 i q => f k l1 i (by omega), w, Or.inr ⟨ky_ne hM (by omega) hn, m, n1, s1, s2⟩⟩
        have hvv : v = -1 ∨ (0 ≤ v ∧ v < 40) := hv.imp (fun q => q.1) (fun q => q.1)
        refine e_is7 (dec_at dX5_move 33) (by decide) rfl ?_
        refine e_iload (dec_at dX5_move 34) rfl ?_
        refine e_iconst (dec_at dX5_move 35) ?_
        refine e_icmp_ne 79 (dec_at dX5_move 36) (by decide) (by omega) (by omega) (fun h73 => ?_) (fun h73 => ?_)
        · refine e_aload (dec_at dX5_move 39) rfl ?_
          refine e_iload (dec_at dX5_move 40) rfl ?_
          refine e_iload_n 3 (dec_at dX5_move 41) rfl rfl ?_
          refine e_iload (dec_at dX5_move 42) rfl ?_
          refine e_iload (dec_at dX5_move 43) rfl ?_
          refine e_callVv (M' := mX1_write) (dec_at dX5_move 44) mlX5_202 (c_mwrite (μ := ν) v x y z (by omega) hx hy hz) oX1_write iX1_write rfl rfl rfl rfl (by decide) (by decide) (Nat.le_of_ble_eq_true rfl) ?_
          refine e_aload_n 0 (dec_at dX5_move 45) rfl rfl ?_
          refine e_getr 1 (dec_at dX5_move 46) flX5_19 rfl rfl ?_
          refine e_iload_n 1 (dec_at dX5_move 47) rfl rfl ?_
          refine e_iconst (dec_at dX5_move 48) ?_
          refine e_isub (dec_at dX5_move 49) ?_
          refine e_callVv (M' := mX4_forgetNumbersAbove) (dec_at dX5_move 50) mlX5_87 (c_forgetNumbers (l - 1) (by omega)) oX4_forgetNumbersAbove iX4_forgetNumbersAbove rfl rfl rfl rfl (by decide) (by decide) (Nat.le_of_ble_eq_true rfl) ?_
          refine e_aload (dec_at dX5_move 51) rfl ?_
          refine e_geti 3 3 (dec_at dX5_move 52) flX5_108 rfl rfl rfl (fun r103 => ?_)
          refine e_ireturn (dec_at dX5_move 53) rfl ?_
          rcases hv with ⟨e, _⟩ | ⟨v0, hr, hF, w, hor⟩
          · omega
          have w2 : ∀ a, 0 ≤ a → a < 3 → -1000 ≤ (mset (mset (mset ν 10 0 (3 * v) x) 10 0 (3 * v + 1) y) 10 0 (3 * v + 2) z) 10 0 (3 * v + a) ∧ (mset (mset (mset ν 10 0 (3 * v) x) 10 0 (3 * v + 1) y) 10 0 (3 * v + 2) z) 10 0 (3 * v + a) ≤ 1000 := fun a a0 a1 => by
            rcases (show a = 0 ∨ a = 1 ∨ a = 2 by omega) with rfl | rfl | rfl
            · rw [mset_i (by omega), mset_i (by omega), show 3 * v + 0 = 3 * v by omega, mset_eq]; omega
            · rw [mset_i (by omega), mset_eq]; omega
            · rw [mset_eq]; omega
          have q7 : (mset (mset (mset ν 10 0 (3 * v) x) 10 0 (3 * v + 1) y) 10 0 (3 * v + 2) z) 7 0 3 = ν 7 0 3 := by rw [mset_k (by decide), mset_k (by decide), mset_k (by decide)]
          have ww : (mset (mset (mset ν 10 0 (3 * v) x) 10 0 (3 * v + 1) y) 10 0 (3 * v + 2) z) 8 0 v = l ∧ (mset (mset (mset ν 10 0 (3 * v) x) 10 0 (3 * v + 1) y) 10 0 (3 * v + 2) z) 9 0 v = c := by
            rw [mset_k (by decide), mset_k (by decide), mset_k (by decide), mset_k (by decide), mset_k (by decide), mset_k (by decide)]; exact w
          have hD : Mv (mset (mset (mset ν 10 0 (3 * v) x) 10 0 (3 * v + 1) y) 10 0 (3 * v + 2) z) ∧ (∀ j c a, j < l → 0 ≤ a → a < 3 → mvx (mset (mset (mset ν 10 0 (3 * v) x) 10 0 (3 * v + 1) y) 10 0 (3 * v + 2) z) j c a = mvx μ j c a) := by
            rcases hor with ⟨p1, p2, p3⟩ | ⟨p1, p2, p3, p4, p5⟩
            · exact Mv_put hM (by omega) (by omega) ⟨v0.1, p1.1⟩ p1.2 (by rw [q7]; exact p2) (fun i a b e => (p3 i a b e).m10 e) ww w2
            · exact Mv_ins hM (by omega) (by omega) p2 hr p1 (by rw [q7]; exact p3) (fun i a b => (p4 i a b).m10 (by omega)) (fun i a b => (p5 i a b).m10 (by omega)) ww w2
          have K := mo_fin hI h6 (by omega) (fun k l1 i q => by rw [mset_k (by omega), mset_k (by omega), mset_k (by omega)]; exact hF k l1 i q) hD
          refine Or.inr (Or.inr (Or.inr (Or.inr ⟨by omega, ?_, K.1, ⟨v, hr, ⟨?_, ?_, ?_, ?_⟩, ?_⟩, K.2.1, K.2.2⟩)))
          · rw [mset_k (by decide), q7]
          · unfold ky
            rw [mset_k (k := 3) (by decide), mset_k (k := 3) (by decide), ww.1, ww.2]
          · rw [mset_k (by decide), mset_i (by omega), mset_i (by omega)]; exact mset_eq
          · rw [mset_k (by decide), mset_i (by omega)]; exact mset_eq
          · rw [mset_k (by decide)]; exact mset_eq
          · rcases hor with ⟨p1, p2, p3⟩ | ⟨p1, p2, p3, p4, p5⟩
            · exact Or.inl ⟨⟨p1.1, (ky_iff hM v0.1 p1.1 (by omega)).2 p1.2⟩, by rw [mset_k (by decide), q7]; exact p2, fun i a b e => ((p3 i a b e).m10 e).ms⟩
            · exact Or.inr ⟨p1, p2, by rw [mset_k (by decide), q7]; exact p3, fun i a b => ((p4 i a b).m10 (by omega)).ms, fun i a b => ((p5 i a b).m10 (by omega)).ms⟩
        · refine e_bipush (dec_at dX5_move 37) (by decide) ?_
          refine e_ireturn (dec_at dX5_move 38) rfl ?_
          rcases hv with ⟨e, rfl, q1, q2⟩ | hv
          · exact Or.inr (Or.inr (Or.inr (Or.inl ⟨by omega, q1, q2, rfl, rfl⟩)))
          · have := hv.1
            omega
      · refine e_iload (dec_at dX5_move 20) rfl ?_
        refine e_if_ne 61 (dec_at dX5_move 21) (by decide) (by omega) (fun h43 => ?_) (fun h43 => ?_)
        · refine e_aload (dec_at dX5_move 29) rfl ?_
          refine e_iload_n 1 (dec_at dX5_move 30) rfl rfl ?_
          refine e_iload_n 2 (dec_at dX5_move 31) rfl rfl ?_
          refine e_callV (M' := mX1_open) (dec_at dX5_move 32) mlX5_199 (c_mopen (μ := μ) l c hM (by omega) (by omega)) oX1_open iX1_open rfl rfl rfl rfl (by decide) (by decide) (Nat.le_of_ble_eq_true rfl) (fun r ν hQ => ?_)
          obtain ⟨v, rfl, ho⟩ := hQ
          show Ev mX5_move 6 68 _ [vI v] ν _
          have hv : (v = -1 ∧ ν = μ ∧ (∀ i, 0 ≤ i → i < μ 7 0 3 → ky μ i ≠ 10000 * l + c) ∧ 40 ≤ μ 7 0 3) ∨ ((0 ≤ v ∧ v < 40) ∧ RK μ (10000 * l + c) v ∧ (∀ k l1 i, ¬ (k = 7 ∨ k = 8 ∨ k = 9 ∨ k = 10) → ν k l1 i = μ k l1 i) ∧ (ν 8 0 v = l ∧ ν 9 0 v = c) ∧ (((v < μ 7 0 3 ∧ μ 8 0 v = l ∧ μ 9 0 v = c) ∧ ν 7 0 3 = μ 7 0 3 ∧ (∀ i, 0 ≤ i → i < μ 7 0 3 → i ≠ v → SM μ ν i i)) ∨ ((∀ i, 0 ≤ i → i < μ 7 0 3 → ky μ i ≠ 10000 * l + c) ∧ μ 7 0 3 < 40 ∧ ν 7 0 3 = μ 7 0 3 + 1 ∧ (∀ i, 0 ≤ i → i < v → SM μ ν i i) ∧ (∀ i, v < i → i ≤ μ 7 0 3 → SM μ ν i (i - 1))))) := by
            rcases ho with ⟨rfl, v1, v2, v3⟩ | ⟨hn, ⟨rfl, e, m⟩ | ⟨m, v1, v2, v3, f, n1, s1, w, s2⟩⟩
            · exact Or.inr ⟨by omega, RK.at hM v1 ((ky_iff hM v1.1 v1.2 (by omega)).2 ⟨v2, v3⟩), fun _ _ _ _ => rfl, ⟨v2, v3⟩, Or.inl ⟨⟨v1.2, v2, v3⟩, rfl, fun _ _ _ _ => SM.rf⟩⟩
            · exact Or.inl ⟨e, rfl, ky_ne hM (by omega) hn, m⟩
            · exact Or.inr ⟨by omega, ⟨v1, v2, v3⟩, fun k l1 i q => f k l1 i (by omega), w, Or.inr ⟨ky_ne hM (by omega) hn, m, n1, s1, s2⟩⟩
          have hvv : v = -1 ∨ (0 ≤ v ∧ v < 40) := hv.imp (fun q => q.1) (fun q => q.1)
          refine e_is7 (dec_at dX5_move 33) (by decide) rfl ?_
          refine e_iload (dec_at dX5_move 34) rfl ?_
          refine e_iconst (dec_at dX5_move 35) ?_
          refine e_icmp_ne 79 (dec_at dX5_move 36) (by decide) (by omega) (by omega) (fun h73 => ?_) (fun h73 => ?_)
          · refine e_aload (dec_at dX5_move 39) rfl ?_
            refine e_iload (dec_at dX5_move 40) rfl ?_
            refine e_iload_n 3 (dec_at dX5_move 41) rfl rfl ?_
            refine e_iload (dec_at dX5_move 42) rfl ?_
            refine e_iload (dec_at dX5_move 43) rfl ?_
            refine e_callVv (M' := mX1_write) (dec_at dX5_move 44) mlX5_202 (c_mwrite (μ := ν) v x y z (by omega) hx hy hz) oX1_write iX1_write rfl rfl rfl rfl (by decide) (by decide) (Nat.le_of_ble_eq_true rfl) ?_
            refine e_aload_n 0 (dec_at dX5_move 45) rfl rfl ?_
            refine e_getr 1 (dec_at dX5_move 46) flX5_19 rfl rfl ?_
            refine e_iload_n 1 (dec_at dX5_move 47) rfl rfl ?_
            refine e_iconst (dec_at dX5_move 48) ?_
            refine e_isub (dec_at dX5_move 49) ?_
            refine e_callVv (M' := mX4_forgetNumbersAbove) (dec_at dX5_move 50) mlX5_87 (c_forgetNumbers (l - 1) (by omega)) oX4_forgetNumbersAbove iX4_forgetNumbersAbove rfl rfl rfl rfl (by decide) (by decide) (Nat.le_of_ble_eq_true rfl) ?_
            refine e_aload (dec_at dX5_move 51) rfl ?_
            refine e_geti 3 3 (dec_at dX5_move 52) flX5_108 rfl rfl rfl (fun r103 => ?_)
            refine e_ireturn (dec_at dX5_move 53) rfl ?_
            rcases hv with ⟨e, _⟩ | ⟨v0, hr, hF, w, hor⟩
            · omega
            have w2 : ∀ a, 0 ≤ a → a < 3 → -1000 ≤ (mset (mset (mset ν 10 0 (3 * v) x) 10 0 (3 * v + 1) y) 10 0 (3 * v + 2) z) 10 0 (3 * v + a) ∧ (mset (mset (mset ν 10 0 (3 * v) x) 10 0 (3 * v + 1) y) 10 0 (3 * v + 2) z) 10 0 (3 * v + a) ≤ 1000 := fun a a0 a1 => by
              rcases (show a = 0 ∨ a = 1 ∨ a = 2 by omega) with rfl | rfl | rfl
              · rw [mset_i (by omega), mset_i (by omega), show 3 * v + 0 = 3 * v by omega, mset_eq]; omega
              · rw [mset_i (by omega), mset_eq]; omega
              · rw [mset_eq]; omega
            have q7 : (mset (mset (mset ν 10 0 (3 * v) x) 10 0 (3 * v + 1) y) 10 0 (3 * v + 2) z) 7 0 3 = ν 7 0 3 := by rw [mset_k (by decide), mset_k (by decide), mset_k (by decide)]
            have ww : (mset (mset (mset ν 10 0 (3 * v) x) 10 0 (3 * v + 1) y) 10 0 (3 * v + 2) z) 8 0 v = l ∧ (mset (mset (mset ν 10 0 (3 * v) x) 10 0 (3 * v + 1) y) 10 0 (3 * v + 2) z) 9 0 v = c := by
              rw [mset_k (by decide), mset_k (by decide), mset_k (by decide), mset_k (by decide), mset_k (by decide), mset_k (by decide)]; exact w
            have hD : Mv (mset (mset (mset ν 10 0 (3 * v) x) 10 0 (3 * v + 1) y) 10 0 (3 * v + 2) z) ∧ (∀ j c a, j < l → 0 ≤ a → a < 3 → mvx (mset (mset (mset ν 10 0 (3 * v) x) 10 0 (3 * v + 1) y) 10 0 (3 * v + 2) z) j c a = mvx μ j c a) := by
              rcases hor with ⟨p1, p2, p3⟩ | ⟨p1, p2, p3, p4, p5⟩
              · exact Mv_put hM (by omega) (by omega) ⟨v0.1, p1.1⟩ p1.2 (by rw [q7]; exact p2) (fun i a b e => (p3 i a b e).m10 e) ww w2
              · exact Mv_ins hM (by omega) (by omega) p2 hr p1 (by rw [q7]; exact p3) (fun i a b => (p4 i a b).m10 (by omega)) (fun i a b => (p5 i a b).m10 (by omega)) ww w2
            have K := mo_fin hI h6 (by omega) (fun k l1 i q => by rw [mset_k (by omega), mset_k (by omega), mset_k (by omega)]; exact hF k l1 i q) hD
            refine Or.inr (Or.inr (Or.inr (Or.inr ⟨by omega, ?_, K.1, ⟨v, hr, ⟨?_, ?_, ?_, ?_⟩, ?_⟩, K.2.1, K.2.2⟩)))
            · rw [mset_k (by decide), q7]
            · unfold ky
              rw [mset_k (k := 3) (by decide), mset_k (k := 3) (by decide), ww.1, ww.2]
            · rw [mset_k (by decide), mset_i (by omega), mset_i (by omega)]; exact mset_eq
            · rw [mset_k (by decide), mset_i (by omega)]; exact mset_eq
            · rw [mset_k (by decide)]; exact mset_eq
            · rcases hor with ⟨p1, p2, p3⟩ | ⟨p1, p2, p3, p4, p5⟩
              · exact Or.inl ⟨⟨p1.1, (ky_iff hM v0.1 p1.1 (by omega)).2 p1.2⟩, by rw [mset_k (by decide), q7]; exact p2, fun i a b e => ((p3 i a b e).m10 e).ms⟩
              · exact Or.inr ⟨p1, p2, by rw [mset_k (by decide), q7]; exact p3, fun i a b => ((p4 i a b).m10 (by omega)).ms, fun i a b => ((p5 i a b).m10 (by omega)).ms⟩
          · refine e_bipush (dec_at dX5_move 37) (by decide) ?_
            refine e_ireturn (dec_at dX5_move 38) rfl ?_
            rcases hv with ⟨e, rfl, q1, q2⟩ | hv
            · exact Or.inr (Or.inr (Or.inr (Or.inl ⟨by omega, q1, q2, rfl, rfl⟩)))
            · have := hv.1
              omega
        · refine e_iload (dec_at dX5_move 22) rfl ?_
          refine e_if_ne 61 (dec_at dX5_move 23) (by decide) (by omega) (fun h48 => ?_) (fun h48 => ?_)
          · refine e_aload (dec_at dX5_move 29) rfl ?_
            refine e_iload_n 1 (dec_at dX5_move 30) rfl rfl ?_
            refine e_iload_n 2 (dec_at dX5_move 31) rfl rfl ?_
            refine e_callV (M' := mX1_open) (dec_at dX5_move 32) mlX5_199 (c_mopen (μ := μ) l c hM (by omega) (by omega)) oX1_open iX1_open rfl rfl rfl rfl (by decide) (by decide) (Nat.le_of_ble_eq_true rfl) (fun r ν hQ => ?_)
            obtain ⟨v, rfl, ho⟩ := hQ
            show Ev mX5_move 6 68 _ [vI v] ν _
            have hv : (v = -1 ∧ ν = μ ∧ (∀ i, 0 ≤ i → i < μ 7 0 3 → ky μ i ≠ 10000 * l + c) ∧ 40 ≤ μ 7 0 3) ∨ ((0 ≤ v ∧ v < 40) ∧ RK μ (10000 * l + c) v ∧ (∀ k l1 i, ¬ (k = 7 ∨ k = 8 ∨ k = 9 ∨ k = 10) → ν k l1 i = μ k l1 i) ∧ (ν 8 0 v = l ∧ ν 9 0 v = c) ∧ (((v < μ 7 0 3 ∧ μ 8 0 v = l ∧ μ 9 0 v = c) ∧ ν 7 0 3 = μ 7 0 3 ∧ (∀ i, 0 ≤ i → i < μ 7 0 3 → i ≠ v → SM μ ν i i)) ∨ ((∀ i, 0 ≤ i → i < μ 7 0 3 → ky μ i ≠ 10000 * l + c) ∧ μ 7 0 3 < 40 ∧ ν 7 0 3 = μ 7 0 3 + 1 ∧ (∀ i, 0 ≤ i → i < v → SM μ ν i i) ∧ (∀ i, v < i → i ≤ μ 7 0 3 → SM μ ν i (i - 1))))) := by
              rcases ho with ⟨rfl, v1, v2, v3⟩ | ⟨hn, ⟨rfl, e, m⟩ | ⟨m, v1, v2, v3, f, n1, s1, w, s2⟩⟩
              · exact Or.inr ⟨by omega, RK.at hM v1 ((ky_iff hM v1.1 v1.2 (by omega)).2 ⟨v2, v3⟩), fun _ _ _ _ => rfl, ⟨v2, v3⟩, Or.inl ⟨⟨v1.2, v2, v3⟩, rfl, fun _ _ _ _ => SM.rf⟩⟩
              · exact Or.inl ⟨e, rfl, ky_ne hM (by omega) hn, m⟩
              · exact Or.inr ⟨by omega, ⟨v1, v2, v3⟩, fun k l1 i q => f k l1 i (by omega), w, Or.inr ⟨ky_ne hM (by omega) hn, m, n1, s1, s2⟩⟩
            have hvv : v = -1 ∨ (0 ≤ v ∧ v < 40) := hv.imp (fun q => q.1) (fun q => q.1)
            refine e_is7 (dec_at dX5_move 33) (by decide) rfl ?_
            refine e_iload (dec_at dX5_move 34) rfl ?_
            refine e_iconst (dec_at dX5_move 35) ?_
            refine e_icmp_ne 79 (dec_at dX5_move 36) (by decide) (by omega) (by omega) (fun h73 => ?_) (fun h73 => ?_)
            · refine e_aload (dec_at dX5_move 39) rfl ?_
              refine e_iload (dec_at dX5_move 40) rfl ?_
              refine e_iload_n 3 (dec_at dX5_move 41) rfl rfl ?_
              refine e_iload (dec_at dX5_move 42) rfl ?_
              refine e_iload (dec_at dX5_move 43) rfl ?_
              refine e_callVv (M' := mX1_write) (dec_at dX5_move 44) mlX5_202 (c_mwrite (μ := ν) v x y z (by omega) hx hy hz) oX1_write iX1_write rfl rfl rfl rfl (by decide) (by decide) (Nat.le_of_ble_eq_true rfl) ?_
              refine e_aload_n 0 (dec_at dX5_move 45) rfl rfl ?_
              refine e_getr 1 (dec_at dX5_move 46) flX5_19 rfl rfl ?_
              refine e_iload_n 1 (dec_at dX5_move 47) rfl rfl ?_
              refine e_iconst (dec_at dX5_move 48) ?_
              refine e_isub (dec_at dX5_move 49) ?_
              refine e_callVv (M' := mX4_forgetNumbersAbove) (dec_at dX5_move 50) mlX5_87 (c_forgetNumbers (l - 1) (by omega)) oX4_forgetNumbersAbove iX4_forgetNumbersAbove rfl rfl rfl rfl (by decide) (by decide) (Nat.le_of_ble_eq_true rfl) ?_
              refine e_aload (dec_at dX5_move 51) rfl ?_
              refine e_geti 3 3 (dec_at dX5_move 52) flX5_108 rfl rfl rfl (fun r103 => ?_)
              refine e_ireturn (dec_at dX5_move 53) rfl ?_
              rcases hv with ⟨e, _⟩ | ⟨v0, hr, hF, w, hor⟩
              · omega
              have w2 : ∀ a, 0 ≤ a → a < 3 → -1000 ≤ (mset (mset (mset ν 10 0 (3 * v) x) 10 0 (3 * v + 1) y) 10 0 (3 * v + 2) z) 10 0 (3 * v + a) ∧ (mset (mset (mset ν 10 0 (3 * v) x) 10 0 (3 * v + 1) y) 10 0 (3 * v + 2) z) 10 0 (3 * v + a) ≤ 1000 := fun a a0 a1 => by
                rcases (show a = 0 ∨ a = 1 ∨ a = 2 by omega) with rfl | rfl | rfl
                · rw [mset_i (by omega), mset_i (by omega), show 3 * v + 0 = 3 * v by omega, mset_eq]; omega
                · rw [mset_i (by omega), mset_eq]; omega
                · rw [mset_eq]; omega
              have q7 : (mset (mset (mset ν 10 0 (3 * v) x) 10 0 (3 * v + 1) y) 10 0 (3 * v + 2) z) 7 0 3 = ν 7 0 3 := by rw [mset_k (by decide), mset_k (by decide), mset_k (by decide)]
              have ww : (mset (mset (mset ν 10 0 (3 * v) x) 10 0 (3 * v + 1) y) 10 0 (3 * v + 2) z) 8 0 v = l ∧ (mset (mset (mset ν 10 0 (3 * v) x) 10 0 (3 * v + 1) y) 10 0 (3 * v + 2) z) 9 0 v = c := by
                rw [mset_k (by decide), mset_k (by decide), mset_k (by decide), mset_k (by decide), mset_k (by decide), mset_k (by decide)]; exact w
              have hD : Mv (mset (mset (mset ν 10 0 (3 * v) x) 10 0 (3 * v + 1) y) 10 0 (3 * v + 2) z) ∧ (∀ j c a, j < l → 0 ≤ a → a < 3 → mvx (mset (mset (mset ν 10 0 (3 * v) x) 10 0 (3 * v + 1) y) 10 0 (3 * v + 2) z) j c a = mvx μ j c a) := by
                rcases hor with ⟨p1, p2, p3⟩ | ⟨p1, p2, p3, p4, p5⟩
                · exact Mv_put hM (by omega) (by omega) ⟨v0.1, p1.1⟩ p1.2 (by rw [q7]; exact p2) (fun i a b e => (p3 i a b e).m10 e) ww w2
                · exact Mv_ins hM (by omega) (by omega) p2 hr p1 (by rw [q7]; exact p3) (fun i a b => (p4 i a b).m10 (by omega)) (fun i a b => (p5 i a b).m10 (by omega)) ww w2
              have K := mo_fin hI h6 (by omega) (fun k l1 i q => by rw [mset_k (by omega), mset_k (by omega), mset_k (by omega)]; exact hF k l1 i q) hD
              refine Or.inr (Or.inr (Or.inr (Or.inr ⟨by omega, ?_, K.1, ⟨v, hr, ⟨?_, ?_, ?_, ?_⟩, ?_⟩, K.2.1, K.2.2⟩)))
              · rw [mset_k (by decide), q7]
              · unfold ky
                rw [mset_k (k := 3) (by decide), mset_k (k := 3) (by decide), ww.1, ww.2]
              · rw [mset_k (by decide), mset_i (by omega), mset_i (by omega)]; exact mset_eq
              · rw [mset_k (by decide), mset_i (by omega)]; exact mset_eq
              · rw [mset_k (by decide)]; exact mset_eq
              · rcases hor with ⟨p1, p2, p3⟩ | ⟨p1, p2, p3, p4, p5⟩
                · exact Or.inl ⟨⟨p1.1, (ky_iff hM v0.1 p1.1 (by omega)).2 p1.2⟩, by rw [mset_k (by decide), q7]; exact p2, fun i a b e => ((p3 i a b e).m10 e).ms⟩
                · exact Or.inr ⟨p1, p2, by rw [mset_k (by decide), q7]; exact p3, fun i a b => ((p4 i a b).m10 (by omega)).ms, fun i a b => ((p5 i a b).m10 (by omega)).ms⟩
            · refine e_bipush (dec_at dX5_move 37) (by decide) ?_
              refine e_ireturn (dec_at dX5_move 38) rfl ?_
              rcases hv with ⟨e, rfl, q1, q2⟩ | hv
              · exact Or.inr (Or.inr (Or.inr (Or.inl ⟨by omega, q1, q2, rfl, rfl⟩)))
              · have := hv.1
                omega
          · refine e_aload (dec_at dX5_move 24) rfl ?_
            refine e_iload_n 1 (dec_at dX5_move 25) rfl rfl ?_
            refine e_iload_n 2 (dec_at dX5_move 26) rfl rfl ?_
            refine e_callV (M' := mX1_drop) (dec_at dX5_move 27) mlX5_196 (c_drop (μ := μ) l c hM (by omega) (by omega)) oX1_drop iX1_drop rfl rfl rfl rfl (by decide) (by decide) (Nat.le_of_ble_eq_true rfl) (fun r ν hQ => ?_)
            obtain ⟨rfl, hd⟩ := hQ
            show Ev mX5_move 6 58 _ [] ν _
            have hD : Mv ν ∧ (∀ j c a, j < l → 0 ≤ a → a < 3 → mvx ν j c a = mvx μ j c a) := by
              rcases hd with ⟨rfl, hn⟩ | ⟨v, v1, v2, f, n1, s1, s2⟩
              · exact ⟨hM, fun _ _ _ _ _ _ => rfl⟩
              · exact Mv_drop hM v1 v2.1 n1 s1 s2
            have hF : ∀ k l1 i, ¬ (k = 7 ∨ k = 8 ∨ k = 9 ∨ k = 10) → ν k l1 i = μ k l1 i := by
              rcases hd with ⟨rfl, hn⟩ | ⟨v, v1, v2, f, n1, s1, s2⟩
              · exact fun _ _ _ _ => rfl
              · exact fun k l1 i q => f k l1 i (by omega)
            refine e_goto 91 (dec_at dX5_move 28) (by decide) ?_
            refine e_aload_n 0 (dec_at dX5_move 45) rfl rfl ?_
            refine e_getr 1 (dec_at dX5_move 46) flX5_19 rfl rfl ?_
            refine e_iload_n 1 (dec_at dX5_move 47) rfl rfl ?_
            refine e_iconst (dec_at dX5_move 48) ?_
            refine e_isub (dec_at dX5_move 49) ?_
            refine e_callVv (M' := mX4_forgetNumbersAbove) (dec_at dX5_move 50) mlX5_87 (c_forgetNumbers (l - 1) (by omega)) oX4_forgetNumbersAbove iX4_forgetNumbersAbove rfl rfl rfl rfl (by decide) (by decide) (Nat.le_of_ble_eq_true rfl) ?_
            refine e_aload (dec_at dX5_move 51) rfl ?_
            refine e_geti 3 3 (dec_at dX5_move 52) flX5_108 rfl rfl rfl (fun r103 => ?_)
            refine e_ireturn (dec_at dX5_move 53) rfl ?_
            have K := mo_fin hI h6 (by omega) hF hD
            refine Or.inr (Or.inr (Or.inl ⟨by omega, ?_, K.1, ?_, K.2.1, K.2.2⟩))
            · rw [mset_k (by decide)]
            · rcases hd with ⟨rfl, hn⟩ | ⟨v, v1, v2, f, n1, s1, s2⟩
              · obtain ⟨v, hr⟩ := RK_ex hM (10000 * l + c)
                exact ⟨v, hr, Or.inl ⟨ky_ne hM (by omega) hn, mset_k (by decide), fun i _ _ => SM.rf.ms⟩⟩
              · exact ⟨v, RK.at hM v1 ((ky_iff hM v1.1 v1.2 (by omega)).2 v2), Or.inr ⟨⟨v1.2, (ky_iff hM v1.1 v1.2 (by omega)).2 v2⟩, by rw [mset_k (by decide)]; exact n1, fun i a b => SM.ms (s1 i a b), fun i a b => SM.ms (s2 i a b)⟩⟩
    · refine e_bipush (dec_at dX5_move 16) (by decide) ?_
      refine e_ireturn (dec_at dX5_move 17) rfl ?_
      exact Or.inr (Or.inl ⟨by omega, rfl, rfl⟩)
  · refine e_bipush (dec_at dX5_move 8) (by decide) ?_
    refine e_ireturn (dec_at dX5_move 9) rfl ?_
    exact Or.inl ⟨by omega, rfl, rfl⟩
