/-! THE CLASS AND THE REFERENCE side by side -/
def JBp (μ : Mm) : Prop := μ 23 0 0 = μ 11 0 0 ∧ μ 24 0 0 = μ 11 0 1 ∧ (∀ f, 0 ≤ f → f < μ 11 0 1 → μ 27 0 f = μ 13 0 f ∧ μ 28 0 f = μ 13 0 (f + 1) - μ 13 0 f) ∧ (∀ s, 0 ≤ s → s < μ 13 0 (μ 11 0 1) → μ 29 0 s = μ 14 0 s) ∧ (∀ i, 0 ≤ i → i < 3 * μ 11 0 0 → μ 26 0 i = μ 12 0 i)
theorem JB.pl {μ : Mm} (h : JB μ) : JBp μ := by
  obtain ⟨⟨h1, h2, h3, h4, h5⟩, h6⟩ := h
  refine ⟨h2, h3, fun f f0 f1 => ?_, fun s s0 s1 => ?_, fun i i0 i1 => ?_⟩
  · have w := h4 f f0 f1
    unfold gF gS at w
    rw [show (160 : Int) * 0 + f = f by omega] at w
    exact w
  · have w := h5 s s0 s1
    unfold gR at w
    rw [show (700 : Int) * 0 + s = s by omega] at w
    exact w
  · have w := h6 (i / 3) (i % 3) (by omega) (by omega) (by omega) (by omega)
    unfold gN at w
    rw [show 3 * (200 * 0 + i / 3) + i % 3 = i by omega, show 3 * (i / 3) + i % 3 = i by omega] at w
    exact w
theorem JBp.jb {μ : Mm} (h : JBp μ) (hX : XB μ) : JB μ := by
  obtain ⟨h2, h3, h4, h5, h6⟩ := h
  have b := hX.2
  refine ⟨⟨⟨by omega, hX.1, ?_, ?_, ?_⟩, h2, h3, fun f f0 f1 => ?_, fun s s0 s1 => ?_⟩, fun c a c0 c1 a0 a1 => ?_⟩
  · show μ 11 0 1 ≤ 160
    omega
  · show μ 13 0 (μ 11 0 1) ≤ 700
    omega
  · show μ 11 0 0 ≤ 200
    omega
  · unfold gF gS
    rw [show (160 : Int) * 0 + f = f by omega]
    exact h4 f f0 f1
  · unfold gR
    rw [show (700 : Int) * 0 + s = s by omega]
    exact h5 s s0 s1
  · unfold gN
    rw [show 3 * (200 * 0 + c) + a = 3 * c + a by omega]
    exact h6 (3 * c + a) (by omega) (by omega)
/-- the rows are the same -/
def JR (μ : Mm) : Prop := μ 0 0 2 = μ 21 0 0 ∧ (0 ≤ μ 21 0 2 ∧ μ 21 0 2 ≤ 8) ∧ (μ 1 0 2 = -1 → μ 21 0 1 = -1) ∧ (μ 1 0 2 ≠ -1 → μ 21 0 1 = μ 1 0 1 ∧ μ 21 0 2 = μ 1 0 2 ∧ ∀ j, 0 ≤ j → j < 8 → μ 22 0 j = μ 2 0 j)
theorem JR.fc {μ ν : Mm} (h : JR μ) (c : ν 0 0 2 = ν 21 0 0) (f : ∀ (k : Nat) (i : Int), (k = 1 ∨ k = 2 ∨ k = 21 ∧ (i = 1 ∨ i = 2) ∨ k = 22) → ν k 0 i = μ k 0 i) : JR ν := by
  unfold JR at h ⊢
  rw [f 21 1 (by omega), f 21 2 (by omega), f 1 1 (by omega), f 1 2 (by omega)]
  refine ⟨c, h.2.1, h.2.2.1, fun q => ⟨(h.2.2.2 q).1, (h.2.2.2 q).2.1, fun j j0 j1 => ?_⟩⟩
  rw [f 22 j (by omega), f 2 j (by omega)]
  exact (h.2.2.2 q).2.2 j j0 j1
theorem JR.fr {μ ν : Mm} (h : JR μ) (f : ∀ (k : Nat) (i : Int), (k ≤ 2 ∨ k = 21 ∧ i < 3 ∨ k = 22) → ν k 0 i = μ k 0 i) : JR ν :=
  h.fc (by rw [f 0 2 (by omega), f 21 0 (by omega)]; exact h.1) (fun k i q => f k i (by omega))
theorem XR.fr {μ ν : Mm} (h : XR μ) (f1 : ν 1 0 1 = μ 1 0 1) (f2 : ν 1 0 2 = μ 1 0 2) : XR ν := by
  unfold XR at h ⊢
  rw [f1, f2]
  exact h
theorem MKD.fr {μ ν ν1 : Mm} (h : MKD μ ν) (f : ∀ (k : Nat) (i : Int), (k = 21 ∧ (i = 4 ∨ i = 5 ∨ i = 6) ∨ 23 ≤ k ∧ k ≤ 31) → ν1 k 0 i = ν k 0 i) : MKD μ ν1 := by
  unfold MKD at h ⊢
  rw [f 21 4 (by omega), f 21 5 (by omega), f 21 6 (by omega)]
  refine ⟨h.1, h.2.1, fun q l hl => ?_⟩
  obtain ⟨a, b⟩ := h.2.2 q l hl
  refine ⟨⟨a.1.fr0 (fun k i x y => f k i (by omega)), fun c z c0 c1 a0 a1 => ?_⟩, b.1, ?_, fun e e0 e1 => ?_⟩
  · unfold gN
    rw [f 26 _ (by omega)]
    exact a.2 c z c0 c1 a0 a1
  · rw [f 25 _ (by omega)]; exact b.2.1
  · unfold gA gB
    rw [f 30 _ (by omega), f 31 _ (by omega)]
    exact b.2.2 e e0 e1
theorem JC.fr {μ ν : Mm} (h : JC μ) (s : SB μ ν) (f : ∀ (k : Nat) (i : Int), (k = 21 ∧ (i = 4 ∨ i = 5 ∨ i = 6) ∨ 23 ≤ k ∧ k ≤ 31) → ν k 0 i = μ k 0 i) : JC ν := by
  rcases h with h | h
  · exact Or.inl (by rw [f 21 4 (by omega)]; exact h)
  · exact (h.fr f).jc s
/-- THE TWO AGREE -/
def J (μ : Mm) : Prop := (XI μ ∧ P6 μ) ∧ XR μ ∧ JR μ ∧ JM μ ∧ JB μ ∧ JC μ
theorem J.jsm {μ : Mm} (h : J μ) : JSM μ := ⟨h.1.1.1, h.1.1.2.1, h.1.1.2.2.1, h.2.2.2.1, h.2.2.2.2.1, h.2.2.2.2.2⟩
/-- the rows and the cause alone have changed -/
theorem J.row {μ ν : Mm} (h : J μ) (f : ∀ (k : Nat) (l i : Int), ¬ (k ≤ 2 ∨ k = 21 ∧ i < 3 ∨ k = 22) → ν k l i = μ k l i) (xr : XR ν) (jr : JR ν) : J ν := by
  have s : SB μ ν := fun k l i q => f k l i (by omega)
  exact ⟨XI.out h.1.1 h.1.2 (fun k l i a b => f k l i (by omega)), xr, jr, h.2.2.2.1.fr (fun k i q => f k 0 i (by omega)), h.2.2.2.2.1.fr s h.1.1.1 (fun k i q => f k 0 i (by omega)), h.2.2.2.2.2.fr s (fun k i q => f k 0 i (by omega))⟩
/-- the net or the moves have changed -/
theorem J.mut {μ ν ν1 : Mm} (h : J μ) (f : ∀ (k : Nat) (l i : Int), (k ≤ 2 ∨ 21 ≤ k) → ν k l i = μ k l i) (hX : XI ν ∧ P6 ν) (g : ∀ (k : Nat) (l i : Int), (k ≤ 20 ∨ k = 21 ∧ i < 3 ∨ k = 22) → ν1 k l i = ν k l i) (h4 : ν1 21 0 4 = 1) (jm : JM ν1) (jb : JBp ν1) : J ν1 := by
  have hX1 := XI.out hX.1 hX.2 (ν := ν1) (fun k l i a b => g k l i (by omega))
  exact ⟨hX1, h.2.1.fr ((g 1 0 1 (by omega)).trans (f 1 0 1 (by omega))) ((g 1 0 2 (by omega)).trans (f 1 0 2 (by omega))), h.2.2.1.fr (fun k i q => (g k 0 i (by omega)).trans (f k 0 i (by omega))), jm, jb.jb hX1.1.1, Or.inl h4⟩
/-- the cause alone -/
theorem J.cause {μ : Mm} (h : J μ) (c : Int) : J (mset (mset μ 0 0 2 c) 21 0 0 c) := by
  have e : ∀ (k : Nat) (l i : Int), ¬ (k = 0 ∨ k = 21 ∧ i = 0) → mset (mset μ 0 0 2 c) 21 0 0 c k l i = μ k l i := fun k l i q => by rw [mset_ne (by omega), mset_ne (by omega)]
  refine h.row (fun k l i q => e k l i (by omega)) (h.2.1.fr (e 1 0 1 (by omega)) (e 1 0 2 (by omega))) (h.2.2.1.fc ?_ (fun k i q => e k 0 i (by omega)))
  rw [mset_eq, mset_ne (by omega), mset_eq]
/-- one call of the class, the same of the reference: the same answer, and they agree behind it -/
def Cp (w : Int → Vv) (MX MM : MI) (dM : Nat) (as : List Vv) (μ : Mm) : Prop := ∃ QX, Mc MX 6 (vR 0 0 :: as) μ QX ∧ ∀ r ν, QX r ν → ∃ QM, Mc MM dM (vR 21 0 :: as) ν QM ∧ ∀ r1 ν1, QM r1 ν1 → J ν1 ∧ ∃ v, r = some (w v) ∧ r1 = some (w v)
theorem J.fx {μ ν : Mm} (h : J μ) (f : FX μ ν) (hX : XI ν) : J ν := by
  have e11 : ∀ i, ν 13 0 i = μ 13 0 i := fun i => f 13 0 i (by omega)
  refine ⟨⟨hX, fun g g0 g1 => ?_⟩, h.2.1.fr (f 1 0 1 (by omega)) (f 1 0 2 (by omega)), h.2.2.1.fr (fun k i q => f k 0 i (by omega)), h.2.2.2.1.fr (fun k i q => f k 0 i (by omega)), h.2.2.2.2.1.fr f.sb h.1.1.1 (fun k i q => f k 0 i (by omega)), h.2.2.2.2.2.fr f.sb (fun k i q => f k 0 i (by omega))⟩
  rw [f 11 0 1 (by omega)] at g1
  rw [e11, e11]
  exact h.1.2 g g0 g1
theorem J.fm {μ ν : Mm} (h : J μ) (f : FM μ ν) (hS : JSM ν) : J ν :=
  ⟨XI.out h.1.1 h.1.2 (fun k l i a b => f k l i (by omega)), h.2.1.fr (f 1 0 1 (by omega)) (f 1 0 2 (by omega)), h.2.2.1.fr (fun k i q => f k 0 i (by omega)), hS.2.2.2.1, hS.2.2.2.2.1, hS.2.2.2.2.2⟩
theorem SB.wne {μ ν : Mm} (s : SB μ ν) : Wn ν = Wn μ := by
  funext l c a
  show nm ν l.toNat c a = nm μ l.toNat c a
  rw [s.nme]
/-- a query -/
theorem cp_q {w : Int → Vv} {MX MM : MI} {dM : Nat} {as : List Vv} {μ : Mm} {f : Mm → Int → Int} (hx : ∀ μ, XI μ → Mc MX 6 (vR 0 0 :: as) μ (QQ μ (fun k => w (f μ k)))) (hm : ∀ μ, JSM μ → Mc MM dM (vR 21 0 :: as) μ (MA μ (fun k => w (f μ k)))) (hf : ∀ μ ν, SB μ ν → f ν = f μ) (h : J μ) : Cp w MX MM dM as μ := by
  refine ⟨_, hx μ h.1.1, fun r ν hQ => ?_⟩
  obtain ⟨fx, hX, hr⟩ := hQ
  have hJ := h.fx fx hX
  refine ⟨_, hm ν hJ.jsm, fun r1 ν1 hQ1 => ?_⟩
  obtain ⟨fm, hS, hr1⟩ := hQ1
  obtain ⟨k, p, hk⟩ := IsF_ex (Nt μ 0)
  exact ⟨hJ.fm fm hS, f μ k, hr k p hk, by rw [hr1 k p (fx.sb.isf hk), hf μ ν fx.sb]⟩
theorem cp_fault {μ : Mm} (h : J μ) (w : Int) (hw : inR w) : Cp vI mX5_fault mX6_fault 6 [vI w] μ := by
  refine ⟨_, x_fault w hw h.1.1, fun r ν hQ => ?_⟩
  obtain ⟨fx, hX, hr⟩ := hQ
  have hJ := h.fx fx hX
  refine ⟨_, m_fault w hw hJ.jsm, fun r1 ν1 hQ1 => ?_⟩
  obtain ⟨fm, hS, hr1⟩ := hQ1
  obtain ⟨k, p, hk⟩ := IsF_ex (Nt μ 0)
  exact ⟨hJ.fm fm hS, faultA w k p, hr k p hk, hr1 k p (fx.sb.isf hk)⟩

theorem cp_many {μ : Mm} (h : J μ) (l w : Int) (hl : inR l) (hw : inR w) : Cp vI mX5_many mX6_many 7 [vI l, vI w] μ :=
  cp_q (f := fun μ => manyA μ l w) (fun μ q => x_many l w hl hw q) (fun μ q => m_many l w hl hw q) (fun μ ν s => by funext k; simp only [manyA, Lv, s.leve] <;> rw [s.wne]) h
theorem cp_at {μ : Mm} (h : J μ) (l c a : Int) (hl : inR l) (hc : inR c) (ha : inR a) : Cp vI mX5_at mX6_at 7 [vI l, vI c, vI a] μ :=
  cp_q (f := fun μ => atA μ l c a) (fun μ q => x_at l c a hl hc ha q) (fun μ q => m_at l c a hl hc ha q) (fun μ ν s => by funext k; simp only [atA, Lv, s.leve] <;> rw [s.wne]) h
theorem cp_edge {μ : Mm} (h : J μ) (l e s : Int) (hl : inR l) (he : inR e) (hs : inR s) : Cp vI mX5_edge mX6_edge 7 [vI l, vI e, vI s] μ :=
  cp_q (f := fun μ => edgeA μ l e s) (fun μ q => x_edge l e s hl he hs q) (fun μ q => m_edge l e s hl he hs q) (fun μ ν s => by funext k; simp only [edgeA, Lv, s.leve] <;> rw [s.wne]) h
theorem cp_size {μ : Mm} (h : J μ) (l f : Int) (hl : inR l) (hf : inR f) : Cp vI mX5_size mX6_size 8 [vI l, vI f] μ :=
  cp_q (f := fun μ => sizeA μ l f) (fun μ q => x_size l f hl hf q) (fun μ q => m_size l f hl hf q) (fun μ ν s => by funext k; simp only [sizeA, Lv, s.leve] <;> rw [s.wne]) h
theorem cp_ring {μ : Mm} (h : J μ) (l f j : Int) (hl : inR l) (hf : inR f) (hj : inR j) : Cp vI mX5_ring mX6_ring 8 [vI l, vI f, vI j] μ :=
  cp_q (f := fun μ => ringA μ l f j) (fun μ q => x_ring l f j hl hf hj q) (fun μ q => m_ring l f j hl hf hj q) (fun μ ν s => by funext k; simp only [ringA, Lv, s.leve] <;> rw [s.wne]) h
theorem cp_middle {μ : Mm} (h : J μ) (l f a : Int) (hl : inR l) (hf : inR f) (ha : inR a) : Cp vI mX5_middle mX6_middle 7 [vI l, vI f, vI a] μ :=
  cp_q (f := fun μ => middleA μ l f a) (fun μ q => x_middle l f a hl hf ha q) (fun μ q => m_middle l f a hl hf ha q) (fun μ ν s => by funext k; simp only [middleA, Lv, s.leve] <;> rw [s.wne]) h
theorem cp_box {μ : Mm} (h : J μ) (l a s : Int) (hl : inR l) (ha : inR a) (hs : inR s) : Cp vI mX5_box mX6_box 7 [vI l, vI a, vI s] μ :=
  cp_q (f := fun μ => boxA μ l a s) (fun μ q => x_box l a s hl ha hs q) (fun μ q => m_box l a s hl ha hs q) (fun μ ν s => by funext k; simp only [boxA, Lv, s.leve] <;> rw [s.wne]) h
theorem cp_room {μ : Mm} (h : J μ) (l : Int) (hl : inR l) : Cp vL mX5_room mX6_room 7 [vI l] μ :=
  cp_q (f := fun μ => roomA μ l) (fun μ q => x_room l hl q) (fun μ q => m_room l hl q) (fun μ ν s => by funext k; simp only [roomA, Lv, s.leve] <;> rw [s.wne]) h
theorem cp_cut {μ : Mm} (h : J μ) (l a v : Int) (hl : inR l) (ha : inR a) (hv : inR v) : Cp vI mX5_cut mX6_cut 7 [vI l, vI a, vI v] μ :=
  cp_q (f := fun μ => cutA μ l a v) (fun μ q => x_cut l a v hl ha hv q) (fun μ q => m_cut l a v hl ha hv q) (fun μ ν s => by funext k; simp only [cutA, Lv, s.leve] <;> rw [s.wne]) h
theorem cp_near {μ : Mm} (h : J μ) (l x y z : Int) (hl : inR l) (hx : inR x) (hy : inR y) (hz : inR z) : Cp vI mX5_near mX6_near 7 [vI l, vI x, vI y, vI z] μ :=
  cp_q (f := fun μ => nearA μ l x y z) (fun μ q => x_near l x y z hl hx hy hz q) (fun μ q => m_near l x y z hl hx hy hz q) (fun μ ν s => by funext k; simp only [nearA, Lv, s.leve] <;> rw [s.wne]) h
theorem cp_digest {μ : Mm} (h : J μ) : Cp vL mX5_digest mX6_digest 6 [] μ :=
  cp_q (f := fun μ => digestA μ) (fun μ q => x_digest q) (fun μ q => m_digest q) (fun μ ν s => by
    funext k
    have e9 : ν 9 0 = μ 9 0 := funext (fun i => s 9 0 i (by omega))
    have e10 : ν 10 0 = μ 10 0 := funext (fun i => s 10 0 i (by omega))
    have e12 : ν 12 0 = μ 12 0 := funext (fun i => s 12 0 i (by omega))
    have e13 : ν 13 0 = μ 13 0 := funext (fun i => s 13 0 i (by omega))
    have e14 : ν 14 0 = μ 14 0 := funext (fun i => s 14 0 i (by omega))
    simp only [digestA, Lv, s.leve, e9, e10, e12, e13, e14, s 7 0 3 (by omega), s 11 0 0 (by omega), s 11 0 1 (by omega)]
    rw [s.wne]) h
theorem cp_moved {μ : Mm} (h : J μ) (l c a : Int) (hl : inR l) (hc : inR c) (ha : inR a) : Cp vI mX5_moved mX6_moved 6 [vI l, vI c, vI a] μ := by
  refine ⟨_, x_moved l c a hl hc ha h.1.1.2.2.1, fun r ν hQ => ?_⟩
  obtain ⟨rfl, rfl⟩ := hQ
  refine ⟨_, m_moved l c a hl hc ha h.1.1.2.2.1 h.2.2.2.1, fun r1 ν1 hQ1 => ?_⟩
  obtain ⟨rfl, rfl⟩ := hQ1
  exact ⟨h, _, rfl, rfl⟩
theorem cp_cause {μ : Mm} (h : J μ) : Cp vI mX5_cause mX6_cause 6 [] μ := by
  refine ⟨_, x_cause, fun r ν hQ => ?_⟩
  obtain ⟨rfl, rfl⟩ := hQ
  refine ⟨_, m_cause, fun r1 ν1 hQ1 => ?_⟩
  obtain ⟨rfl, rfl⟩ := hQ1
  exact ⟨h, _, rfl, by rw [h.2.2.1.1]⟩
theorem cp_count {μ : Mm} (h : J μ) (w : Int) (hw : inR w) : Cp vI mX5_count mX6_count 6 [vI w] μ := by
  refine ⟨_, x_count w hw, fun r ν hQ => ?_⟩
  obtain ⟨rfl, rfl⟩ := hQ
  refine ⟨_, m_count w hw, fun r1 ν1 hQ1 => ?_⟩
  obtain ⟨rfl, rfl⟩ := hQ1
  refine ⟨h, _, rfl, ?_⟩
  have p := h.2.2.2.2.1.pl
  have j := h.2.2.1
  unfold countM countA
  rw [p.1, p.2.1, h.2.2.2.1.1]
  by_cases q : ν1 1 0 2 = -1
  · have n1 := j.2.2.1 q
    rw [if_pos n1, q]
  · have z := j.2.2.2 q
    have x := h.2.1
    have n1 : ¬ ν1 21 0 1 = -1 := by
      have := x.2
      omega
    rw [if_neg n1, z.2.1]
