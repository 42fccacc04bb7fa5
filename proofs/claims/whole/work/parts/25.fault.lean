/-! WHAT IS WRONG WITH A NET -/
def sst (A : Net) (s t : Int) : Prop := A 3 s = A 3 t ∧ A 3 (nx A s) = A 3 (nx A t)
def bks (A : Net) (s t : Int) : Prop := A 3 t = A 3 (nx A s) ∧ A 3 (nx A t) = A 3 s
def fTw (A : Net) (f : Int) : Prop := ∃ s t, A 2 f ≤ t ∧ t < s ∧ s < A 2 (f + 1) ∧ A 3 s = A 3 t
def fDb (A : Net) (f : Int) : Prop := ∃ s t, 0 ≤ t ∧ t < s ∧ s < nN A ∧ A 4 s = f ∧ sst A s t
def fOp (A : Net) (f : Int) : Prop := ∃ s, 0 ≤ s ∧ s < nN A ∧ A 4 s = f ∧ ∀ t, 0 ≤ t → t < nN A → ¬ bks A s t
def fLo (A : Net) (c : Int) : Prop := deg A c = 0
/-- the step back, where there is one -/
noncomputable def bkr (A : Net) (s : Int) : Int := Classical.epsilon (fun t => (0 ≤ t ∧ t < nN A) ∧ bks A s t)
/-- the net of a base -/
noncomputable def bN (A : Net) : Net := fin (A 0 0) (A 0 1) (A 2) (A 3) (A 4) (bkr A)
def fPi (A : Net) (c : Int) : Prop := ¬ ∃ x, (0 ≤ x ∧ x < nN A) ∧ A 3 x = c ∧ ∀ k, 0 < k → k < deg A c → it (rho (bN A)) k x ≠ x
def fTh (A : Net) (c : Int) : Prop := deg A c = 2
/-- the first place with a property -/
def Fi (p : Int → Prop) (n r : Int) : Prop := (0 ≤ r ∧ r < n) ∧ p r ∧ ∀ i, 0 ≤ i → i < r → ¬ p i
def No (p : Int → Prop) (n : Int) : Prop := ∀ i, 0 ≤ i → i < n → ¬ p i
theorem Fi.no {p : Int → Prop} {n r : Int} (h : Fi p n r) (g : No p n) : False := g r h.1.1 h.1.2 h.2.1
theorem Fi.uq {p : Int → Prop} {n r q : Int} (h : Fi p n r) (g : Fi p n q) : r = q := by
  rcases Int.lt_trichotomy r q with z | z | z
  · exact absurd h.2.1 (g.2.2 r h.1.1 z)
  · exact z
  · exact absurd g.2.1 (h.2.2 q g.1.1 z)
def IsF (A : Net) (k p : Int) : Prop :=
  (A 0 1 = 0 ∧ k = 1 ∧ p = -1) ∨ (A 0 1 ≠ 0 ∧ ((k = 2 ∧ Fi (fTw A) (A 0 1) p) ∨ (No (fTw A) (A 0 1) ∧ ((k = 3 ∧ Fi (fDb A) (A 0 1) p) ∨ (No (fDb A) (A 0 1) ∧ ((k = 4 ∧ Fi (fOp A) (A 0 1) p) ∨ (No (fOp A) (A 0 1) ∧ ((k = 5 ∧ Fi (fLo A) (A 0 0) p) ∨ (No (fLo A) (A 0 0) ∧ ((k = 6 ∧ Fi (fPi A) (A 0 0) p) ∨ (No (fPi A) (A 0 0) ∧ ((k = 7 ∧ Fi (fTh A) (A 0 0) p) ∨ (No (fTh A) (A 0 0) ∧ k = 0 ∧ p = -1)))))))))))))
theorem IsF.uq {A : Net} {k p k' p' : Int} (h : IsF A k p) (g : IsF A k' p') : k = k' ∧ p = p' := by
  rcases h with ⟨a, b, c⟩ | ⟨a, h⟩ <;> rcases g with ⟨a', b', c'⟩ | ⟨a', g⟩
  · omega
  · exact absurd a a'
  · exact absurd a' a
  rcases h with ⟨b, c⟩ | ⟨a, h⟩ <;> rcases g with ⟨b', c'⟩ | ⟨a', g⟩
  · exact ⟨b.trans b'.symm, c.uq c'⟩
  · exact (c.no a').elim
  · exact (c'.no a).elim
  rcases h with ⟨b, c⟩ | ⟨a, h⟩ <;> rcases g with ⟨b', c'⟩ | ⟨a', g⟩
  · exact ⟨b.trans b'.symm, c.uq c'⟩
  · exact (c.no a').elim
  · exact (c'.no a).elim
  rcases h with ⟨b, c⟩ | ⟨a, h⟩ <;> rcases g with ⟨b', c'⟩ | ⟨a', g⟩
  · exact ⟨b.trans b'.symm, c.uq c'⟩
  · exact (c.no a').elim
  · exact (c'.no a).elim
  rcases h with ⟨b, c⟩ | ⟨a, h⟩ <;> rcases g with ⟨b', c'⟩ | ⟨a', g⟩
  · exact ⟨b.trans b'.symm, c.uq c'⟩
  · exact (c.no a').elim
  · exact (c'.no a).elim
  rcases h with ⟨b, c⟩ | ⟨a, h⟩ <;> rcases g with ⟨b', c'⟩ | ⟨a', g⟩
  · exact ⟨b.trans b'.symm, c.uq c'⟩
  · exact (c.no a').elim
  · exact (c'.no a).elim
  rcases h with ⟨b, c⟩ | ⟨a, h⟩ <;> rcases g with ⟨b', c'⟩ | ⟨a', g⟩
  · exact ⟨b.trans b'.symm, c.uq c'⟩
  · exact (c.no a').elim
  · exact (c'.no a).elim
  · exact ⟨h.1.trans g.1.symm, h.2.trans g.2.symm⟩
/-- a base: plates in order, rings of corners -/
def Bas (A : Net) : Prop := 0 ≤ A 0 0 ∧ GP A ∧ ∀ s, 0 ≤ s → s < nN A → 0 ≤ A 3 s ∧ A 3 s < A 0 0
section BASE
variable {A : Net}
theorem bN_n : nN (bN A) = nN A := rfl
theorem bN_nx (s : Int) : nx (bN A) s = nx A s := rfl
theorem bN_pv (s : Int) : pv (bN A) s = pv A s := rfl
theorem bN_deg (c : Int) : deg (bN A) c = deg A c := rfl
theorem no_tw (h : Bas A) (n2 : No (fTw A) (A 0 1)) {s t : Int} (h0 : 0 ≤ s) (h1 : s < nN A) (g0 : 0 ≤ t) (g1 : t < nN A) (e : A 4 s = A 4 t) (e3 : A 3 s = A 3 t) : s = t := by
  have a := h.2.1.2.2.2 s h0 h1
  have b := h.2.1.2.2.2 t g0 g1
  rw [← e] at b
  rcases Int.lt_trichotomy s t with q | q | q
  · exact absurd ⟨t, s, a.2.1, q, b.2.2, e3.symm⟩ (n2 (A 4 s) a.1.1 a.1.2)
  · exact q
  · exact absurd ⟨s, t, b.2.1, q, a.2.2, e3⟩ (n2 (A 4 s) a.1.1 a.1.2)
theorem no_db (h : Bas A) (n3 : No (fDb A) (A 0 1)) {s t : Int} (h0 : 0 ≤ s) (h1 : s < nN A) (g0 : 0 ≤ t) (g1 : t < nN A) (e : sst A s t) : s = t := by
  have a := h.2.1.2.2.2 s h0 h1
  have b := h.2.1.2.2.2 t g0 g1
  rcases Int.lt_trichotomy s t with q | q | q
  · exact absurd ⟨t, s, h0, q, g1, rfl, e.1.symm, e.2.symm⟩ (n3 (A 4 t) b.1.1 b.1.2)
  · exact q
  · exact absurd ⟨s, t, g0, q, h1, rfl, e⟩ (n3 (A 4 s) a.1.1 a.1.2)
theorem bkr_s (h : Bas A) (n4 : No (fOp A) (A 0 1)) {s : Int} (h0 : 0 ≤ s) (h1 : s < nN A) : (0 ≤ bkr A s ∧ bkr A s < nN A) ∧ bks A s (bkr A s) := by
  have a := h.2.1.2.2.2 s h0 h1
  apply Classical.epsilon_spec (p := fun t => (0 ≤ t ∧ t < nN A) ∧ bks A s t)
  apply Classical.byContradiction
  intro q
  exact n4 (A 4 s) a.1.1 a.1.2 ⟨s, h0, h1, rfl, fun t t0 t1 z => q ⟨t, ⟨t0, t1⟩, z⟩⟩
theorem bkr_u (h : Bas A) (n3 : No (fDb A) (A 0 1)) (n4 : No (fOp A) (A 0 1)) {s t : Int} (h0 : 0 ≤ s) (h1 : s < nN A) (g0 : 0 ≤ t) (g1 : t < nN A) (e : bks A s t) : bkr A s = t := by
  have a := bkr_s h n4 h0 h1
  exact no_db h n3 a.1.1 a.1.2 g0 g1 ⟨a.2.1.trans e.1.symm, a.2.2.trans e.2.symm⟩
theorem bN_GB (h : Bas A) (n2 : No (fTw A) (A 0 1)) (n3 : No (fDb A) (A 0 1)) (n4 : No (fOp A) (A 0 1)) : GB (bN A) := by
  refine ⟨fun s h0 h1 => ?_, fun s t h0 h1 g0 g1 e1 e2 => no_db h n3 h0 h1 g0 g1 ⟨e1, e2⟩, fun s h0 h1 e => ?_⟩
  · have a := bkr_s h n4 h0 h1
    exact ⟨h.2.2 s h0 h1, a.1, bkr_u h n3 n4 a.1.1 a.1.2 h0 h1 ⟨a.2.2.symm, a.2.1.symm⟩, a.2.1⟩
  · have a := h.2.1.nxr h0 h1
    exact a.2.2.1 (no_tw h n2 a.1.1 a.1.2 h0 h1 a.2.1 e)
theorem bN_good (h : Bas A) (n2 : No (fTw A) (A 0 1)) (n3 : No (fDb A) (A 0 1)) (n4 : No (fOp A) (A 0 1)) (n5 : No (fLo A) (A 0 0)) (n6 : No (fPi A) (A 0 0)) (n7 : No (fTh A) (A 0 0)) : Good (bN A) := by
  have gb := bN_GB h n2 n3 n4
  refine fin_good ⟨h.1, h.2.1, gb, fun c h0 h1 => ?_⟩
  have a := n5 c h0 h1
  have b := n7 c h0 h1
  have d := n6 c h0 h1
  have hx := Classical.not_not.mp d
  refine ⟨?_, hx⟩
  apply Classical.byContradiction
  intro q
  have d1 : deg A c = 1 := by
    have q : ¬ 3 ≤ deg A c := q
    have a : ¬ deg A c = 0 := a
    have b : ¬ deg A c = 2 := b
    omega
  obtain ⟨s, hs, hc, -⟩ := hx
  have p := h.2.1.pvr hs.1 hs.2
  have n := h.2.1.nxr hs.1 hs.2
  have bp := bkr_s h n4 p.1.1 p.1.2
  have b1 := bp.2.1
  rw [h.2.1.nxpv hs.1 hs.2, hc] at b1
  have e : bkr A (pv A s) = s := by
    apply Classical.byContradiction
    intro z
    have := ct_inj (p := fun s => A 3 s = c) (nN A).toNat 2 (fun i => if i = 0 then s else bkr A (pv A s)) (fun i hi => by
      show (0 ≤ (if i = 0 then s else bkr A (pv A s)) ∧ (if i = 0 then s else bkr A (pv A s)) < _) ∧ A 3 (if i = 0 then s else bkr A (pv A s)) = c
      split
      · exact ⟨by omega, hc⟩
      · exact ⟨by omega, b1⟩) (fun i j hi hj r => by
      have r : (if i = 0 then s else bkr A (pv A s)) = (if j = 0 then s else bkr A (pv A s)) := r
      by_cases i0 : i = 0
      · by_cases j0 : j = 0
        · omega
        · rw [if_pos i0, if_neg j0] at r; exact absurd r.symm z
      · by_cases j0 : j = 0
        · rw [if_neg i0, if_pos j0] at r; exact absurd r z
        · omega)
    have d1 : ct (fun s => A 3 s = c) (nN A).toNat = 1 := d1
    omega
  have t := bp.2.2
  rw [e] at t
  have e4 := no_tw h n2 n.1.1 n.1.2 p.1.1 p.1.2 (n.2.1.trans p.2.1.symm) t
  have x := h.2.1.nx2 p.1.1 p.1.2
  rw [h.2.1.nxpv hs.1 hs.2] at x
  exact x e4
/-- no fault: a good net -/
theorem IsF.good (h : Bas A) {p : Int} (f : IsF A 0 p) : Good (bN A) ∧ A 0 1 ≠ 0 := by
  rcases f with ⟨a, b, c⟩ | ⟨a, f⟩
  · omega
  rcases f with ⟨b, c⟩ | ⟨n2, f⟩
  · omega
  rcases f with ⟨b, c⟩ | ⟨n3, f⟩
  · omega
  rcases f with ⟨b, c⟩ | ⟨n4, f⟩
  · omega
  rcases f with ⟨b, c⟩ | ⟨n5, f⟩
  · omega
  rcases f with ⟨b, c⟩ | ⟨n6, f⟩
  · omega
  rcases f with ⟨b, c⟩ | ⟨n7, f⟩
  · omega
  exact ⟨bN_good h n2 n3 n4 n5 n6 n7, a⟩
end BASE
/-- the levels of a base -/
noncomputable def lev (A : Net) : Nat → Net
  | 0 => bN A
  | l + 1 => rfA (lev A l)
theorem lev_good {A : Net} (h : Good (bN A)) : ∀ l, Good (lev A l)
  | 0 => h
  | l + 1 => rf_good (lev_good h l)
