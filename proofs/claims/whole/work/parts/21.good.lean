/-- steps and their steps back: no two alike, none that stays -/
def GB (A : Net) : Prop := (∀ s, 0 ≤ s → s < nN A → (0 ≤ A 3 s ∧ A 3 s < A 0 0) ∧ (0 ≤ A 5 s ∧ A 5 s < nN A) ∧ A 5 (A 5 s) = s ∧ A 3 (A 5 s) = A 3 (nx A s)) ∧ (∀ s t, 0 ≤ s → s < nN A → 0 ≤ t → t < nN A → A 3 s = A 3 t → A 3 (nx A s) = A 3 (nx A t) → s = t) ∧ (∀ s, 0 ≤ s → s < nN A → A 3 (nx A s) ≠ A 3 s)
/-- round a corner: from a step to the next one from the same corner -/
def rho (A : Net) (s : Int) : Int := A 5 (pv A s)
/-- how many steps go from a corner -/
noncomputable def deg (A : Net) (c : Int) : Nat := ct (fun s => A 3 s = c) (nN A).toNat
/-- every corner has at least three steps, and they make one ring -/
def GR (A : Net) : Prop := ∀ c, 0 ≤ c → c < A 0 0 → 3 ≤ deg A c ∧ ∃ x, (0 ≤ x ∧ x < nN A) ∧ A 3 x = c ∧ ∀ k, 0 < k → k < deg A c → it (rho A) k x ≠ x
def GC (A : Net) : Prop := 0 ≤ A 0 0 ∧ GP A ∧ GB A ∧ GR A
/-- edges as they are met first -/
def fm (bk : Int → Int) : Int → Prop := fun t => ¬ bk t < t
noncomputable def cE (bk : Int → Int) (s : Int) : Int := (ct (fm bk) s.toNat : Int)
def DE (A : Net) : Prop := A 0 2 = cE (A 5) (nN A) ∧ (∀ s, 0 ≤ s → s < nN A → A 6 s = if A 5 s < s then cE (A 5) (A 5 s) else cE (A 5) s) ∧ (∀ s, 0 ≤ s → s < nN A → fm (A 5) s → A 7 (cE (A 5) s) = s)
def DD (A : Net) : Prop := ∀ c, 0 ≤ c → c < A 0 0 → A 8 c = (deg A c : Int) ∧ (0 ≤ A 9 c ∧ A 9 c < nN A) ∧ A 3 (A 9 c) = c ∧ ∀ s, 0 ≤ s → s < nN A → A 3 s = c → A 6 (A 9 c) ≤ A 6 s
def Good (A : Net) : Prop := GC A ∧ DE A ∧ DD A
theorem cE_lt {bk : Int → Int} {s t : Int} (h0 : 0 ≤ s) (h : s < t) (hs : fm bk s) : cE bk s < cE bk t := by
  unfold cE
  have := ct_lt (p := fm bk) (n := s.toNat) (k := t.toNat) (by omega) (by rw [Int.toNat_of_nonneg h0]; exact hs)
  omega
theorem cE_inj {bk : Int → Int} {s t : Int} (h0 : 0 ≤ s) (h1 : 0 ≤ t) (hs : fm bk s) (ht : fm bk t) (h : cE bk s = cE bk t) : s = t := by
  rcases Int.lt_trichotomy s t with q | q | q
  · have := cE_lt h0 q hs; omega
  · exact q
  · have := cE_lt h1 q ht; omega
theorem cE_0 (bk : Int → Int) (s : Int) : 0 ≤ cE bk s := by unfold cE; omega
section GOOD
variable {A : Net}
theorem GC.b1 (h : GC A) {s : Int} (h0 : 0 ≤ s) (h1 : s < nN A) : (0 ≤ A 3 s ∧ A 3 s < A 0 0) ∧ (0 ≤ A 5 s ∧ A 5 s < nN A) ∧ A 5 (A 5 s) = s ∧ A 3 (A 5 s) = A 3 (nx A s) := h.2.2.1.1 s h0 h1
theorem GC.u (h : GC A) {s t : Int} (h0 : 0 ≤ s) (h1 : s < nN A) (h2 : 0 ≤ t) (h3 : t < nN A) (h4 : A 3 s = A 3 t) (h5 : A 3 (nx A s) = A 3 (nx A t)) : s = t := h.2.2.1.2.1 s t h0 h1 h2 h3 h4 h5
theorem GC.nl (h : GC A) {s : Int} (h0 : 0 ≤ s) (h1 : s < nN A) : A 3 (nx A s) ≠ A 3 s := h.2.2.1.2.2 s h0 h1
theorem GC.bne (h : GC A) {s : Int} (h0 : 0 ≤ s) (h1 : s < nN A) : A 5 s ≠ s := fun q => by
  have a := h.b1 h0 h1
  rw [q] at a
  exact h.nl h0 h1 a.2.2.2.symm
theorem GC.tgt (h : GC A) {s : Int} (h0 : 0 ≤ s) (h1 : s < nN A) : A 3 (nx A (A 5 s)) = A 3 s := by
  have a := h.b1 h0 h1
  have b := h.b1 a.2.1.1 a.2.1.2
  rw [a.2.2.1] at b
  exact b.2.2.2.symm
theorem GC.pvi (h : GC A) {s t : Int} (h0 : 0 ≤ s) (h1 : s < nN A) (h2 : 0 ≤ t) (h3 : t < nN A) (q : pv A s = pv A t) : s = t := by
  have a := h.2.1.nxpv h0 h1
  have b := h.2.1.nxpv h2 h3
  rw [q] at a
  exact a.symm.trans b
theorem GC.rh (h : GC A) {s : Int} (h0 : 0 ≤ s) (h1 : s < nN A) : (0 ≤ rho A s ∧ rho A s < nN A) ∧ A 3 (rho A s) = A 3 s := by
  have a := h.2.1.pvr h0 h1
  have b := h.b1 a.1.1 a.1.2
  refine ⟨b.2.1, ?_⟩
  have c := b.2.2.2
  rw [h.2.1.nxpv h0 h1] at c
  exact c
theorem GC.rhi (h : GC A) {s t : Int} (h0 : 0 ≤ s) (h1 : s < nN A) (h2 : 0 ≤ t) (h3 : t < nN A) (q : rho A s = rho A t) : s = t := by
  have a := h.2.1.pvr h0 h1
  have b := h.2.1.pvr h2 h3
  have c := (h.b1 a.1.1 a.1.2).2.2.1
  have d := (h.b1 b.1.1 b.1.2).2.2.1
  unfold rho at q
  rw [q] at c
  exact h.pvi h0 h1 h2 h3 (c.symm.trans d)
theorem GC.itr (h : GC A) {s : Int} (h0 : 0 ≤ s) (h1 : s < nN A) (k : Nat) : (0 ≤ it (rho A) k s ∧ it (rho A) k s < nN A) ∧ A 3 (it (rho A) k s) = A 3 s := by
  induction k with
  | zero => exact ⟨⟨h0, h1⟩, rfl⟩
  | succ k ih =>
    have a := h.rh ih.1.1 ih.1.2
    exact ⟨a.1, a.2.trans ih.2⟩
end GOOD
