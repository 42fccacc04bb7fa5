section RING
variable {A : Net}
/-- a step whose ring doesn't close early: its ring has all steps of its corner, and closes then -/
theorem GC.apart (h : GC A) {x : Int} (h0 : 0 ≤ x) (h1 : x < nN A) {m : Nat} (hn : ∀ k, 0 < k → k < m → it (rho A) k x ≠ x) : ∀ i j, i < m → j < m → it (rho A) i x = it (rho A) j x → i = j :=
  it_apart (D := fun s => 0 ≤ s ∧ s < nN A) (fun s hs => (h.rh hs.1 hs.2).1) (fun s t hs ht q => h.rhi hs.1 hs.2 ht.1 ht.2 q) ⟨h0, h1⟩ hn
theorem GC.cov (h : GC A) {x c : Int} (h0 : 0 ≤ x) (h1 : x < nN A) (hc : A 3 x = c) (hn : ∀ k, 0 < k → k < deg A c → it (rho A) k x ≠ x) {s : Int} (g0 : 0 ≤ s) (g1 : s < nN A) (gc : A 3 s = c) : ∃ k, k < deg A c ∧ it (rho A) k x = s := by
  refine ct_all (p := fun s => A 3 s = c) (n := (nN A).toNat) (u := fun k => it (rho A) k x) (fun i _ => ?_) (h.apart h0 h1 hn) (Nat.le_refl _) g0 (by omega) gc
  have := h.itr h0 h1 i
  exact ⟨by omega, this.2.trans hc⟩
theorem GC.ret (h : GC A) {x c : Int} (h0 : 0 ≤ x) (h1 : x < nN A) (hc : A 3 x = c) (hd : 0 < deg A c) (hn : ∀ k, 0 < k → k < deg A c → it (rho A) k x ≠ x) : it (rho A) (deg A c) x = x := by
  have a := h.itr h0 h1 (deg A c)
  obtain ⟨k, hk, e⟩ := h.cov h0 h1 hc hn a.1.1 a.1.2 (a.2.trans hc)
  by_cases k0 : k = 0
  · subst k0; exact e.symm
  · exfalso
    obtain ⟨k', rfl⟩ : ∃ k', k = k' + 1 := ⟨k - 1, by omega⟩
    obtain ⟨d', hd'⟩ : ∃ d', deg A c = d' + 1 := ⟨deg A c - 1, by omega⟩
    rw [hd'] at e
    have b := h.itr h0 h1 k'
    have b2 := h.itr h0 h1 d'
    have e2 : it (rho A) k' x = it (rho A) d' x := h.rhi b.1.1 b.1.2 b2.1.1 b2.1.2 e
    have := h.apart h0 h1 hn k' d' (by omega) (by omega) e2
    omega
/-- then no step of the corner closes early -/
theorem GC.nr (h : GC A) {x c : Int} (h0 : 0 ≤ x) (h1 : x < nN A) (hc : A 3 x = c) (hn : ∀ k, 0 < k → k < deg A c → it (rho A) k x ≠ x) {s : Int} (g0 : 0 ≤ s) (g1 : s < nN A) (gc : A 3 s = c) : ∀ k, 0 < k → k < deg A c → it (rho A) k s ≠ s := by
  intro k k0 k1 e
  obtain ⟨j, hj, rfl⟩ := h.cov h0 h1 hc hn g0 g1 gc
  rw [← it_add] at e
  have key : ∀ j, it (rho A) (k + j) x = it (rho A) j x → it (rho A) k x = x := by
    intro j
    induction j with
    | zero => intro e; exact e
    | succ j ih =>
      intro e
      have b := h.itr h0 h1 (k + j)
      have b2 := h.itr h0 h1 j
      exact ih (h.rhi b.1.1 b.1.2 b2.1.1 b2.1.2 e)
  exact hn k k0 k1 (key j e)
theorem GC.all (h : GC A) {s : Int} (g0 : 0 ≤ s) (g1 : s < nN A) : 3 ≤ deg A (A 3 s) ∧ ∀ k, 0 < k → k < deg A (A 3 s) → it (rho A) k s ≠ s := by
  have a := h.b1 g0 g1
  obtain ⟨b, x, hx, hc, hn⟩ := h.2.2.2 (A 3 s) a.1.1 a.1.2
  exact ⟨b, h.nr hx.1 hx.2 hc hn g0 g1 rfl⟩
/-- the least of a step and its step back -/
def lo (A : Net) (s : Int) : Int := if A 5 s < s then A 5 s else s
theorem GC.lor (h : GC A) {s : Int} (h0 : 0 ≤ s) (h1 : s < nN A) : (0 ≤ lo A s ∧ lo A s < nN A) ∧ fm (A 5) (lo A s) ∧ (s = lo A s ∨ s = A 5 (lo A s)) ∧ lo A (A 5 s) = lo A s := by
  have a := h.b1 h0 h1
  have b := h.bne h0 h1
  unfold lo fm
  by_cases q : A 5 s < s
  · rw [if_pos q, a.2.2.1]
    refine ⟨a.2.1, by omega, Or.inr rfl, ?_⟩
    rw [if_neg (by omega)]
  · rw [if_neg q, a.2.2.1]
    refine ⟨⟨h0, h1⟩, q, Or.inl rfl, ?_⟩
    rw [if_pos (by omega)]
end RING
section EDGES
variable {A : Net}
theorem Good.eo (h : Good A) {s : Int} (h0 : 0 ≤ s) (h1 : s < nN A) : A 6 s = cE (A 5) (lo A s) := by
  rw [h.2.1.2.1 s h0 h1]
  unfold lo
  split <;> rfl
theorem Good.eob (h : Good A) {s : Int} (h0 : 0 ≤ s) (h1 : s < nN A) : A 6 (A 5 s) = A 6 s := by
  have a := h.1.b1 h0 h1
  rw [h.eo h0 h1, h.eo a.2.1.1 a.2.1.2, (h.1.lor h0 h1).2.2.2]
theorem Good.eor (h : Good A) {s : Int} (h0 : 0 ≤ s) (h1 : s < nN A) : 0 ≤ A 6 s ∧ A 6 s < A 0 2 := by
  have a := h.1.lor h0 h1
  rw [h.eo h0 h1, h.2.1.1]
  exact ⟨cE_0 _ _, cE_lt a.1.1 a.1.2 a.2.1⟩
theorem Good.eoe (h : Good A) {s t : Int} (h0 : 0 ≤ s) (h1 : s < nN A) (h2 : 0 ≤ t) (h3 : t < nN A) (e : A 6 s = A 6 t) : t = s ∨ t = A 5 s := by
  have a := h.1.lor h0 h1
  have b := h.1.lor h2 h3
  rw [h.eo h0 h1, h.eo h2 h3] at e
  have c := cE_inj a.1.1 b.1.1 a.2.1 b.2.1 e
  rw [← c] at b
  have d := h.1.b1 h0 h1
  rcases a.2.2.1 with p | p <;> rcases b.2.2.1 with q | q
  · left; rw [q, ← p]
  · right; rw [q, ← p]
  · right
    rw [q]
    have f := (h.1.b1 a.1.1 a.1.2).2.2.1
    rw [← p] at f
    exact f.symm
  · left; rw [q, ← p]
theorem Good.mt (h : Good A) {e : Int} (h0 : 0 ≤ e) (h1 : e < A 0 2) : (0 ≤ A 7 e ∧ A 7 e < nN A) ∧ fm (A 5) (A 7 e) ∧ A 6 (A 7 e) = e ∧ cE (A 5) (A 7 e) = e := by
  have hE := h.2.1.1
  have hn := h.1.2.1.n0
  unfold cE at hE
  obtain ⟨s, a, b, c⟩ := ct_surj (p := fm (A 5)) (nN A).toNat e.toNat (by omega)
  have d := h.2.1.2.2 (s : Int) (by omega) (by omega) b
  have e1 : cE (A 5) (s : Int) = e := by unfold cE; rw [Int.toNat_natCast, c]; omega
  rw [e1] at d
  rw [d]
  refine ⟨⟨by omega, by omega⟩, b, ?_, e1⟩
  rw [h.2.1.2.1 s (by omega) (by omega), if_neg b]
  exact e1
/-- the door's ring -/
theorem Good.door (h : Good A) {c : Int} (h0 : 0 ≤ c) (h1 : c < A 0 0) : (0 ≤ A 9 c ∧ A 9 c < nN A) ∧ A 3 (A 9 c) = c ∧ 3 ≤ deg A c ∧ A 8 c = (deg A c : Int) ∧ (∀ k, 0 < k → k < deg A c → it (rho A) k (A 9 c) ≠ A 9 c) ∧ it (rho A) (deg A c) (A 9 c) = A 9 c ∧ (∀ s, 0 ≤ s → s < nN A → A 3 s = c → ∃ k, k < deg A c ∧ it (rho A) k (A 9 c) = s) := by
  have a := h.2.2 c h0 h1
  have b := h.1.all a.2.1.1 a.2.1.2
  rw [a.2.2.1] at b
  exact ⟨a.2.1, a.2.2.1, b.1, a.1, b.2, h.1.ret a.2.1.1 a.2.1.2 a.2.2.1 (by omega) b.2, fun s g0 g1 gc => h.1.cov a.2.1.1 a.2.1.2 a.2.2.1 b.2 g0 g1 gc⟩
end EDGES
/-- two nets with the same corners, plates and rings -/
def SC (A B : Net) : Prop := A 0 0 = B 0 0 ∧ A 0 1 = B 0 1 ∧ (∀ f, 0 ≤ f → f ≤ A 0 1 → A 2 f = B 2 f) ∧ (∀ s, 0 ≤ s → s < nN A → A 3 s = B 3 s)
def Agr (A B : Net) : Prop := SC A B ∧ A 0 2 = B 0 2 ∧ (∀ s, 0 ≤ s → s < nN A → A 4 s = B 4 s ∧ A 5 s = B 5 s ∧ A 6 s = B 6 s) ∧ (∀ e, 0 ≤ e → e < A 0 2 → A 7 e = B 7 e) ∧ (∀ c, 0 ≤ c → c < A 0 0 → A 8 c = B 8 c ∧ A 9 c = B 9 c)
section UNIQ
variable {A B : Net}
theorem SC.n (h : SC A B) (hP : 0 ≤ A 0 1) : nN A = nN B := by
  unfold nN
  rw [← h.2.1]
  exact h.2.2.1 _ hP (by omega)
theorem SC.pl (h : SC A B) (ga : GP A) (gb : GP B) {s : Int} (h0 : 0 ≤ s) (h1 : s < nN A) : A 4 s = B 4 s := by
  have a := ga.2.2.2 s h0 h1
  have hn := h.n ga.1
  refine (gb.pl a.1.1 (by rw [← h.2.1]; exact a.1.2) ?_ ?_).symm
  · rw [← h.2.2.1 _ a.1.1 (by omega)]; exact a.2.1
  · rw [← h.2.2.1 _ (by omega) (by omega)]; exact a.2.2
theorem SC.nxe (h : SC A B) (ga : GP A) (gb : GP B) {s : Int} (h0 : 0 ≤ s) (h1 : s < nN A) : nx A s = nx B s := by
  have a := ga.2.2.2 s h0 h1
  have b := h.pl ga gb h0 h1
  unfold nx nxF
  rw [← b, ← h.2.2.1 _ a.1.1 (by omega), ← h.2.2.1 (A 4 s + 1) (by omega) (by omega)]
theorem SC.pve (h : SC A B) (ga : GP A) (gb : GP B) {s : Int} (h0 : 0 ≤ s) (h1 : s < nN A) : pv A s = pv B s := by
  have a := ga.2.2.2 s h0 h1
  have b := h.pl ga gb h0 h1
  unfold pv pvF
  rw [← b, ← h.2.2.1 _ a.1.1 (by omega), ← h.2.2.1 (A 4 s + 1) (by omega) (by omega)]
theorem SC.bk (h : SC A B) (ga : GC A) (gb : GC B) {s : Int} (h0 : 0 ≤ s) (h1 : s < nN A) : A 5 s = B 5 s := by
  have hn := h.n ga.2.1.1
  have a := ga.b1 h0 h1
  have b := gb.b1 h0 (by omega)
  have e1 := h.nxe ga.2.1 gb.2.1 h0 h1
  have c := ga.2.1.nxr h0 h1
  have cb := gb.2.1.nxr (s := B 5 s) b.2.1.1 b.2.1.2
  refine ga.u a.2.1.1 a.2.1.2 b.2.1.1 (by omega) ?_ ?_
  · rw [a.2.2.2, h.2.2.2 _ b.2.1.1 (by omega), b.2.2.2, ← e1, h.2.2.2 _ c.1.1 c.1.2]
  · rw [ga.tgt h0 h1, h.nxe ga.2.1 gb.2.1 b.2.1.1 (by omega), h.2.2.2 _ cb.1.1 (by omega), gb.tgt h0 (by omega), h.2.2.2 s h0 h1]
theorem cE_cg {bk bk' : Int → Int} {n : Int} (h : ∀ s, 0 ≤ s → s < n → bk s = bk' s) {s : Int} (h1 : s ≤ n) : cE bk s = cE bk' s := by
  unfold cE
  rw [ct_cg s.toNat (q := fm bk') (fun i a b => by unfold fm; rw [h i a (by omega)])]
theorem SC.dge (h : SC A B) (hP : 0 ≤ A 0 1) (c : Int) : deg A c = deg B c := by
  have hn := h.n hP
  unfold deg
  rw [hn]
  exact ct_cg _ (fun i a b => by rw [h.2.2.2 i a (by omega)])
/-- what is derived is the same where the steps back are -/
theorem Agr.of (h : SC A B) (ga : GC A) (da : DE A ∧ DD A) (db : DE B ∧ DD B) (h4 : ∀ s, 0 ≤ s → s < nN A → A 4 s = B 4 s) (h5 : ∀ s, 0 ≤ s → s < nN A → A 5 s = B 5 s) : Agr A B := by
  have hn := h.n ga.2.1.1
  have hE : A 0 2 = B 0 2 := by rw [da.1.1, db.1.1, ← hn]; exact cE_cg h5 (by omega)
  have h6 : ∀ s, 0 ≤ s → s < nN A → A 6 s = B 6 s := by
    intro s h0 h1
    have a := ga.b1 h0 h1
    rw [da.1.2.1 s h0 h1, db.1.2.1 s h0 (by omega), ← h5 s h0 h1, cE_cg h5 (s := A 5 s) (by omega), cE_cg h5 (s := s) (by omega)]
  refine ⟨h, hE, fun s h0 h1 => ⟨h4 s h0 h1, h5 s h0 h1, h6 s h0 h1⟩, fun e h0 h1 => ?_, fun c h0 h1 => ?_⟩
  · have a := Good.mt ⟨ga, da⟩ h0 h1
    have b := db.1.2.2 (A 7 e) a.1.1 (by omega) (by unfold fm; rw [← h5 _ a.1.1 a.1.2]; exact a.2.1)
    rw [← cE_cg h5 (s := A 7 e) (by omega), a.2.2.2] at b
    exact b.symm
  · have a := da.2 c h0 h1
    have b := db.2 c h0 (by rw [← h.1]; exact h1)
    refine ⟨by rw [a.1, b.1, h.dge ga.2.1.1], ?_⟩
    have a2 := a.2.2.2 (B 9 c) b.2.1.1 (by omega) (by rw [h.2.2.2 _ b.2.1.1 (by omega)]; exact b.2.2.1)
    have b2 := b.2.2.2 (A 9 c) a.2.1.1 (by omega) (by rw [← h.2.2.2 _ a.2.1.1 (by omega)]; exact a.2.2.1)
    rw [← h6 _ b.2.1.1 (by omega), ← h6 _ a.2.1.1 a.2.1.2] at b2
    rcases Good.eoe ⟨ga, da⟩ a.2.1.1 a.2.1.2 b.2.1.1 (by omega) (show A 6 (A 9 c) = A 6 (B 9 c) by omega) with q | q
    · exact q.symm
    · exfalso
      have e1 := (ga.b1 a.2.1.1 a.2.1.2).2.2.2
      rw [← q, h.2.2.2 _ b.2.1.1 (by omega), b.2.2.1] at e1
      exact ga.nl a.2.1.1 a.2.1.2 (e1.symm.trans a.2.2.1.symm)
theorem Good.uniq (h : SC A B) (ga : Good A) (gb : Good B) : Agr A B := Agr.of h ga.1 ga.2 gb.2 (fun _ h0 h1 => h.pl ga.1.2.1 gb.1.2.1 h0 h1) (fun _ h0 h1 => h.bk ga.1 gb.1 h0 h1)
end UNIQ
