section AGR
variable {A B D : Net}
theorem Agr.n (h : Agr A B) (hP : 0 ≤ A 0 1) : nN A = nN B := h.1.n hP
theorem Agr.nxe (h : Agr A B) (g : GP A) {s : Int} (h0 : 0 ≤ s) (h1 : s < nN A) : nx B s = nx A s := by
  have a := g.2.2.2 s h0 h1
  show nxF (B 2) (B 4) s = nxF (A 2) (A 4) s
  unfold nxF
  rw [← (h.2.2.1 s h0 h1).1, ← h.1.2.2.1 (A 4 s) a.1.1 (by omega), ← h.1.2.2.1 (A 4 s + 1) (by omega) (by omega)]
theorem Agr.pve (h : Agr A B) (g : GP A) {s : Int} (h0 : 0 ≤ s) (h1 : s < nN A) : pv B s = pv A s := by
  have a := g.2.2.2 s h0 h1
  show pvF (B 2) (B 4) s = pvF (A 2) (A 4) s
  unfold pvF
  rw [← (h.2.2.1 s h0 h1).1, ← h.1.2.2.1 (A 4 s) a.1.1 (by omega), ← h.1.2.2.1 (A 4 s + 1) (by omega) (by omega)]
theorem Agr.rhe (h : Agr A B) (g : GC A) {s : Int} (h0 : 0 ≤ s) (h1 : s < nN A) : rho B s = rho A s := by
  have a := g.2.1.pvr h0 h1
  show B 5 (pv B s) = A 5 (pv A s)
  rw [h.pve g.2.1 h0 h1, (h.2.2.1 _ a.1.1 a.1.2).2.1]
theorem Agr.ite (h : Agr A B) (g : GC A) {s : Int} (h0 : 0 ≤ s) (h1 : s < nN A) (k : Nat) : it (rho B) k s = it (rho A) k s := by
  induction k with
  | zero => rfl
  | succ k ih =>
    have a := g.itr h0 h1 k
    show rho B _ = rho A _
    rw [ih, h.rhe g a.1.1 a.1.2]
theorem Agr.good (h : Agr A B) (g : Good A) : Good B := by
  have gp := g.1.2.1
  have hn := h.n gp.1
  have e4 := fun s h0 h1 => (h.2.2.1 s h0 h1).1
  have e5 := fun s h0 h1 => (h.2.2.1 s h0 h1).2.1
  have e6 := fun s h0 h1 => (h.2.2.1 s h0 h1).2.2
  have e3 := h.1.2.2.2
  have gpb : GP B := by
    refine ⟨by rw [← h.1.2.1]; exact gp.1, by rw [← h.1.2.2.1 0 (by omega) gp.1]; exact gp.2.1, fun f h0 h1 => ?_, fun s h0 h1 => ?_⟩
    · rw [← h.1.2.1] at h1
      rw [← h.1.2.2.1 f h0 (by omega), ← h.1.2.2.1 (f + 1) (by omega) (by omega)]
      exact gp.2.2.1 f h0 h1
    · rw [← hn] at h1
      have a := gp.2.2.2 s h0 h1
      rw [← e4 s h0 h1, ← h.1.2.1, ← h.1.2.2.1 (A 4 s) a.1.1 (by omega), ← h.1.2.2.1 (A 4 s + 1) (by omega) (by omega)]
      exact a
  have gbb : GB B := by
    refine ⟨fun s h0 h1 => ?_, fun s t h0 h1 g0 g1 q1 q2 => ?_, fun s h0 h1 => ?_⟩
    · rw [← hn] at h1 ⊢
      have a := g.1.b1 h0 h1
      have b := gp.nxr h0 h1
      rw [h.nxe gp h0 h1, ← h.1.1, ← e3 s h0 h1, ← e5 s h0 h1, ← e5 _ a.2.1.1 a.2.1.2, ← e3 _ a.2.1.1 a.2.1.2, ← e3 _ b.1.1 b.1.2]
      exact a
    · rw [← hn] at h1 g1
      have b := gp.nxr h0 h1
      have c := gp.nxr g0 g1
      rw [← e3 s h0 h1, ← e3 t g0 g1] at q1
      rw [h.nxe gp h0 h1, h.nxe gp g0 g1, ← e3 _ b.1.1 b.1.2, ← e3 _ c.1.1 c.1.2] at q2
      exact g.1.u h0 h1 g0 g1 q1 q2
    · rw [← hn] at h1
      have b := gp.nxr h0 h1
      rw [h.nxe gp h0 h1, ← e3 s h0 h1, ← e3 _ b.1.1 b.1.2]
      exact g.1.nl h0 h1
  have dg : ∀ c, deg A c = deg B c := h.1.dge gp.1
  have gcb : GC B := by
    refine ⟨by rw [← h.1.1]; exact g.1.1, gpb, gbb, fun c h0 h1 => ?_⟩
    rw [← h.1.1] at h1
    obtain ⟨d3, x, hx, hc, hr⟩ := g.1.2.2.2 c h0 h1
    rw [← dg c, ← hn]
    refine ⟨d3, x, hx, by rw [← e3 x hx.1 hx.2]; exact hc, fun k k0 k1 => ?_⟩
    rw [h.ite g.1 hx.1 hx.2]
    exact hr k k0 k1
  refine ⟨gcb, ⟨?_, fun s h0 h1 => ?_, fun s h0 h1 hs => ?_⟩, fun c h0 h1 => ?_⟩
  · rw [← h.2.1, g.2.1.1, ← hn]; exact cE_cg e5 (by omega)
  · rw [← hn] at h1
    have a := g.1.b1 h0 h1
    rw [← e6 s h0 h1, ← e5 s h0 h1, g.2.1.2.1 s h0 h1, cE_cg e5 (s := A 5 s) (by omega), cE_cg e5 (s := s) (by omega)]
  · rw [← hn] at h1
    have hs2 : fm (A 5) s := by unfold fm at hs ⊢; rw [e5 s h0 h1]; exact hs
    have a := g.2.1.2.2 s h0 h1 hs2
    have b := cE_lt h0 h1 hs2
    rw [← g.2.1.1] at b
    rw [← cE_cg e5 (s := s) (by omega), ← h.2.2.2.1 _ (cE_0 _ _) b]
    exact a
  · rw [← h.1.1] at h1
    have a := g.2.2 c h0 h1
    have b := h.2.2.2.2 c h0 h1
    rw [← b.1, ← b.2, ← dg c, ← hn, ← e3 _ a.2.1.1 a.2.1.2]
    refine ⟨a.1, a.2.1, a.2.2.1, fun s s0 s1 sc => ?_⟩
    rw [← e3 s s0 s1] at sc
    rw [← e6 _ a.2.1.1 a.2.1.2, ← e6 s s0 s1]
    exact a.2.2.2 s s0 s1 sc
theorem Agr.tr (h : Agr A B) (k : Agr B D) (hP : 0 ≤ A 0 1) : Agr A D := by
  have hn := h.n hP
  refine ⟨⟨h.1.1.trans k.1.1, h.1.2.1.trans k.1.2.1, fun f a b => (h.1.2.2.1 f a b).trans (k.1.2.2.1 f a (by rw [← h.1.2.1]; exact b)), fun s a b => (h.1.2.2.2 s a b).trans (k.1.2.2.2 s a (by rw [← hn]; exact b))⟩, h.2.1.trans k.2.1, fun s a b => ?_, fun e a b => (h.2.2.2.1 e a b).trans (k.2.2.2.1 e a (by rw [← h.2.1]; exact b)), fun c a b => ?_⟩
  · have x := h.2.2.1 s a b
    have y := k.2.2.1 s a (by rw [← hn]; exact b)
    exact ⟨x.1.trans y.1, x.2.1.trans y.2.1, x.2.2.trans y.2.2⟩
  · have x := h.2.2.2.2 c a b
    have y := k.2.2.2.2 c a (by rw [← h.1.1]; exact b)
    exact ⟨x.1.trans y.1, x.2.trans y.2⟩
theorem Agr.ste (h : Agr A B) (g : GC A) (c : Int) : st A c = st B c := by
  have hn := h.n g.2.1.1
  unfold st
  rw [← hn, ct_cg (q := fun s => B 3 s < c) (nN A).toNat (fun i a b => by rw [h.1.2.2.2 i a (by omega)])]
/-- the next levels of nets that agree, agree -/
theorem Agr.rfe (h : Agr A B) (g : Good A) : Agr (rfA A) (rfA B) := by
  have gb := h.good g
  have hn := h.n g.1.2.1.1
  refine Good.uniq ⟨h.2.1, ?_, fun f a b => ?_, fun s a b => ?_⟩ (rf_good g) (rf_good gb)
  · show A 0 1 + A 0 0 = B 0 1 + B 0 0
    rw [h.1.1, h.1.2.1]
  · show (if f < A 0 1 then A 2 f else st A (f - A 0 1)) = (if f < B 0 1 then B 2 f else st B (f - B 0 1))
    rw [← h.1.2.1, h.ste g.1]
    by_cases q : f < A 0 1
    · rw [if_pos q, if_pos q]; exact h.1.2.2.1 f a (by omega)
    · rw [if_neg q, if_neg q]
  · rw [rf_n g.1] at b
    by_cases q : s < nN A
    · rw [rf_3l q, rf_3l (by omega)]; exact (h.2.2.1 s a q).2.2
    · rw [rf_3h (by omega), rf_3h (by omega)]
      obtain ⟨c, k, hc, hk, hs, hu⟩ := un_ex g (s := s) (by omega) b
      have d := g.door hc.1 hc.2
      have u2 := un_at gb (c := c) hc.1 (by rw [← h.1.1]; exact hc.2) (k := k) (by rw [← h.1.dge g.1.2.1.1]; exact hk)
      have e : un B s = un A s := by
        rw [hu, hs, h.ste g.1, u2.2.2, ← (h.2.2.2.2 c hc.1 hc.2).2, h.ite g.1 d.1.1 d.1.2]
      have r := un_r g (s := s) (by omega) b
      rw [e]; exact (h.2.2.1 _ r.1.1 r.1.2).2.2
theorem Good.half (g : Good A) : 2 * A 0 2 ≤ nN A := by
  rw [g.2.1.1]
  exact cE_half g.1.2.1.n0 (fun s h0 h1 => ⟨(g.1.b1 h0 h1).2.1, (g.1.b1 h0 h1).2.2.1, g.1.bne h0 h1⟩)
end AGR
/-- the levels fit -/
def Cap (A : Net) (l : Int) : Prop := A 0 0 ≤ capC l ∧ A 0 1 ≤ capP l ∧ nN A ≤ 2 * capE l ∧ A 0 2 ≤ capE l
theorem Cap.step {A : Net} {l : Int} (g : Good A) (h : Cap A l) (hE : capE l ≤ capC (l + 1)) (hP : capP l + capC l ≤ capP (l + 1)) (hn : 2 * capE l ≤ capE (l + 1)) : Cap (rfA A) (l + 1) := by
  have G := rf_good g
  have hh := G.half
  have en := rf_n g.1
  have e0 : rfA A 0 0 = A 0 2 := rfl
  have e1 : rfA A 0 1 = A 0 1 + A 0 0 := rfl
  obtain ⟨a, b, c, d⟩ := h
  refine ⟨by omega, by omega, by omega, by omega⟩
theorem lev_cap {A : Net} (g : Good (bN A)) (h : A 0 0 ≤ 14 ∧ A 0 1 ≤ 14 ∧ nN A ≤ 84) : ∀ l : Nat, l < 4 → Cap (lev A l) l := by
  have c0 : Cap (lev A 0) (0 : Nat) := by
    have hh := g.half
    have e0 : bN A 0 0 = A 0 0 := rfl
    have e1 : bN A 0 1 = A 0 1 := rfl
    have en : nN (bN A) = nN A := rfl
    refine ⟨?_, ?_, ?_, ?_⟩
    · show bN A 0 0 ≤ 14; omega
    · show bN A 0 1 ≤ 14; omega
    · show nN (bN A) ≤ 84; omega
    · show bN A 0 2 ≤ 42; omega
  have c1 : Cap (lev A 1) (1 : Nat) := Cap.step (lev_good g 0) c0 (by decide) (by decide) (by decide)
  have c2 : Cap (lev A 2) (2 : Nat) := Cap.step (lev_good g 1) c1 (by decide) (by decide) (by decide)
  have c3 : Cap (lev A 3) (3 : Nat) := Cap.step (lev_good g 2) c2 (by decide) (by decide) (by decide)
  intro l hl
  match l, hl with
  | 0, _ => exact c0
  | 1, _ => exact c1
  | 2, _ => exact c2
  | 3, _ => exact c3
/-- what a base is, alone -/
def bs (A : Net) : Net := fun j i => match j with
  | 0 => if i = 0 then A 0 0 else if i = 1 then A 0 1 else 0
  | 2 => A 2 i
  | 3 => A 3 i
  | 4 => A 4 i
  | _ => 0
theorem bs_eq {A B : Net} (h0 : A 0 0 = B 0 0) (h1 : A 0 1 = B 0 1) (h2 : A 2 = B 2) (h3 : A 3 = B 3) (h4 : A 4 = B 4) : bs A = bs B := by
  funext j i
  match j with
  | 0 => show (if i = 0 then A 0 0 else if i = 1 then A 0 1 else 0) = (if i = 0 then B 0 0 else if i = 1 then B 0 1 else 0)
         rw [h0, h1]
  | 1 => rfl
  | 2 => show A 2 i = B 2 i
         rw [h2]
  | 3 => show A 3 i = B 3 i
         rw [h3]
  | 4 => show A 4 i = B 4 i
         rw [h4]
  | j + 5 => rfl
theorem bN_bs (A : Net) : bN (bs A) = bN A := rfl
theorem lev_bs (A : Net) : ∀ l, lev (bs A) l = lev A l
  | 0 => rfl
  | l + 1 => by show rfA (lev (bs A) l) = rfA (lev A l); rw [lev_bs A l]
theorem lev_cg {A B : Net} (h : bs A = bs B) : lev A = lev B := by
  funext l
  rw [← lev_bs A, ← lev_bs B, h]
theorem IsF_bs (A : Net) (k p : Int) : IsF (bs A) k p = IsF A k p := rfl
theorem IsF_cg {A B : Net} (h : bs A = bs B) {k p : Int} (f : IsF A k p) : IsF B k p := by
  rw [← IsF_bs] at f ⊢
  rw [← h]; exact f
theorem Bas_bs (A : Net) : Bas (bs A) = Bas A := rfl
