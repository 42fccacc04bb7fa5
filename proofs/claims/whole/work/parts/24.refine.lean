/-- the next level -/
noncomputable def rfA (A : Net) : Net := fin (A 0 2) (A 0 1 + A 0 0) (fun i => if i < A 0 1 then A 2 i else st A (i - A 0 1)) (fun i => if i < nN A then A 6 i else A 6 (un A i)) (fun i => if i < nN A then A 4 i else A 0 1 + crn A i) (fun i => if i < nN A then ps A (nx A i) else pv A (un A i))
section RFA
variable {A : Net}
theorem rf_fst (h : GC A) {f : Int} (hf : f ≤ A 0 1) : rfA A 2 f = A 2 f := by
  show (if f < A 0 1 then A 2 f else st A (f - A 0 1)) = A 2 f
  by_cases q : f < A 0 1
  · rw [if_pos q]
  · rw [if_neg q]
    obtain rfl : f = A 0 1 := by omega
    rw [Int.sub_self, st_0 h]
    rfl
theorem rf_st (h : GC A) {c : Int} (hc : 0 ≤ c) : rfA A 2 (A 0 1 + c) = st A c := by
  show (if A 0 1 + c < A 0 1 then A 2 (A 0 1 + c) else st A (A 0 1 + c - A 0 1)) = st A c
  rw [if_neg (by omega)]
  congr 1
  omega
theorem rf_n (h : GC A) : nN (rfA A) = 2 * nN A := by
  show rfA A 2 (A 0 1 + A 0 0) = _
  rw [rf_st h h.1, st_C h]
theorem rf_3l {s : Int} (hs : s < nN A) : rfA A 3 s = A 6 s := if_pos hs
theorem rf_3h {s : Int} (hs : nN A ≤ s) : rfA A 3 s = A 6 (un A s) := if_neg (by omega)
theorem rf_4l {s : Int} (hs : s < nN A) : rfA A 4 s = A 4 s := if_pos hs
theorem rf_4h {s : Int} (hs : nN A ≤ s) : rfA A 4 s = A 0 1 + crn A s := if_neg (by omega)
theorem rf_5l {s : Int} (hs : s < nN A) : rfA A 5 s = ps A (nx A s) := if_pos hs
theorem rf_5h {s : Int} (hs : nN A ≤ s) : rfA A 5 s = pv A (un A s) := if_neg (by omega)
theorem rf_GP (h : Good A) : GP (rfA A) := by
  have hg := h.1.2.1
  have hC := h.1.1
  refine ⟨show 0 ≤ A 0 1 + A 0 0 by have := hg.1; omega, ?_, ?_, ?_⟩
  · rw [rf_fst h.1 hg.1]; exact hg.2.1
  · intro f h0 h1
    have h1 : f < A 0 1 + A 0 0 := h1
    by_cases q : f < A 0 1
    · rw [rf_fst h.1 (by omega), rf_fst h.1 (by omega)]
      exact hg.2.2.1 f h0 q
    · have e1 := rf_st h.1 (c := f - A 0 1) (by omega)
      have e2 := rf_st h.1 (c := f - A 0 1 + 1) (by omega)
      rw [show A 0 1 + (f - A 0 1) = f by omega] at e1
      rw [show A 0 1 + (f - A 0 1 + 1) = f + 1 by omega] at e2
      rw [e1, e2, st_s h.1]
      have := (h.door (c := f - A 0 1) (by omega) (by omega)).2.2.1
      omega
  · intro s h0 h1
    rw [rf_n h.1] at h1
    by_cases q : s < nN A
    · have a := hg.2.2.2 s h0 q
      rw [rf_4l q, rf_fst h.1 (by omega), rf_fst h.1 (by omega)]
      exact ⟨⟨a.1.1, show A 4 s < A 0 1 + A 0 0 by omega⟩, a.2⟩
    · have a := crn_s h.1 (s := s) (by omega) h1
      have hP := hg.1
      rw [rf_4h (by omega), rf_st h.1 a.1.1, show A 0 1 + crn A s + 1 = A 0 1 + (crn A s + 1) by omega, rf_st h.1 (by omega)]
      exact ⟨⟨by omega, show A 0 1 + crn A s < A 0 1 + A 0 0 by omega⟩, a.2⟩
theorem rf_nxl (h : Good A) {s : Int} (h0 : 0 ≤ s) (h1 : s < nN A) : nx (rfA A) s = nx A s := by
  have a := h.1.2.1.2.2.2 s h0 h1
  unfold nx nxF
  rw [rf_4l h1, rf_fst h.1 (by omega), rf_fst h.1 (by omega)]
theorem rf_pvl (h : Good A) {s : Int} (h0 : 0 ≤ s) (h1 : s < nN A) : pv (rfA A) s = pv A s := by
  have a := h.1.2.1.2.2.2 s h0 h1
  unfold pv pvF
  rw [rf_4l h1, rf_fst h.1 (by omega), rf_fst h.1 (by omega)]
/-- in a corner's plate the next step is the next one round it -/
theorem rf_nxh (h : Good A) {s : Int} (h0 : nN A ≤ s) (h1 : s < 2 * nN A) : (nN A ≤ nx (rfA A) s ∧ nx (rfA A) s < 2 * nN A) ∧ un A (nx (rfA A) s) = rho A (un A s) := by
  obtain ⟨c, k, hc, hk, hs, hu⟩ := un_ex h h0 h1
  have d := h.door hc.1 hc.2
  have e := un_at h hc.1 hc.2 hk
  have ec : crn A s = c := by rw [hs]; exact e.2.1
  have ss := st_s h.1 c
  have key : nx (rfA A) s = if s + 1 < st A (c + 1) then s + 1 else st A c := by
    unfold nx nxF
    rw [rf_4h h0, ec, rf_st h.1 hc.1, show A 0 1 + c + 1 = A 0 1 + (c + 1) by omega, rf_st h.1 (by omega)]
  rw [key]
  by_cases q : s + 1 < st A (c + 1)
  · rw [if_pos q]
    have e2 := un_at h hc.1 hc.2 (k := k + 1) (by omega)
    rw [hs, show st A c + (k : Int) + 1 = st A c + ((k + 1 : Nat) : Int) by omega]
    refine ⟨e2.1, ?_⟩
    rw [e2.2.2, e.2.2]
    rfl
  · rw [if_neg q]
    have e2 := un_at h hc.1 hc.2 (k := 0) (by omega)
    rw [show st A c = st A c + ((0 : Nat) : Int) by omega]
    refine ⟨e2.1, ?_⟩
    rw [e2.2.2, hu]
    have hkd : deg A c = k + 1 := by omega
    have r := d.2.2.2.2.2.1
    rw [hkd] at r
    exact r.symm
theorem rho_ne (h : GC A) {s : Int} (h0 : 0 ≤ s) (h1 : s < nN A) : rho A s ≠ s ∧ rho A (rho A s) ≠ s := by
  have a := h.all h0 h1
  exact ⟨a.2 1 (by omega) (by omega), a.2 2 (by omega) (by omega)⟩
theorem nx_ne_bk (h : GC A) {s : Int} (h0 : 0 ≤ s) (h1 : s < nN A) : nx A s ≠ A 5 s := by
  intro q
  have a := h.2.1.nxr h0 h1
  have b := (rho_ne h a.1.1 a.1.2).1
  rw [rho_bk h h0 h1] at b
  exact b q.symm
theorem Good.ll (h : Good A) {s t : Int} (h0 : 0 ≤ s) (h1 : s < nN A) (g0 : 0 ≤ t) (g1 : t < nN A) (e1 : A 6 s = A 6 t) (e2 : A 6 (nx A s) = A 6 (nx A t)) : s = t := by
  rcases h.eoe h0 h1 g0 g1 e1 with rfl | rfl
  · rfl
  · exfalso
    have b := h.1.b1 h0 h1
    have n1 := h.1.2.1.nxr h0 h1
    have n2 := h.1.2.1.nxr b.2.1.1 b.2.1.2
    rcases h.eoe n1.1.1 n1.1.2 n2.1.1 n2.1.2 e2 with q | q
    · have := h.1.2.1.pvnx h0 h1
      rw [← q, h.1.2.1.pvnx b.2.1.1 b.2.1.2] at this
      exact h.1.bne h0 h1 this
    · have c := h.1.b1 n1.1.1 n1.1.2
      have o1 := h.1.tgt h0 h1
      rw [q, c.2.2.2] at o1
      exact nx_ne_bk h.1 h0 h1 (h.1.u n1.1.1 n1.1.2 b.2.1.1 b.2.1.2 b.2.2.2.symm (o1.trans (h.1.tgt h0 h1).symm))
theorem Good.hh (h : Good A) {u v : Int} (h0 : 0 ≤ u) (h1 : u < nN A) (g0 : 0 ≤ v) (g1 : v < nN A) (e1 : A 6 u = A 6 v) (e2 : A 6 (rho A u) = A 6 (rho A v)) : u = v := by
  rcases h.eoe h0 h1 g0 g1 e1 with rfl | rfl
  · rfl
  · exfalso
    have b := h.1.b1 h0 h1
    have n1 := h.1.rh h0 h1
    have n2 := h.1.rh b.2.1.1 b.2.1.2
    rcases h.eoe n1.1.1 n1.1.2 n2.1.1 n2.1.2 e2 with q | q
    · exact h.1.bne h0 h1 (h.1.rhi b.2.1.1 b.2.1.2 h0 h1 q)
    · have c := h.1.b1 n1.1.1 n1.1.2
      have o1 := n2.2
      rw [q, c.2.2.2, b.2.2.2] at o1
      exact (rho_ne h.1 h0 h1).1 (h.1.u n1.1.1 n1.1.2 h0 h1 n1.2 o1)
theorem Good.lh (h : Good A) {s v : Int} (h0 : 0 ≤ s) (h1 : s < nN A) (g0 : 0 ≤ v) (g1 : v < nN A) (e1 : A 6 s = A 6 v) (e2 : A 6 (nx A s) = A 6 (rho A v)) : False := by
  have b := h.1.b1 h0 h1
  have n1 := h.1.2.1.nxr h0 h1
  have nb := h.1.b1 n1.1.1 n1.1.2
  have nl := h.1.nl h0 h1
  rcases h.eoe h0 h1 g0 g1 e1 with rfl | rfl
  · have n2 := h.1.rh g0 g1
    rcases h.eoe n1.1.1 n1.1.2 n2.1.1 n2.1.2 e2 with q | q
    · rw [q] at n2; exact nl n2.2
    · have t1 := h.1.tgt n1.1.1 n1.1.2
      rw [← q] at t1
      exact (rho_ne h.1 g0 g1).1 (h.1.u n2.1.1 n2.1.2 g0 g1 n2.2 t1)
  · have n2 := h.1.rh g0 g1
    rcases h.eoe n1.1.1 n1.1.2 n2.1.1 n2.1.2 e2 with q | q
    · have r := rho_bk h.1 h0 h1
      rw [← q] at r
      exact (rho_ne h.1 g0 g1).2 r
    · have o := n2.2
      rw [q, nb.2.2.2, b.2.2.2] at o
      exact h.1.nl n1.1.1 n1.1.2 o
theorem rf_GB (h : Good A) : GB (rfA A) := by
  have hn := rf_n h.1
  have g := h.1
  have side : ∀ s, 0 ≤ s → s < nN A → rfA A 3 (nx (rfA A) s) = A 6 (nx A s) := fun s h0 h1 => by
    rw [rf_nxl h h0 h1, rf_3l (g.2.1.nxr h0 h1).1.2]
  have sideh : ∀ s, nN A ≤ s → s < 2 * nN A → rfA A 3 (nx (rfA A) s) = A 6 (rho A (un A s)) := fun s h0 h1 => by
    have a := rf_nxh h h0 h1
    rw [rf_3h a.1.1, a.2]
  refine ⟨fun s h0 h1 => ?_, fun s t h0 h1 g0 g1 e1 e2 => ?_, fun s h0 h1 => ?_⟩
  · rw [hn] at h1
    show (0 ≤ rfA A 3 s ∧ rfA A 3 s < A 0 2) ∧ (0 ≤ rfA A 5 s ∧ rfA A 5 s < nN (rfA A)) ∧ rfA A 5 (rfA A 5 s) = s ∧ rfA A 3 (rfA A 5 s) = rfA A 3 (nx (rfA A) s)
    rw [hn]
    by_cases q : s < nN A
    · have a := g.2.1.nxr h0 q
      have b := un_ps h a.1.1 a.1.2
      rw [rf_5l q, rf_3l q, rf_5h b.1.1, b.2, rf_3h b.1.1, b.2, side s h0 q, g.2.1.pvnx h0 q]
      exact ⟨h.eor h0 q, by omega, rfl, rfl⟩
    · have a := un_r h (s := s) (by omega) h1
      have b := g.2.1.pvr a.1.1 a.1.2
      rw [rf_5h (by omega), rf_3h (by omega), rf_5l b.1.2, g.2.1.nxpv a.1.1 a.1.2, ps_un h (by omega) h1, rf_3l b.1.2, sideh s (by omega) h1]
      refine ⟨h.eor a.1.1 a.1.2, by omega, rfl, ?_⟩
      show A 6 (pv A (un A s)) = A 6 (A 5 (pv A (un A s)))
      rw [h.eob b.1.1 b.1.2]
  · rw [hn] at h1 g1
    by_cases q : s < nN A
    · by_cases r : t < nN A
      · rw [rf_3l q, rf_3l r] at e1
        rw [side s h0 q, side t g0 r] at e2
        exact h.ll h0 q g0 r e1 e2
      · exfalso
        have a := un_r h (s := t) (by omega) g1
        rw [rf_3l q, rf_3h (by omega)] at e1
        rw [side s h0 q, sideh t (by omega) g1] at e2
        exact h.lh h0 q a.1.1 a.1.2 e1 e2
    · have a := un_r h (s := s) (by omega) h1
      by_cases r : t < nN A
      · exfalso
        rw [rf_3h (by omega), rf_3l r] at e1
        rw [sideh s (by omega) h1, side t g0 r] at e2
        exact h.lh g0 r a.1.1 a.1.2 e1.symm e2.symm
      · have b := un_r h (s := t) (by omega) g1
        rw [rf_3h (by omega), rf_3h (by omega)] at e1
        rw [sideh s (by omega) h1, sideh t (by omega) g1] at e2
        have e := h.hh a.1.1 a.1.2 b.1.1 b.1.2 e1 e2
        rw [← ps_un h (s := s) (by omega) h1, ← ps_un h (s := t) (by omega) g1, e]
  · rw [hn] at h1
    by_cases q : s < nN A
    · rw [side s h0 q, rf_3l q]
      intro e
      have a := g.2.1.nxr h0 q
      rcases h.eoe a.1.1 a.1.2 h0 q e with z | z
      · exact a.2.2.1 z.symm
      · have b := (g.b1 a.1.1 a.1.2).2.2.1
        rw [← z] at b
        exact nx_ne_bk g h0 q b.symm
    · have a := un_r h (s := s) (by omega) h1
      rw [sideh s (by omega) h1, rf_3h (by omega)]
      intro e
      have b := g.rh a.1.1 a.1.2
      rcases h.eoe a.1.1 a.1.2 b.1.1 b.1.2 e.symm with z | z
      · exact (rho_ne g a.1.1 a.1.2).1 z
      · have c := b.2
        rw [z, (g.b1 a.1.1 a.1.2).2.2.2] at c
        exact g.nl a.1.1 a.1.2 c
/-- round a corner of the next level: four steps -/
theorem rf_rho (h : Good A) {s : Int} (h0 : 0 ≤ s) (h1 : s < nN A) : rho (rfA A) s = ps A s ∧ rho (rfA A) (ps A s) = A 5 s := by
  have g := h.1
  have a := g.2.1.pvr h0 h1
  have b := un_ps h h0 h1
  have G := rf_GP h
  have hn := rf_n g
  constructor
  · unfold rho
    rw [rf_pvl h h0 h1, rf_5l a.1.2, g.2.1.nxpv h0 h1]
  · unfold rho
    have c := G.pvr (s := ps A s) (by omega) (by omega)
    have d := G.nxpv (s := ps A s) (by omega) (by omega)
    have hw : nN A ≤ pv (rfA A) (ps A s) := by
      apply Classical.byContradiction
      intro q
      have e := rf_nxl h c.1.1 (show pv (rfA A) (ps A s) < nN A by omega)
      have e2 := g.2.1.nxr c.1.1 (show pv (rfA A) (ps A s) < nN A by omega)
      rw [d] at e
      omega
    have e := rf_nxh h hw (by omega)
    rw [d, b.2] at e
    have f := un_r h hw (by omega)
    rw [rf_5h hw]
    have k := g.2.1.pvr f.1.1 f.1.2
    have k2 := (g.b1 k.1.1 k.1.2).2.2.1
    have e3 : s = A 5 (pv A (un A (pv (rfA A) (ps A s)))) := e.2
    rw [← e3] at k2
    exact k2.symm
theorem rf_GR (h : Good A) : GR (rfA A) := by
  intro e e0 e1
  have e1 : e < A 0 2 := e1
  have g := h.1
  have m := h.mt e0 e1
  have hn := rf_n g
  generalize hs : A 7 e = s at m
  have b := g.b1 m.1.1 m.1.2
  have p1 := un_ps h m.1.1 m.1.2
  have p2 := un_ps h b.2.1.1 b.2.1.2
  have bne := g.bne m.1.1 m.1.2
  have eb := h.eob m.1.1 m.1.2
  have pne : ps A s ≠ ps A (A 5 s) := fun q => by rw [q, p2.2] at p1; exact bne p1.2
  have hle : deg (rfA A) e ≤ 4 := by
    refine ct_cov _ 4 (fun i => match i with | 0 => s | 1 => A 5 s | 2 => ps A s | _ => ps A (A 5 s)) (fun t t0 t1 ht => ?_)
    by_cases q : t < nN A
    · rw [rf_3l q] at ht
      rcases h.eoe m.1.1 m.1.2 t0 q (by rw [ht]; exact m.2.2.1) with z | z
      · exact ⟨0, by omega, z.symm⟩
      · exact ⟨1, by omega, z.symm⟩
    · have a := un_r h (s := t) (by omega) (by omega)
      rw [rf_3h (by omega)] at ht
      rcases h.eoe m.1.1 m.1.2 a.1.1 a.1.2 (by rw [ht]; exact m.2.2.1) with z | z
      · exact ⟨2, by omega, by show ps A s = t; rw [← z, ps_un h (by omega) (by omega)]⟩
      · exact ⟨3, by omega, by show ps A (A 5 s) = t; rw [← z, ps_un h (by omega) (by omega)]⟩
  have hge : 3 ≤ deg (rfA A) e := by
    refine ct_inj _ 3 (fun i => match i with | 0 => s | 1 => A 5 s | _ => ps A s) (fun i hi => ?_) (fun i j hi hj q => ?_)
    · match i, hi with
      | 0, _ => exact ⟨by show 0 ≤ s ∧ s < _; omega, by show rfA A 3 s = e; rw [rf_3l m.1.2]; exact m.2.2.1⟩
      | 1, _ => exact ⟨by show 0 ≤ A 5 s ∧ A 5 s < _; omega, by show rfA A 3 (A 5 s) = e; rw [rf_3l b.2.1.2, eb]; exact m.2.2.1⟩
      | 2, _ => exact ⟨by show 0 ≤ ps A s ∧ ps A s < _; omega, by show rfA A 3 (ps A s) = e; rw [rf_3h p1.1.1, p1.2]; exact m.2.2.1⟩
    · match i, j, hi, hj, q with
      | 0, 0, _, _, _ => rfl
      | 0, 1, _, _, q => exact absurd (show s = A 5 s from q).symm bne
      | 0, 2, _, _, q => have : s = ps A s := q
                         omega
      | 1, 0, _, _, q => exact absurd (show A 5 s = s from q) bne
      | 1, 1, _, _, _ => rfl
      | 1, 2, _, _, q => have : A 5 s = ps A s := q
                         omega
      | 2, 0, _, _, q => have : ps A s = s := q
                         omega
      | 2, 1, _, _, q => have : ps A s = A 5 s := q
                         omega
      | 2, 2, _, _, _ => rfl
  have r1 := rf_rho h m.1.1 m.1.2
  have r2 := rf_rho h b.2.1.1 b.2.1.2
  refine ⟨hge, s, ⟨m.1.1, by omega⟩, by rw [rf_3l m.1.2]; exact m.2.2.1, fun k k0 k1 => ?_⟩
  have e1 : it (rho (rfA A)) 1 s = ps A s := r1.1
  have e2 : it (rho (rfA A)) 2 s = A 5 s := by show rho (rfA A) (it (rho (rfA A)) 1 s) = _; rw [e1]; exact r1.2
  have e3 : it (rho (rfA A)) 3 s = ps A (A 5 s) := by show rho (rfA A) (it (rho (rfA A)) 2 s) = _; rw [e2]; exact r2.1
  rcases (show k = 1 ∨ k = 2 ∨ k = 3 by omega) with rfl | rfl | rfl
  · rw [e1]; omega
  · rw [e2]; exact bne
  · rw [e3]; omega
theorem rf_good (h : Good A) : Good (rfA A) := by
  refine fin_good ⟨?_, rf_GP h, rf_GB h, rf_GR h⟩
  show 0 ≤ A 0 2
  rw [h.2.1.1]
  exact cE_0 _ _
end RFA
