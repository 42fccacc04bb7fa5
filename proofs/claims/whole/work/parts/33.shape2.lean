/-- the memory's net has the plates, rings and steps back of the next level -/
def Pre5 (B A : Net) : Prop := B 0 0 = A 0 0 ∧ B 0 1 = A 0 1 ∧ (∀ f, 0 ≤ f → f ≤ B 0 1 → B 2 f = A 2 f) ∧ (∀ s, 0 ≤ s → s < nN B → B 3 s = A 3 s ∧ B 4 s = A 4 s ∧ B 5 s = A 5 s)
/-- Good of a net by another with the same steps -/
theorem Pre5.good {B A : Net} (h : Pre5 B A) (g : GC B) (d : DE B ∧ DD B) (da : DE A ∧ DD A) : Agr B A :=
  Agr.of ⟨h.1, h.2.1, h.2.2.1, fun s h0 h1 => (h.2.2.2 s h0 h1).1⟩ g d da (fun s h0 h1 => (h.2.2.2 s h0 h1).2.1) (fun s h0 h1 => (h.2.2.2 s h0 h1).2.2)

set_option maxRecDepth 100000 in
set_option maxHeartbeats 4000000 in
theorem l_shape35 {μ ν : Mm} {l : Int} (hg : Good (Nt μ l)) (hC : μ 11 l 0 ≤ capC l) (hP : μ 11 l 1 ≤ capP l) (hn : μ 13 l (μ 11 l 1) ≤ 2 * capE l) (hE : μ 11 l 2 ≤ capE l) (hE1 : μ 11 l 2 ≤ capC (l + 1)) (hP1 : μ 11 l 1 + μ 11 l 0 ≤ capP (l + 1)) (hn1 : μ 13 l (μ 11 l 1) ≤ capE (l + 1)) (hE2 : cE (rfA (Nt μ l) 5) (2 * μ 13 l (μ 11 l 1)) ≤ capE (l + 1)) (fr : ∀ k l1 i, ¬ (l1 = l + 1 ∧ 11 ≤ k ∧ k ≤ 20 ∧ k ≠ 12) → ν k l1 i = μ k l1 i) (h5 : Pre5 (rfA (Nt μ l)) (Nt ν (l + 1))) : Ev mX2_shapeFrom 2 35 [some (vR 11 (l + 1)), some (vR 11 l), none] [] ν (fun r μ' => r = none ∧ (∀ k l1 i, ¬ (l1 = l + 1 ∧ 11 ≤ k ∧ k ≤ 20 ∧ k ≠ 12) → μ' k l1 i = μ k l1 i) ∧ Agr (rfA (Nt μ l)) (Nt μ' (l + 1))) := by
  have hCc := capC_in l
  have hCp := capP_in l
  have hCe := capE_in l
  have hCc1 := capC_in (l + 1)
  have hCp1 := capP_in (l + 1)
  have hCe1 := capE_in (l + 1)
  have hG := rf_good hg
  have hnb : ν 13 (l + 1) (ν 11 (l + 1) 1) = 2 * μ 13 l (μ 11 l 1) := by
    have := SC.n (A := (rfA (Nt μ l))) (B := Nt ν (l + 1)) ⟨h5.1, h5.2.1, h5.2.2.1, fun s h0 h1 => (h5.2.2.2 s h0 h1).1⟩ hG.1.2.1.1
    rw [rf_n hg.1] at this
    exact this.symm
  have hnB : nN (rfA (Nt μ l)) = 2 * μ 13 l (μ 11 l 1) := rf_n hg.1
  have hn0 : 0 ≤ μ 13 l (μ 11 l 1) := hg.1.2.1.n0
  have e0 : ν 11 (l + 1) 0 = μ 11 l 2 := h5.1.symm
  have e1 : ν 11 (l + 1) 1 = μ 11 l 1 + μ 11 l 0 := h5.2.1.symm
  have hp0 : 0 ≤ μ 11 l 1 := hg.1.2.1.1
  have hc0 : 0 ≤ μ 11 l 0 := hg.1.1
  have he0 : 0 ≤ μ 11 l 2 := hG.1.1
  have h55 : ∀ s, 0 ≤ s → s < 2 * μ 13 l (μ 11 l 1) → ν 16 (l + 1) s = (rfA (Nt μ l)) 5 s := fun s a b => ((h5.2.2.2 s a (by rw [hnB]; exact b)).2.2).symm
  have hcE : cE (ν 16 (l + 1)) (2 * μ 13 l (μ 11 l 1)) = cE ((rfA (Nt μ l)) 5) (2 * μ 13 l (μ 11 l 1)) := cE_cg (n := 2 * μ 13 l (μ 11 l 1)) h55 (by omega)
  have hbk : ∀ s, 0 ≤ s → s < ν 13 (l + 1) (ν 11 (l + 1) 1) → (0 ≤ ν 16 (l + 1) s ∧ ν 16 (l + 1) s < ν 13 (l + 1) (ν 11 (l + 1) 1)) ∧ ν 16 (l + 1) (ν 16 (l + 1) s) = s ∧ ν 16 (l + 1) s ≠ s := by
    intro s a b
    rw [hnb] at b ⊢
    have z := hG.1.b1 (s := s) a (by rw [hnB]; exact b)
    have w := hG.1.bne (s := s) a (by rw [hnB]; exact b)
    rw [hnB] at z
    rw [h55 s a b, h55 _ z.2.1.1 z.2.1.2]
    exact ⟨z.2.1, z.2.2.1, w⟩
  refine e_aload_n 0 (dec_at dX2_shapeFrom 19) rfl rfl ?_
  refine e_callV (M' := mX2_numberEdges) (dec_at dX2_shapeFrom 20) mlX2_72 (c_numberEdges (μ := ν) (l + 1) (by omega) (by omega) hbk (by rw [hnb, hcE]; exact hE2)) oX2_numberEdges iX2_numberEdges rfl rfl rfl rfl (by decide) (by decide) (Nat.le_of_ble_eq_true rfl) (fun r ν1 hQ => ?_)
  obtain ⟨rfl, f1, f2, f3, f4⟩ := hQ
  refine e_mem (μ' := ν1) rfl ?_
  show Ev mX2_shapeFrom 2 39 _ [] ν1 _
  refine e_aload_n 0 (dec_at dX2_shapeFrom 21) rfl rfl ?_
  refine e_callV (M' := mX2_findDoors) (dec_at dX2_shapeFrom 22) mlX2_75 (c_findDoors (μ := ν1) (l + 1) (by rw [f1 11 _ 0 (by omega)]; omega) (by rw [f1 11 _ 1 (by omega)]; omega) (by rw [f1 11 _ 1 (by omega), f1 13 _ _ (by omega)]; omega) (fun s a b => by
      rw [f1 11 _ 1 (by omega), f1 13 _ _ (by omega), hnb] at b
      rw [f1 14 _ _ (by omega), f1 11 _ 0 (by omega)]
      have z1 := (h5.2.2.2 s a (by rw [hnB]; exact b)).1
      have z2 := h5.1
      have z3 := (hG.1.b1 (s := s) a (by rw [hnB]; exact b)).1
      rw [z1, z2] at z3
      exact z3)) oX2_findDoors iX2_findDoors rfl rfl rfl rfl (by decide) (by decide) (Nat.le_of_ble_eq_true rfl) (fun r ν2 hQ => ?_)
  obtain ⟨rfl, g1, g2⟩ := hQ
  show Ev mX2_shapeFrom 2 43 _ [] ν2 _
  refine e_return (dec_at dX2_shapeFrom 23) rfl ?_
  refine ⟨rfl, fun k l1 i z => ?_, ?_⟩
  · rw [g1 k l1 i (by omega), f1 k l1 i (by omega)]; exact fr k l1 i z
  · have E1 : ∀ (k : Nat) (i : Int), k ≠ 19 → k ≠ 20 → k ≠ 17 → k ≠ 18 → ¬ (k = 11 ∧ i = 2) → ν2 k (l + 1) i = ν k (l + 1) i := fun k i a b c d e => by rw [g1 k _ i (by omega), f1 k _ i (by omega)]
    have h5' : Pre5 (rfA (Nt μ l)) (Nt ν2 (l + 1)) := by
      refine ⟨h5.1.trans (E1 11 0 (by decide) (by decide) (by decide) (by decide) (by omega)).symm, h5.2.1.trans (E1 11 1 (by decide) (by decide) (by decide) (by decide) (by omega)).symm, fun f a b => (h5.2.2.1 f a b).trans (E1 13 f (by decide) (by decide) (by decide) (by decide) (by omega)).symm, fun s a b => ?_⟩
      have z := h5.2.2.2 s a b
      exact ⟨z.1.trans (E1 14 s (by decide) (by decide) (by decide) (by decide) (by omega)).symm, z.2.1.trans (E1 15 s (by decide) (by decide) (by decide) (by decide) (by omega)).symm, z.2.2.trans (E1 16 s (by decide) (by decide) (by decide) (by decide) (by omega)).symm⟩
    have f0 : ∀ i, ν1 16 (l + 1) i = ν 16 (l + 1) i := fun i => f1 16 _ i (by omega)
    have x0 : ν2 11 (l + 1) 0 = ν 11 (l + 1) 0 := E1 11 0 (by decide) (by decide) (by decide) (by decide) (by omega)
    have x1 : ν2 11 (l + 1) 1 = ν 11 (l + 1) 1 := E1 11 1 (by decide) (by decide) (by decide) (by decide) (by omega)
    have x13 : ∀ i, ν2 13 (l + 1) i = ν 13 (l + 1) i := fun i => E1 13 i (by decide) (by decide) (by decide) (by decide) (by omega)
    have x14 : ν2 14 (l + 1) = ν 14 (l + 1) := funext (fun i => E1 14 i (by decide) (by decide) (by decide) (by decide) (by omega))
    have x16 : ν2 16 (l + 1) = ν 16 (l + 1) := funext (fun i => E1 16 i (by decide) (by decide) (by decide) (by decide) (by omega))
    have y14 : ν1 14 (l + 1) = ν 14 (l + 1) := funext (fun i => f1 14 _ i (by omega))
    have y17 : ∀ i, ν2 17 (l + 1) i = ν1 17 (l + 1) i := fun i => g1 17 _ i (by omega)
    have xn : nN (Nt ν2 (l + 1)) = ν 13 (l + 1) (ν 11 (l + 1) 1) := by
      show ν2 13 (l + 1) (ν2 11 (l + 1) 1) = _
      rw [x1, x13]
    have yn : ν1 13 (l + 1) (ν1 11 (l + 1) 1) = ν 13 (l + 1) (ν 11 (l + 1) 1) := by rw [f1 11 _ 1 (by omega), f1 13 _ _ (by omega)]
    refine h5'.good hG.1 hG.2 ⟨⟨?_, fun s a b => ?_, fun s a b c => ?_⟩, fun c a b => ?_⟩
    · show ν2 11 (l + 1) 2 = cE (ν2 16 (l + 1)) (nN (Nt ν2 (l + 1)))
      rw [g1 11 _ 2 (by omega), f2, x16, xn]
    · show ν2 17 (l + 1) s = if ν2 16 (l + 1) s < s then cE (ν2 16 (l + 1)) (ν2 16 (l + 1) s) else cE (ν2 16 (l + 1)) s
      rw [xn] at b
      rw [y17, x16]
      exact f3 s a b
    · rw [xn] at b
      show ν2 18 (l + 1) (cE (ν2 16 (l + 1)) s) = s
      have c : fm (ν2 16 (l + 1)) s := c
      rw [x16] at c ⊢
      rw [g1 18 _ _ (by omega)]
      exact f4 s a b c
    · have b : c < ν2 11 (l + 1) 0 := b
      rw [x0] at b
      have z := g2 c a (by rw [f1 11 _ 0 (by omega)]; exact b)
      rw [yn, y14] at z
      have e2 : (deg (Nt ν2 (l + 1)) c) = ct (fun t => ν 14 (l + 1) t = c) (ν 13 (l + 1) (ν 11 (l + 1) 1)).toNat := by
        unfold deg
        rw [xn]
        show ct (fun s => ν2 14 (l + 1) s = c) _ = _
        rw [x14]
      have e3 := h5'.2.2.2
      have d3 : 3 ≤ deg (rfA (Nt μ l)) c := (hG.door (c := c) a (by rw [h5.1]; exact b)).2.2.1
      have e4 : deg (rfA (Nt μ l)) c = deg (Nt ν2 (l + 1)) c := SC.dge (A := (rfA (Nt μ l))) (B := Nt ν2 (l + 1)) ⟨h5'.1, h5'.2.1, h5'.2.2.1, fun s h0 h1 => (h5'.2.2.2 s h0 h1).1⟩ hG.1.2.1.1 c
      have z2 := z.2 (by rw [← e2, ← e4]; omega)
      refine ⟨by rw [e2]; exact z.1, by rw [xn]; exact z2.1, ?_, fun s p q r => ?_⟩
      · show ν2 14 (l + 1) (ν2 20 (l + 1) c) = c
        rw [x14]; exact z2.2.1
      · show ν2 17 (l + 1) (ν2 20 (l + 1) c) ≤ ν2 17 (l + 1) s
        rw [xn] at q
        have r : ν2 14 (l + 1) s = c := r
        rw [x14] at r
        rw [y17, y17]
        exact z2.2.2 s p q r

set_option maxRecDepth 100000 in
set_option maxHeartbeats 4000000 in
theorem l_shape15 {μ : Mm} {l : Int} (hg : Good (Nt μ l)) (hC : μ 11 l 0 ≤ capC l) (hP : μ 11 l 1 ≤ capP l) (hn : μ 13 l (μ 11 l 1) ≤ 2 * capE l) (hE : μ 11 l 2 ≤ capE l) (hE1 : μ 11 l 2 ≤ capC (l + 1)) (hP1 : μ 11 l 1 + μ 11 l 0 ≤ capP (l + 1)) (hn1 : μ 13 l (μ 11 l 1) ≤ capE (l + 1)) (hE2 : cE (rfA (Nt μ l) 5) (2 * μ 13 l (μ 11 l 1)) ≤ capE (l + 1)) : ∀ (q : Nat) (c : Int) (ν : Mm), (μ 11 l 0 - c).toNat = q → 0 ≤ c → c ≤ μ 11 l 0 → (∀ k l1 i, ¬ (l1 = l + 1 ∧ 11 ≤ k ∧ k ≤ 20 ∧ k ≠ 12) → ν k l1 i = μ k l1 i) → ν 11 (l + 1) 0 = μ 11 l 2 → ν 11 (l + 1) 1 = μ 11 l 1 + c → (∀ f, 0 ≤ f → f ≤ μ 11 l 1 → ν 13 (l + 1) f = μ 13 l f) → (∀ j, 0 ≤ j → j ≤ c → ν 13 (l + 1) (μ 11 l 1 + j) = st (Nt μ l) j) → (∀ s, 0 ≤ s → s < μ 13 l (μ 11 l 1) → ν 14 (l + 1) s = μ 17 l s ∧ ν 15 (l + 1) s = μ 15 l s) → (∀ s, μ 13 l (μ 11 l 1) ≤ s → s < st (Nt μ l) c → ν 14 (l + 1) s = μ 17 l (un (Nt μ l) s) ∧ ν 15 (l + 1) s = μ 11 l 1 + crn (Nt μ l) s ∧ ν 16 (l + 1) s = pv (Nt μ l) (un (Nt μ l) s) ∧ ν 16 (l + 1) (pv (Nt μ l) (un (Nt μ l) s)) = s) → Ev mX2_shapeFrom 2 15 [some (vR 11 (l + 1)), some (vR 11 l), some (vI c)] [] ν (fun r μ' => r = none ∧ (∀ k l1 i, ¬ (l1 = l + 1 ∧ 11 ≤ k ∧ k ≤ 20 ∧ k ≠ 12) → μ' k l1 i = μ k l1 i) ∧ Agr (rfA (Nt μ l)) (Nt μ' (l + 1))) := by
  intro q
  induction q using Nat.strongRecOn with
  | _ q ih =>
  intro c ν hq h0 h1 fr hc hp hf hs hr hh
  have hCc := capC_in l
  have hCp := capP_in l
  have hCe := capE_in l
  have hCc1 := capC_in (l + 1)
  have hCp1 := capP_in (l + 1)
  have hCe1 := capE_in (l + 1)
  have hss := st_s hg.1 c
  have hm1 : c + 1 ≤ μ 11 l 0 → st (Nt μ l) (c + 1) ≤ st (Nt μ l) (μ 11 l 0) := fun z => st_mono hg.1 _ (c + 1) (μ 11 l 0) rfl z
  have hm0 := st_mono hg.1 _ 0 c rfl h0
  have hsC : st (Nt μ l) (μ 11 l 0) = 2 * μ 13 l (μ 11 l 1) := st_C hg.1
  have hs0 : st (Nt μ l) 0 = μ 13 l (μ 11 l 1) := st_0 hg.1
  have hp0 : 0 ≤ μ 11 l 1 := hg.1.2.1.1
  have hcr : 0 ≤ μ 11 l 0 ∧ μ 11 l 0 ≤ capC l := ⟨hg.1.1, hC⟩
  have hNe : ∀ k i, ν k l i = μ k l i := fun k i => fr k l i (by omega)
  have hNt : Nt ν l = Nt μ l := by funext j i; exact hNe _ _
  refine e_iload_n 2 (dec_at dX2_shapeFrom 9) rfl rfl ?_
  refine e_aload_n 1 (dec_at dX2_shapeFrom 10) rfl rfl ?_
  refine e_getiv 0 0 (μ 11 l 0) (dec_at dX2_shapeFrom 11) flX2_39 rfl rfl rfl (by exact hNe 11 0) (fun r17 => ?_)
  refine e_icmp_ge 35 (dec_at dX2_shapeFrom 12) (by decide) (by omega) (by omega) (fun h20 => ?_) (fun h20 => ?_)
  · obtain rfl : c = μ 11 l 0 := by omega
    rw [hsC] at hh
    refine e_le [some (vR 11 (l + 1)), some (vR 11 l), none] (by simp [leL]) (l_shape35 (μ := μ) (ν := ν) hg hC hP hn hE hE1 hP1 hn1 hE2 fr ⟨hc.symm, hp.symm, fun f a b => ?_, fun s a b => ?_⟩)
    · have b : f ≤ μ 11 l 1 + μ 11 l 0 := b
      show rfA (Nt μ l) 2 f = ν 13 (l + 1) f
      by_cases q : f ≤ μ 11 l 1
      · rw [rf_fst hg.1 (show f ≤ (Nt μ l) 0 1 from q), hf f a q]; rfl
      · have e := rf_st hg.1 (c := f - μ 11 l 1) (by omega)
        rw [show (Nt μ l) 0 1 + (f - μ 11 l 1) = f by show μ 11 l 1 + (f - μ 11 l 1) = f; omega] at e
        have e2 := hs (f - μ 11 l 1) (by omega) (by omega)
        rw [show μ 11 l 1 + (f - μ 11 l 1) = f by omega] at e2
        rw [e, e2]
    · rw [rf_n hg.1] at b
      have b : s < 2 * μ 13 l (μ 11 l 1) := b
      by_cases q : s < μ 13 l (μ 11 l 1)
      · have z := hr s a q
        refine ⟨?_, ?_, ?_⟩
        · rw [rf_3l (A := (Nt μ l)) q]; exact z.1.symm
        · rw [rf_4l (A := (Nt μ l)) q]; exact z.2.symm
        · rw [rf_5l (A := (Nt μ l)) q]
          have w := hg.1.2.1.nxr a q
          have u := un_ps hg w.1.1 w.1.2
          have v := (hh _ u.1.1 u.1.2).2.2.2
          rw [u.2, hg.1.2.1.pvnx a q] at v
          exact v.symm
      · have z := hh s (by omega) b
        refine ⟨?_, ?_, ?_⟩
        · rw [rf_3h (A := (Nt μ l)) (by show μ 13 l (μ 11 l 1) ≤ s; omega)]; exact z.1.symm
        · rw [rf_4h (A := (Nt μ l)) (by show μ 13 l (μ 11 l 1) ≤ s; omega)]; exact z.2.1.symm
        · rw [rf_5h (A := (Nt μ l)) (by show μ 13 l (μ 11 l 1) ≤ s; omega)]; exact z.2.2.1.symm
  · refine e_aload_n 0 (dec_at dX2_shapeFrom 13) rfl rfl ?_
    refine e_aload_n 1 (dec_at dX2_shapeFrom 14) rfl rfl ?_
    refine e_iload_n 2 (dec_at dX2_shapeFrom 15) rfl rfl ?_
    refine e_callV (M' := mX2_addCornerPlate) (dec_at dX2_shapeFrom 16) mlX2_68 (c_addCornerPlate (μ := ν) l c (by rw [hNt]; exact hg) (by rw [hNe]; exact hC) (by rw [hNe]; exact hP) (by rw [hNe, hNe]; exact hn) (by rw [hNe]; exact hE) (by rw [hNe]; exact hE1) (by rw [hNe, hNe]; exact hP1) (by rw [hNe, hNe]; exact hn1) h0 (by rw [hNe]; omega) (by rw [hNe]; exact hp) (by rw [hNe, hNt]; exact hs c h0 (by omega))) oX2_addCornerPlate iX2_addCornerPlate rfl rfl rfl rfl (by decide) (by decide) (Nat.le_of_ble_eq_true rfl) (fun r ν1 hQ => ?_)
    rw [hNt, show ν 11 l 1 = μ 11 l 1 from hNe 11 1] at hQ
    rw [show ν 17 l = μ 17 l from funext (hNe 17)] at hQ
    obtain ⟨rfl, f1, f2, f3, f4, f5⟩ := hQ
    show Ev mX2_shapeFrom 2 29 _ [] ν1 _
    refine e_ii2 (dec_at dX2_shapeFrom 17) (by decide) rfl ?_
    refine e_goto 15 (dec_at dX2_shapeFrom 18) (by decide) ?_
    have hm2 := hm1 (by omega)
    refine ih _ (by omega) (c + 1) ν1 rfl (by omega) (by omega) (fun k l1 i z => ?_) ?_ ?_ (fun f a b => ?_) (fun j a b => ?_) (fun s a b => ?_) (fun s a b => ?_)
    · by_cases q : l1 = l + 1
      · subst q
        rw [f1 k _ i (by omega)]; exact fr k _ i z
      · rw [f1 k l1 i (by omega)]; exact fr k l1 i z
    · rw [f1 11 _ 0 (by omega)]; exact hc
    · rw [f3]; omega
    · rw [f1 13 _ f (by omega)]; exact hf f a b
    · by_cases q : j = c + 1
      · subst q
        rw [show μ 11 l 1 + (c + 1) = μ 11 l 1 + c + 1 by omega]; exact f4
      · rw [f1 13 _ _ (by omega)]; exact hs j a (by omega)
    · rw [f1 14 _ s (by omega), f1 15 _ s (by omega)]; exact hr s a b
    · by_cases q : st (Nt μ l) c ≤ s
      · have z := f5 s q b
        rw [crn_u hg.1 h0 (show c < (Nt μ l) 0 0 from (by show c < μ 11 l 0; omega)) q b]
        exact z
      · have z := hh s a (by omega)
        have hsr := un_r hg (s := s) a (by show s < 2 * μ 13 l (μ 11 l 1); omega)
        have hsv := hg.1.2.1.pvr hsr.1.1 hsr.1.2
        have hsv1 : 0 ≤ pv (Nt μ l) (un (Nt μ l) s) ∧ pv (Nt μ l) (un (Nt μ l) s) < μ 13 l (μ 11 l 1) := hsv.1
        refine ⟨by rw [f1 14 _ s (by omega)]; exact z.1, by rw [f1 15 _ s (by omega)]; exact z.2.1, ?_, ?_⟩
        · rw [f2 s (by omega) (fun t x y e => ?_)]
          · exact z.2.2.1
          · have htr := un_r hg (s := t) (by show μ 13 l (μ 11 l 1) ≤ t; omega) (by show t < 2 * μ 13 l (μ 11 l 1); omega)
            have htv := hg.1.2.1.pvr htr.1.1 htr.1.2
            have htv1 : 0 ≤ pv (Nt μ l) (un (Nt μ l) t) ∧ pv (Nt μ l) (un (Nt μ l) t) < μ 13 l (μ 11 l 1) := htv.1
            omega
        · rw [f2 _ (by omega) (fun t x y e => ?_)]
          · exact z.2.2.2
          · have htr := un_r hg (s := t) (by show μ 13 l (μ 11 l 1) ≤ t; omega) (by show t < 2 * μ 13 l (μ 11 l 1); omega)
            have e1 := hg.1.pvi hsr.1.1 hsr.1.2 htr.1.1 htr.1.2 e
            have e2 := ps_un hg (s := s) a (by show s < 2 * μ 13 l (μ 11 l 1); omega)
            have e3 := ps_un hg (s := t) (by show μ 13 l (μ 11 l 1) ≤ t; omega) (by show t < 2 * μ 13 l (μ 11 l 1); omega)
            rw [e1, e3] at e2
            omega

set_option maxRecDepth 100000 in
set_option maxHeartbeats 4000000 in
theorem c_shapeFrom {μ : Mm} (l : Int) (hg : Good (Nt μ l)) (hC : μ 11 l 0 ≤ capC l) (hP : μ 11 l 1 ≤ capP l) (hn : μ 13 l (μ 11 l 1) ≤ 2 * capE l) (hE : μ 11 l 2 ≤ capE l) (hE1 : μ 11 l 2 ≤ capC (l + 1)) (hP1 : μ 11 l 1 + μ 11 l 0 ≤ capP (l + 1)) (hn1 : μ 13 l (μ 11 l 1) ≤ capE (l + 1)) (hE2 : cE (rfA (Nt μ l) 5) (2 * μ 13 l (μ 11 l 1)) ≤ capE (l + 1)) : Mc mX2_shapeFrom 2 [vR 11 (l + 1), vR 11 l] μ (fun r μ' => r = none ∧ (∀ k l1 i, ¬ (l1 = l + 1 ∧ 11 ≤ k ∧ k ≤ 20 ∧ k ≠ 12) → μ' k l1 i = μ k l1 i) ∧ Agr (rfA (Nt μ l)) (Nt μ' (l + 1))) := by
  refine Mc.of (L := [some (vR 11 (l + 1)), some (vR 11 l), none]) (by decide +kernel) (by simp [leL, entA, isLong, mX2_shapeFrom]) (by simp [entA, isLong, mX2_shapeFrom]) ?_
  have hCc := capC_in l
  have hCp := capP_in l
  have hCe := capE_in l
  have hCc1 := capC_in (l + 1)
  have hCp1 := capP_in (l + 1)
  have hCe1 := capE_in (l + 1)
  have nb := hg.nb hC hP hn hE
  have hp0 : 0 ≤ μ 11 l 1 := hg.1.2.1.1
  have hcr : 0 ≤ μ 11 l 0 ∧ μ 11 l 0 ≤ capC l := ⟨hg.1.1, hC⟩
  have hn0 : 0 ≤ μ 13 l (μ 11 l 1) := hg.1.2.1.n0
  have hs0 : st (Nt μ l) 0 = μ 13 l (μ 11 l 1) := st_0 hg.1
  have hNe : ∀ k i, mset μ 11 (l + 1) 0 (μ 11 l 2) k l i = μ k l i := fun k i => mset_l (by omega)
  refine e_aload_n 0 (dec_at dX2_shapeFrom 0) rfl rfl ?_
  refine e_aload_n 1 (dec_at dX2_shapeFrom 1) rfl rfl ?_
  refine e_geti 2 2 (dec_at dX2_shapeFrom 2) flX2_61 rfl rfl rfl (fun r2 => ?_)
  refine e_put 0 0 (dec_at dX2_shapeFrom 3) flX2_39 fpX2_0 rfl rfl rfl (by omega) (fit_int _) ?_
  refine e_aload_n 0 (dec_at dX2_shapeFrom 4) rfl rfl ?_
  refine e_aload_n 1 (dec_at dX2_shapeFrom 5) rfl rfl ?_
  refine e_callV (M' := mX2_shrinkPlates) (dec_at dX2_shapeFrom 6) mlX2_64 (c_shrinkPlates (μ := mset μ 11 (l + 1) 0 (μ 11 l 2)) l (by rw [hNe]; omega) (by rw [hNe]; omega) (by rw [hNe, hNe]; omega) (by rw [hNe, hNe]; omega)) oX2_shrinkPlates iX2_shrinkPlates rfl rfl rfl rfl (by decide) (by decide) (Nat.le_of_ble_eq_true rfl) (fun r ν hQ => ?_)
  rw [show (mset μ 11 (l + 1) 0 (μ 11 l 2)) 11 l 1 = μ 11 l 1 from hNe 11 1] at hQ
  rw [show (mset μ 11 (l + 1) 0 (μ 11 l 2)) 13 l = μ 13 l from funext (hNe 13), show (mset μ 11 (l + 1) 0 (μ 11 l 2)) 17 l = μ 17 l from funext (hNe 17), show (mset μ 11 (l + 1) 0 (μ 11 l 2)) 15 l = μ 15 l from funext (hNe 15)] at hQ
  obtain ⟨rfl, f1, f2, f3, f4⟩ := hQ
  show Ev mX2_shapeFrom 2 13 _ [] ν _
  refine e_iconst (dec_at dX2_shapeFrom 7) ?_
  refine e_is2 (dec_at dX2_shapeFrom 8) (by decide) rfl ?_
  refine l_shape15 hg hC hP hn hE hE1 hP1 hn1 hE2 _ 0 ν rfl (by omega) (by omega) (fun k l1 i z => ?_) ?_ (by rw [f2]; omega) (fun f a b => f3 f a (by omega)) (fun j a b => ?_) f4 (fun s a b => by omega)
  · rw [f1 k l1 i (by omega), mset_ne (by omega)]
  · rw [f1 11 _ 0 (by omega), mset_eq]
  · obtain rfl : j = 0 := by omega
    rw [Int.add_zero, f3 _ hp0 (by omega), hs0]
