/-! THE REFERENCE makes its levels -/
def FM (μ ν : Mm) : Prop := ∀ (k : Nat) (l1 i : Int), ¬ (l1 = 0 ∧ (k = 21 ∧ (i = 4 ∨ i = 5 ∨ i = 6 ∨ i = 16 ∨ i = 17) ∨ (k = 23 ∨ k = 24) ∧ i ≠ 0 ∨ k = 25 ∨ k = 26 ∧ 600 ≤ i ∨ (k = 27 ∨ k = 28) ∧ 160 ≤ i ∨ k = 29 ∧ 700 ≤ i ∨ k = 30 ∨ k = 31)) → ν k l1 i = μ k l1 i
theorem FM.rf {μ : Mm} : FM μ μ := fun _ _ _ _ => rfl
theorem FM.sb {μ ν : Mm} (f : FM μ ν) : SB μ ν := fun k j i z => f k j i (by omega)
def LMd (μ ν : Mm) (l : Nat) : Prop := MP ν l (lev (Nt μ 0) l) ∧ ∀ c a, 0 ≤ c → c < lev (Nt μ 0) l 0 0 → 0 ≤ a → a < 3 → gN ν l c a = nm μ l c a
def LEd (μ ν : Mm) (l : Nat) : Prop := ME ν l (lev (Nt μ 0) l)
def MKD (μ ν : Mm) : Prop := ν 21 0 4 = 0 ∧ IsF (Nt μ 0) (ν 21 0 5) (ν 21 0 6) ∧ (ν 21 0 5 = 0 → ∀ l : Nat, l < 4 → LMd μ ν l ∧ LEd μ ν l)
def JB (μ : Mm) : Prop := MP μ 0 (Nt μ 0) ∧ ∀ c a, 0 ≤ c → c < μ 11 0 0 → 0 ≤ a → a < 3 → gN μ 0 c a = μ 12 0 (3 * c + a)
def JC (μ : Mm) : Prop := μ 21 0 4 = 1 ∨ MKD μ μ
theorem Good.bas {A : Net} (h : Good A) : Bas A := ⟨h.1.1, h.1.2.1, fun s a b => (h.1.b1 a b).1⟩
theorem LMd.fe {μ ν ν1 : Mm} {j : Nat} {l : Int} (h : LMd μ ν j) (f : (∀ k l1 i, ¬ (l1 = 0 ∧ (k = 25 ∧ i = l ∨ (k = 30 ∨ k = 31) ∧ 350 * l ≤ i ∧ i < 350 * l + 350)) → ν1 k l1 i = ν k l1 i)) : LMd μ ν1 j := by
  refine ⟨h.1.fr (f 23 0 j (by omega)) (f 24 0 j (by omega)) (fun i _ _ => ⟨f 27 0 i (by omega), f 28 0 i (by omega)⟩) (fun i _ _ => f 29 0 i (by omega)), fun c a c0 c1 a0 a1 => ?_⟩
  unfold gN
  rw [f 26 0 _ (by omega)]; exact h.2 c a c0 c1 a0 a1
theorem LEd.fe {μ ν ν1 : Mm} {j : Nat} {l : Int} (h : LEd μ ν j) (hj : (j : Int) < l) (f : (∀ k l1 i, ¬ (l1 = 0 ∧ (k = 25 ∧ i = l ∨ (k = 30 ∨ k = 31) ∧ 350 * l ≤ i ∧ i < 350 * l + 350)) → ν1 k l1 i = ν k l1 i)) : LEd μ ν1 j := by
  have b := h.1
  refine ⟨b, by rw [f 25 0 j (by omega)]; exact h.2.1, fun e e0 e1 => ?_⟩
  unfold gA gB
  rw [f 30 0 _ (by omega), f 31 0 _ (by omega)]; exact h.2.2 e e0 e1
theorem LMd.fu {μ ν ν1 : Mm} {j : Nat} {l : Int} (h : LMd μ ν j) (hj : (j : Int) ≤ l) (f : FU ν ν1 l) : LMd μ ν1 j := by
  refine ⟨f.mp hj h.1, fun c a c0 c1 a0 a1 => ?_⟩
  have b := h.1.1.2.2.2.2
  unfold gN
  rw [f 26 0 _ (by omega)]; exact h.2 c a c0 c1 a0 a1
theorem JB.up {μ : Mm} (h : JB μ) : LMd μ μ 0 := ⟨h.1, h.2⟩
theorem cap_num {l : Nat} (h : l < 4) : capC l ≤ 200 ∧ capP l ≤ 160 ∧ 2 * capE l ≤ 700 ∧ capE l ≤ 350 ∧ (l < 3 → capE l ≤ 200 ∧ capP l + capC l ≤ 160 ∧ 4 * capE l ≤ 700) := by
  rcases (show l = 0 ∨ l = 1 ∨ l = 2 ∨ l = 3 by omega) with rfl | rfl | rfl | rfl <;> decide

set_option maxRecDepth 100000 in
set_option maxHeartbeats 4000000 in
theorem l_make {μ : Mm} (hX : XB μ) (hN : XN μ) (hV : Mv μ) (jm : JM μ) : ∀ (q : Nat) (l : Nat) (ν : Mm), (4 - l) = q → l ≤ 4 → FM μ ν → ν 21 0 4 = 0 → ν 21 0 5 = 0 → IsF (Nt μ 0) 0 (ν 21 0 6) → (∀ j : Nat, j < l → LMd μ ν j ∧ LEd μ ν j) → (l < 4 → LMd μ ν l) → Ev mX6_make 5 26 [some (vR 21 0), some (vI (l : Int))] [] ν (fun r ν => r = none ∧ FM μ ν ∧ MKD μ ν) := by
  intro q
  induction q using Nat.strongRecOn with
  | _ q ih =>
  intro l ν hq h4 fm z4 z5 hF hd hl
  have g0 := (IsF.good hX.1 hF).1
  have gl := lev_good g0 l
  refine e_iload_n 1 (dec_at dX6_make 14) rfl rfl ?_
  refine e_iconst (dec_at dX6_make 15) ?_
  refine e_icmp_ge 52 (dec_at dX6_make 16) (by decide) (by omega) (by omega) (fun h28 => ?_) (fun h28 => ?_)
  · obtain rfl : l = 4 := by omega
    refine e_return (dec_at dX6_make 28) rfl ?_
    exact ⟨rfl, fm, z4, by rw [z5]; exact hF, fun _ => hd⟩
  · have hc := lev_cap g0 hX.2 l (by omega)
    have hcn := cap_num (l := l) (by omega)
    obtain ⟨hc1, hc2, hc3, hc4⟩ := hc
    refine e_aload_n 0 (dec_at dX6_make 17) rfl rfl ?_
    refine e_iload_n 1 (dec_at dX6_make 18) rfl rfl ?_
    refine e_callV (M' := mX6_findEdges) (dec_at dX6_make 19) mlX6_134 (m_findEdges (μ := ν) (B := lev (Nt μ 0) l) (l : Int) gl (hl (by omega)).1 (by omega)) oX6_findEdges iX6_findEdges rfl rfl rfl rfl (by decide) (by decide) (Nat.le_of_ble_eq_true rfl) (fun r ν1 hQ => ?_)
    obtain ⟨rfl, fe, me⟩ := hQ
    have fm1 : FM μ ν1 := fun k l1 i z => (fe k l1 i (by omega)).trans (fm k l1 i z)
    have hd1 : ∀ j : Nat, j < l → LMd μ ν1 j ∧ LEd μ ν1 j := fun j q => ⟨(hd j q).1.fe fe, (hd j q).2.fe (by omega) fe⟩
    have hl1 : LMd μ ν1 l := (hl (by omega)).fe fe
    show Ev mX6_make 5 36 _ [] ν1 _
    refine e_iload_n 1 (dec_at dX6_make 20) rfl rfl ?_
    refine e_iconst (dec_at dX6_make 21) ?_
    refine e_icmp_ge 46 (dec_at dX6_make 22) (by decide) (by omega) (by omega) (fun h38 => ?_) (fun h38 => ?_)
    · refine e_ii1 (dec_at dX6_make 26) (by decide) rfl ?_
      refine e_goto 26 (dec_at dX6_make 27) (by decide) ?_
      rw [show (l : Int) + 1 = ((l + 1 : Nat) : Int) by omega]
      refine ih _ (by omega) (l + 1) ν1 rfl (by omega) fm1 (by rw [fe 21 0 4 (by omega)]; exact z4) (by rw [fe 21 0 5 (by omega)]; exact z5) (by rw [fe 21 0 6 (by omega)]; exact hF) (fun j q => ?_) (fun q => by omega)
      by_cases e : j = l
      · subst e; exact ⟨hl1, me⟩
      · exact hd1 j (by omega)
    · have hcn2 := hcn.2.2.2.2 (by omega)
      have hRH : RH ν1 l (lev (Nt μ 0) l) := by
        refine ⟨gl, hl1.1, me, by omega, by omega, fm1.sb.mv hV, jm.fr (fun k i q => fm1 k 0 i (by omega)), fun c a c0 c1 a0 a1 => ?_⟩
        rw [hl1.2 c a c0 c1 a0 a1]
        have w := nm_in hN hV g0 l c a c0 c1 a0 a1
        have v := bnd_le l (by omega)
        omega
      refine e_aload_n 0 (dec_at dX6_make 23) rfl rfl ?_
      refine e_iload_n 1 (dec_at dX6_make 24) rfl rfl ?_
      refine e_callV (M' := mX6_refine) (dec_at dX6_make 25) mlX6_137 (m_refine (μ := ν1) (B := lev (Nt μ 0) l) (l : Int) hRH) oX6_refine iX6_refine rfl rfl rfl rfl (by decide) (by decide) (Nat.le_of_ble_eq_true rfl) (fun r ν2 hQ => ?_)
      obtain ⟨rfl, rs⟩ := hQ
      obtain ⟨fu, e24, e17, hFF, hRR, e23, hNN⟩ := rs
      have fm2 : FM μ ν2 := fun k l1 i z => (fu k l1 i (by omega)).trans (fm1 k l1 i z)
      have hd2 : ∀ j : Nat, j < l + 1 → LMd μ ν2 j ∧ LEd μ ν2 j := fun j q => by
        by_cases e : j = l
        · subst e; exact ⟨hl1.fu (Int.le_refl _) fu, fu.me me⟩
        · have w := hd1 j (by omega)
          exact ⟨w.1.fu (by omega) fu, fu.me w.2⟩
      have gl2 := rf_good gl
      have hl2 : LMd μ ν2 (l + 1) := by
        refine ⟨⟨⟨⟨by omega, by omega⟩, gl2.bas, ?_, ?_, ?_⟩, ?_, ?_, ?_, ?_⟩, ?_⟩
        · show lev (Nt μ 0) l 0 1 + lev (Nt μ 0) l 0 0 ≤ 160
          omega
        · show nN (rfA (lev (Nt μ 0) l)) ≤ 700
          rw [rf_n gl.1]; omega
        · show lev (Nt μ 0) l 0 2 ≤ 200
          omega
        · rw [show ((l + 1 : Nat) : Int) = (l : Int) + 1 by omega]; exact e23
        · rw [show ((l + 1 : Nat) : Int) = (l : Int) + 1 by omega]; exact e24
        · rw [show ((l + 1 : Nat) : Int) = (l : Int) + 1 by omega]; exact hFF
        · rw [show ((l + 1 : Nat) : Int) = (l : Int) + 1 by omega]; exact hRR
        · rw [show ((l + 1 : Nat) : Int) = (l : Int) + 1 by omega]
          intro c a c0 c1 a0 a1
          have c1 : c < lev (Nt μ 0) l 0 2 := c1
          have m := gl.mt c0 c1
          have x := gl.1.2.1.nxr m.1.1 m.1.2
          have b1 := (gl.1.b1 m.1.1 m.1.2).1
          have b2 := (gl.1.b1 x.1.1 x.1.2).1
          rw [hNN c a c0 c1 a0 a1, hl1.2 _ a b1.1 b1.2 a0 a1, hl1.2 _ a b2.1 b2.2 a0 a1, fm1.sb.mve]
          rfl
      show Ev mX6_make 5 46 _ [] ν2 _
      refine e_ii1 (dec_at dX6_make 26) (by decide) rfl ?_
      refine e_goto 26 (dec_at dX6_make 27) (by decide) ?_
      rw [show (l : Int) + 1 = ((l + 1 : Nat) : Int) by omega]
      exact ih _ (by omega) (l + 1) ν2 rfl (by omega) fm2 (by rw [fu 21 0 4 (by omega), fe 21 0 4 (by omega)]; exact z4) (by rw [fu 21 0 5 (by omega), fe 21 0 5 (by omega)]; exact z5) (by rw [fu 21 0 6 (by omega), fe 21 0 6 (by omega)]; exact hF) hd2 (fun _ => hl2)

set_option maxRecDepth 100000 in
set_option maxHeartbeats 4000000 in
theorem m_make {μ : Mm} (hX : XB μ) (hN : XN μ) (hV : Mv μ) (jm : JM μ) (jb : JB μ) (jc : JC μ) : Mc mX6_make 5 [vR 21 0] μ (fun r ν => r = none ∧ FM μ ν ∧ MKD μ ν) := by
  refine Mc.of (L := [some (vR 21 0), none]) (by decide +kernel) (by simp [leL, entA, isLong, mX6_make]) (by simp [entA, isLong, mX6_make]) ?_
  refine e_aload_n 0 (dec_at dX6_make 0) rfl rfl ?_
  refine e_geti 4 4 (dec_at dX6_make 1) flX6_50 rfl rfl rfl (fun r1 => ?_)
  refine e_if_ne 8 (dec_at dX6_make 2) (by decide) (by omega) (fun h4 => ?_) (fun h4 => ?_)
  · refine e_aload_n 0 (dec_at dX6_make 4) rfl rfl ?_
    refine e_iconst (dec_at dX6_make 5) ?_
    refine e_put 4 4 (dec_at dX6_make 6) flX6_50 fpX6_4 rfl rfl rfl (by omega) (fit_bool (by first | exact Or.inl rfl | exact Or.inr rfl)) ?_
    refine e_aload_n 0 (dec_at dX6_make 7) rfl rfl ?_
    refine e_callV (M' := mX6_look) (dec_at dX6_make 8) mlX6_131 (m_look (μ := mset μ 21 0 4 0) (A := Nt μ 0) (jb.1.fr0 (fun k i a b => mset_k (by omega)))) oX6_look iX6_look rfl rfl rfl rfl (by decide) (by decide) (Nat.le_of_ble_eq_true rfl) (fun r ν hQ => ?_)
    obtain ⟨rfl, fl, hF⟩ := hQ
    have fm : FM μ ν := fun k l1 i z => (fl k l1 i (by omega)).trans (mset_ne (by omega))
    have z4 : ν 21 0 4 = 0 := (fl 21 0 4 (by omega)).trans mset_eq
    show Ev mX6_make 5 17 _ [] ν _
    refine e_aload_n 0 (dec_at dX6_make 9) rfl rfl ?_
    refine e_geti 5 5 (dec_at dX6_make 10) flX6_99 rfl rfl rfl (fun r18 => ?_)
    refine e_if_ne 52 (dec_at dX6_make 11) (by decide) (by omega) (fun h21 => ?_) (fun h21 => ?_)
    · refine e_return (dec_at dX6_make 28) rfl ?_
      exact ⟨rfl, fm, z4, hF, fun q => absurd q h21⟩
    · refine e_iconst (dec_at dX6_make 12) ?_
      refine e_is1 (dec_at dX6_make 13) (by decide) rfl ?_
      refine l_make hX hN hV jm _ 0 ν rfl (by omega) fm z4 h21 (by rw [h21] at hF; exact hF) (fun j q => by omega) (fun _ => ?_)
      have lm := jb.up
      refine ⟨lm.1.fr (fm 23 0 _ (by omega)) (fm 24 0 _ (by omega)) (fun i _ _ => ⟨fm 27 0 i (by omega), fm 28 0 i (by omega)⟩) (fun i _ _ => fm 29 0 i (by omega)), fun c a c0 c1 a0 a1 => ?_⟩
      have b := lm.1.1.2.2.2.2
      unfold gN
      rw [fm 26 0 _ (by omega)]; exact lm.2 c a c0 c1 a0 a1
  · refine e_return (dec_at dX6_make 3) rfl ?_
    exact ⟨rfl, FM.rf, jc.resolve_left (fun q => by omega)⟩
