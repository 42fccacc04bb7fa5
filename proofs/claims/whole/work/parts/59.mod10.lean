/-! THE REFERENCE answers -/
theorem JB.fr {μ ν : Mm} (h : JB μ) (s : SB μ ν) (hX : XB μ) (f : ∀ (k : Nat) (i : Int), ((k = 23 ∨ k = 24) ∧ i = 0 ∨ k = 26 ∧ i < 600 ∨ (k = 27 ∨ k = 28) ∧ i < 160 ∨ k = 29 ∧ i < 700) → ν k 0 i = μ k 0 i) : JB ν := by
  have m := h.1.fr (ν := ν) (f 23 0 (by omega)) (f 24 0 (by omega)) (fun i a b => ⟨f 27 i (by omega), f 28 i (by omega)⟩) (fun i a b => f 29 i (by omega))
  have e0 : ν 11 0 0 = μ 11 0 0 := s 11 0 0 (by omega)
  have e1 : ν 11 0 1 = μ 11 0 1 := s 11 0 1 (by omega)
  have e13 : ∀ i, ν 13 0 i = μ 13 0 i := fun i => s 13 0 i (by omega)
  have e14 : ∀ i, ν 14 0 i = μ 14 0 i := fun i => s 14 0 i (by omega)
  have en : ν 13 0 (ν 11 0 1) = μ 13 0 (μ 11 0 1) := by rw [e13, e1]
  refine ⟨⟨⟨m.1.1, (s.xb hX).1, ?_, ?_, ?_⟩, ?_, ?_, fun g g0 g1 => ?_, fun t t0 t1 => ?_⟩, fun c a c0 c1 a0 a1 => ?_⟩
  · show ν 11 0 1 ≤ 160
    rw [e1]; exact m.1.2.2.1
  · show ν 13 0 (ν 11 0 1) ≤ 700
    rw [en]; exact m.1.2.2.2.1
  · show ν 11 0 0 ≤ 200
    rw [e0]; exact m.1.2.2.2.2
  · exact m.2.1.trans e0.symm
  · exact m.2.2.1.trans e1.symm
  · have g1 : g < ν 11 0 1 := g1
    rw [e1] at g1
    have w := m.2.2.2.1 g g0 g1
    exact ⟨w.1.trans (e13 g).symm, by rw [w.2]; show μ 13 0 (g + 1) - μ 13 0 g = ν 13 0 (g + 1) - ν 13 0 g; rw [e13, e13]⟩
  · have t1 : t < ν 13 0 (ν 11 0 1) := t1
    rw [en] at t1
    exact (m.2.2.2.2 t t0 t1).trans (e14 t).symm
  · rw [e0] at c1
    have hb := m.1.2.2.2.2
    have hb2 : μ 11 0 0 ≤ 200 := hb
    have w := h.2 c a c0 c1 a0 a1
    rw [s 12 0 _ (by omega), ← w]
    unfold gN
    rw [f 26 _ (by omega)]
/-- the reference's own state, right -/
def JSM (μ : Mm) : Prop := XB μ ∧ XN μ ∧ Mv μ ∧ JM μ ∧ JB μ ∧ JC μ
theorem MKD.jc {μ ν : Mm} (f : SB μ ν) (h : MKD μ ν) : JC ν := by
  refine Or.inr ⟨h.1, f.isf h.2.1, fun q l hl => ?_⟩
  have w := h.2.2 q l hl
  unfold LMd LEd at w ⊢
  rw [f.leve, f.nme]
  exact w
theorem JSM.go {μ ν : Mm} (h : JSM μ) (f : FM μ ν) (mk : MKD μ ν) : JSM ν :=
  ⟨f.sb.xb h.1, f.sb.xn h.2.1, f.sb.mv h.2.2.1, h.2.2.2.1.fr (fun k i q => f k 0 i (by omega)), h.2.2.2.2.1.fr f.sb h.1 (fun k i q => f k 0 i (by omega)), mk.jc f.sb⟩
/-- what is known of a level of the reference -/
def XMd (μ ν : Mm) (l : Int) : Prop := MP ν l (Lv μ l) ∧ ME ν l (Lv μ l) ∧ (∀ c a, 0 ≤ c → c < Lv μ l 0 0 → 0 ≤ a → a < 3 → gN ν l c a = Wn μ l c a ∧ (-15000 ≤ Wn μ l c a ∧ Wn μ l c a ≤ 15000)) ∧ Good (Lv μ l) ∧ ((0 ≤ l ∧ l ≤ 3) ∧ (1 ≤ Lv μ l 0 0 ∧ Lv μ l 0 0 ≤ 200) ∧ (0 ≤ Lv μ l 0 1 ∧ Lv μ l 0 1 ≤ 160) ∧ (0 ≤ nN (Lv μ l) ∧ nN (Lv μ l) ≤ 700) ∧ (0 ≤ Lv μ l 0 2 ∧ Lv μ l 0 2 ≤ 350))
theorem XM {μ ν : Mm} {l : Int} (h : JSM μ) (mk : MKD μ ν) (h5 : ν 21 0 5 = 0) (hl : 0 ≤ l ∧ l ≤ 3) : XMd μ ν l ∧ IsF (Nt μ 0) 0 (ν 21 0 6) := by
  have hF : IsF (Nt μ 0) 0 (ν 21 0 6) := by have z := mk.2.1; rw [h5] at z; exact z
  have hg := IsF.good h.1.1 hF
  obtain ⟨j, rfl⟩ : ∃ j : Nat, l = (j : Int) := ⟨l.toNat, by omega⟩
  have w := mk.2.2 h5 j (by omega)
  have gA := lev_good hg.1 j
  have c1 := gA.c1 (lev_pos hg.1 hg.2 j)
  have np := lev_pos hg.1 hg.2 j
  have hb := bnd_le j (by omega)
  have m := w.1.1
  have me := w.2
  refine ⟨⟨m, me, fun c a c0 c1 a0 a1 => ?_, gA, hl, ⟨c1, m.1.2.2.2.2⟩, ⟨m.gp.1, m.1.2.2.1⟩, ⟨Int.le_of_lt np, m.1.2.2.2.1⟩, me.1⟩, hF⟩
  have z := nm_in h.2.1 h.2.2.1 hg.1 j c a c0 c1 a0 a1
  refine ⟨w.1.2 c a c0 c1 a0 a1, ?_⟩
  show -15000 ≤ nm μ j c a ∧ nm μ j c a ≤ 15000
  omega
theorem XMd.mp {μ ν : Mm} {l : Int} (h : XMd μ ν l) : MP ν l (Lv μ l) := h.1
theorem XMd.nb {μ ν : Mm} {l : Int} (h : XMd μ ν l) : (0 ≤ l ∧ l ≤ 3) ∧ (1 ≤ Lv μ l 0 0 ∧ Lv μ l 0 0 ≤ 200) ∧ (0 ≤ Lv μ l 0 1 ∧ Lv μ l 0 1 ≤ 160) ∧ (0 ≤ nN (Lv μ l) ∧ nN (Lv μ l) ≤ 700) ∧ (0 ≤ Lv μ l 0 2 ∧ Lv μ l 0 2 ≤ 350) := h.2.2.2.2
theorem XMd.ed {μ ν : Mm} {l e : Int} (h : XMd μ ν l) (e0 : 0 ≤ e) (e1 : e < Lv μ l 0 2) : ν 30 0 (350 * l + e) = Lv μ l 3 (Lv μ l 7 e) ∧ ν 31 0 (350 * l + e) = Lv μ l 3 (nx (Lv μ l) (Lv μ l 7 e)) ∧ (0 ≤ Lv μ l 3 (Lv μ l 7 e) ∧ Lv μ l 3 (Lv μ l 7 e) < Lv μ l 0 0) ∧ (0 ≤ Lv μ l 3 (nx (Lv μ l) (Lv μ l 7 e)) ∧ Lv μ l 3 (nx (Lv μ l) (Lv μ l 7 e)) < Lv μ l 0 0) := by
  have w := h.2.1.2.2 e e0 e1
  have m := h.2.2.2.1.mt e0 e1
  have r := h.1.rg m.1.1 m.1.2
  exact ⟨w.1, w.2, r.1, r.2.2⟩
theorem XMd.bd {μ ν : Mm} {l c a : Int} (h : XMd μ ν l) (hc : 0 ≤ c ∧ c < Lv μ l 0 0) (ha : 0 ≤ a ∧ a < 3) : -15000 ≤ Wn μ l c a ∧ Wn μ l c a ≤ 15000 := (h.2.2.1 c a hc.1 hc.2 ha.1 ha.2).2
theorem m_num {μ ν : Mm} {l : Int} (h : XMd μ ν l) (c a : Int) (hc : 0 ≤ c ∧ c < Lv μ l 0 0) (ha : 0 ≤ a ∧ a < 3) : Mc mX6_number 0 [vR 21 0, vI l, vI c, vI a] ν (Rt (some (vI (Wn μ l c a))) ν) := by
  have nb := h.nb
  exact Mc.rt (m_number l c a nb.1 ⟨hc.1, by omega⟩ ha) (by rw [(h.2.2.1 c a hc.1 hc.2 ha.1 ha.2).1]) rfl
abbrev MA (μ : Mm) (f : Int → Vv) : Option Vv → Mm → Prop := fun r ν => FM μ ν ∧ JSM ν ∧ ∀ k p, IsF (Nt μ 0) k p → r = some (f k)
/-- as many edges meet a corner as steps start there -/
theorem ed_deg {B : Net} (g : Good B) (hE : 0 ≤ B 0 2) {c : Int} (c0 : 0 ≤ c) (c1 : c < B 0 0) : ctz (fun e => B 3 (B 7 e) = c ∨ B 3 (nx B (B 7 e)) = c) (B 0 2) = B 8 c := by
  obtain ⟨d1, d2, d3, d4, d5, d6, d7⟩ := g.door c0 c1
  have hr : ∀ i : Nat, (0 ≤ it (rho B) i (B 9 c) ∧ it (rho B) i (B 9 c) < nN B) ∧ B 3 (it (rho B) i (B 9 c)) = c := fun i => by
    have z := g.1.itr d1.1 d1.2 i
    exact ⟨z.1, z.2.trans d2⟩
  have hinj : ∀ i j : Nat, i < deg B c → j < deg B c → it (rho B) i (B 9 c) = it (rho B) j (B 9 c) → i = j := g.1.apart d1.1 d1.2 d5
  have a1 : deg B c ≤ ct (fun e => B 3 (B 7 e) = c ∨ B 3 (nx B (B 7 e)) = c) (B 0 2).toNat := by
    refine ct_inj _ _ (fun i => B 6 (it (rho B) i (B 9 c))) (fun i hi => ?_) (fun i j hi hj q => ?_)
    · have w := hr i
      have e := g.eor w.1.1 w.1.2
      refine ⟨⟨e.1, by omega⟩, ?_⟩
      rcases ed_is g w.1.1 w.1.2 with z | z
      · exact Or.inl (z.1.trans w.2)
      · exact Or.inr (z.2.trans w.2)
    · exact hinj i j hi hj (e6i g (hr i).1.1 (hr i).1.2 (hr j).1.1 (hr j).1.2 ((hr i).2.trans (hr j).2.symm) q)
  have a2 : ct (fun e => B 3 (B 7 e) = c ∨ B 3 (nx B (B 7 e)) = c) (B 0 2).toNat ≤ deg B c := by
    refine ct_cov _ _ (fun i => B 6 (it (rho B) i (B 9 c))) (fun e e0 e1 q => ?_)
    obtain ⟨s, hs, h3, h6⟩ := ed_at (s := 0) g e0 (by omega) q
    obtain ⟨i, hi, ei⟩ := d7 s hs.1 hs.2 h3
    exact ⟨i, hi, by show B 6 (it (rho B) i (B 9 c)) = e; rw [ei]; exact h6⟩
  rw [d4]
  unfold ctz
  omega

set_option maxRecDepth 100000 in
set_option maxHeartbeats 4000000 in
theorem m_isGood {μ : Mm} (hJ : JSM μ) : Mc mX6_isGood 6 [vR 21 0] μ (fun r ν => r = some (vI (b01 (ν 21 0 5 = 0))) ∧ FM μ ν ∧ MKD μ ν) := by
  refine Mc.of (L := [some (vR 21 0)]) (by decide +kernel) (by simp [leL, entA, isLong, mX6_isGood]) (by simp [entA, isLong, mX6_isGood]) ?_
  refine e_aload_n 0 (dec_at dX6_isGood 0) rfl rfl ?_
  refine e_callV (M' := mX6_make) (dec_at dX6_isGood 1) mlX6_140 (m_make hJ.1 hJ.2.1 hJ.2.2.1 hJ.2.2.2.1 hJ.2.2.2.2.1 hJ.2.2.2.2.2) oX6_make iX6_make rfl rfl rfl rfl (by decide) (by decide) (Nat.le_of_ble_eq_true rfl) (fun r ν hQ => ?_)
  obtain ⟨rfl, fm, mk⟩ := hQ
  show Ev mX6_isGood 6 4 _ [] ν _
  refine e_aload_n 0 (dec_at dX6_isGood 2) rfl rfl ?_
  refine e_geti 5 5 (dec_at dX6_isGood 3) flX6_99 rfl rfl rfl (fun r5 => ?_)
  refine e_if_ne 15 (dec_at dX6_isGood 4) (by decide) (by omega) (fun h8 => ?_) (fun h8 => ?_)
  · refine e_iconst (dec_at dX6_isGood 7) ?_
    refine e_zreturn (dec_at dX6_isGood 8) rfl (by first | exact Or.inl rfl | exact Or.inr rfl | exact b01_or) ?_
    exact ⟨by rw [b01_f h8], fm, mk⟩
  · refine e_iconst (dec_at dX6_isGood 5) ?_
    refine e_goto 16 (dec_at dX6_isGood 6) (by decide) ?_
    refine e_zreturn (dec_at dX6_isGood 8) rfl (by first | exact Or.inl rfl | exact Or.inr rfl | exact b01_or) ?_
    exact ⟨by rw [b01_t (by omega)], fm, mk⟩

set_option maxRecDepth 100000 in
set_option maxHeartbeats 4000000 in
theorem m_faceRefusal {μ : Mm} (l f : Int) (h_l : inR l) (h_f : inR f) (hJ : JSM μ) : Mc mX6_faceRefusal 7 [vR 21 0, vI l, vI f] μ (fun r ν => FM μ ν ∧ JSM ν ∧ ((¬ (0 ≤ l ∧ l ≤ 3) ∧ r = some (vI (-101))) ∨ ((0 ≤ l ∧ l ≤ 3) ∧ ν 21 0 5 ≠ 0 ∧ MKD μ ν ∧ r = some (vI (-103))) ∨ ((0 ≤ l ∧ l ≤ 3) ∧ ν 21 0 5 = 0 ∧ MKD μ ν ∧ ¬ (0 ≤ f ∧ f < Lv μ l 0 1) ∧ r = some (vI (-101))) ∨ ((0 ≤ l ∧ l ≤ 3) ∧ ν 21 0 5 = 0 ∧ MKD μ ν ∧ (0 ≤ f ∧ f < Lv μ l 0 1) ∧ r = some (vI 0)))) := by
  refine Mc.of (L := [some (vR 21 0), some (vI l), some (vI f)]) (by decide +kernel) (by simp [leL, entA, isLong, mX6_faceRefusal]) (by simp [entA, isLong, mX6_faceRefusal]) ?_
  refine e_iload_n 1 (dec_at dX6_faceRefusal 0) rfl rfl ?_
  refine e_callSr (M' := mX6_isLevel) (dec_at dX6_faceRefusal 1) mlX6_143 (m_isLevel l h_l) oX6_isLevel sX6_isLevel rfl rfl (by decide) (by decide) (Nat.le_of_ble_eq_true rfl) ?_
  refine e_bne 10 (dec_at dX6_faceRefusal 2) (by decide) (fun h4 => ?_) (fun h4 => ?_)
  · refine e_aload_n 0 (dec_at dX6_faceRefusal 5) rfl rfl ?_
    refine e_callV (M' := mX6_isGood) (dec_at dX6_faceRefusal 6) mlX6_149 (m_isGood hJ) oX6_isGood iX6_isGood rfl rfl rfl rfl (by decide) (by decide) (Nat.le_of_ble_eq_true rfl) (fun r ν hQ => ?_)
    obtain ⟨rfl, fm, mk⟩ := hQ
    show Ev mX6_faceRefusal 7 14 _ [vI (b01 (ν 21 0 5 = 0))] ν _
    refine e_bne 20 (dec_at dX6_faceRefusal 7) (by decide) (fun h14 => ?_) (fun h14 => ?_)
    · obtain ⟨X, hF⟩ := XM (l := l) hJ mk h14 (by omega)
      have nb := X.nb
      refine e_iload_n 2 (dec_at dX6_faceRefusal 10) rfl rfl ?_
      refine e_i2l (dec_at dX6_faceRefusal 11) (by omega) ?_
      refine e_lconst 0 (dec_at dX6_faceRefusal 12) rfl ?_
      refine e_aload_n 0 (dec_at dX6_faceRefusal 13) rfl rfl ?_
      refine e_getr 8 (dec_at dX6_faceRefusal 14) flX6_16 rfl rfl ?_
      refine e_iload_n 1 (dec_at dX6_faceRefusal 15) rfl rfl ?_
      refine e_ialdv (Lv μ l 0 1) (dec_at dX6_faceRefusal 16) rfl (by decide) (aLk_24 _) (by omega) (by exact X.mp.2.2.1) (fun r28 => ?_)
      refine e_iconst (dec_at dX6_faceRefusal 17) ?_
      refine e_isub (dec_at dX6_faceRefusal 18) ?_
      refine e_i2l (dec_at dX6_faceRefusal 19) (by omega) ?_
      refine e_callSr (M' := mX6_in) (dec_at dX6_faceRefusal 20) mlX6_59 (m_in f 0 (Lv μ l 0 1 - 1) (by omega) (by omega) (by omega)) oX6_in sX6_in rfl rfl (by decide) (by decide) (Nat.le_of_ble_eq_true rfl) ?_
      refine e_beq 42 (dec_at dX6_faceRefusal 21) (by decide) (fun h35 => ?_) (fun h35 => ?_)
      · refine e_bipush (dec_at dX6_faceRefusal 24) (by decide) ?_
        refine e_ireturn (dec_at dX6_faceRefusal 25) rfl ?_
        exact ⟨fm, hJ.go fm mk, Or.inr (Or.inr (Or.inl ⟨h4, h14, mk, by omega, rfl⟩))⟩
      · refine e_iconst (dec_at dX6_faceRefusal 22) ?_
        refine e_goto 44 (dec_at dX6_faceRefusal 23) (by decide) ?_
        refine e_ireturn (dec_at dX6_faceRefusal 25) rfl ?_
        exact ⟨fm, hJ.go fm mk, Or.inr (Or.inr (Or.inr ⟨h4, h14, mk, by omega, rfl⟩))⟩
    · refine e_bipush (dec_at dX6_faceRefusal 8) (by decide) ?_
      refine e_ireturn (dec_at dX6_faceRefusal 9) rfl ?_
      exact ⟨fm, hJ.go fm mk, Or.inr (Or.inl ⟨h4, h14, mk, rfl⟩)⟩
  · refine e_bipush (dec_at dX6_faceRefusal 3) (by decide) ?_
    refine e_ireturn (dec_at dX6_faceRefusal 4) rfl ?_
    exact ⟨FM.rf, hJ, Or.inl ⟨h4, rfl⟩⟩

set_option maxRecDepth 100000 in
set_option maxHeartbeats 4000000 in
theorem l_edgesAt {μ ν : Mm} {l c : Int} (X : XMd μ ν l) (hc : 0 ≤ c ∧ c < Lv μ l 0 0) : ∀ (q : Nat) (e : Int), (Lv μ l 0 2 - e).toNat = q → 0 ≤ e → e ≤ Lv μ l 0 2 → Ev mX6_edgesAt 0 5 [some (vR 21 0), some (vI l), some (vI c), some (vI (ctz (fun e => Lv μ l 3 (Lv μ l 7 e) = c ∨ Lv μ l 3 (nx (Lv μ l) (Lv μ l 7 e)) = c) e)), some (vI e)] [] ν (Rt (some (vI (Lv μ l 8 c))) ν) := by
  intro q
  induction q using Nat.strongRecOn with
  | _ q ih =>
  intro e hq e0 e1
  have nb := X.nb
  refine e_iload (dec_at dX6_edgesAt 4) rfl ?_
  refine e_aload_n 0 (dec_at dX6_edgesAt 5) rfl rfl ?_
  refine e_getr 9 (dec_at dX6_edgesAt 6) flX6_19 rfl rfl ?_
  refine e_iload_n 1 (dec_at dX6_edgesAt 7) rfl rfl ?_
  refine e_ialdv (Lv μ l 0 2) (dec_at dX6_edgesAt 8) rfl (by decide) (aLk_25 _) (by omega) (by exact X.2.1.2.1) (fun r12 => ?_)
  refine e_icmp_ge 64 (dec_at dX6_edgesAt 9) (by decide) (by omega) (by omega) (fun h13 => ?_) (fun h13 => ?_)
  · refine e_iload_n 3 (dec_at dX6_edgesAt 38) rfl rfl ?_
    refine e_ireturn (dec_at dX6_edgesAt 39) rfl ?_
    obtain rfl : e = Lv μ l 0 2 := by omega
    exact ⟨congrArg (fun z => some (vI z)) (ed_deg X.2.2.2.1 e0 hc.1 hc.2), rfl⟩
  · have E := X.ed (e := e) e0 (by omega)
    refine e_iload_n 3 (dec_at dX6_edgesAt 10) rfl rfl ?_
    refine e_aload_n 0 (dec_at dX6_edgesAt 11) rfl rfl ?_
    refine e_getr 14 (dec_at dX6_edgesAt 12) flX6_34 rfl rfl ?_
    refine e_sipush (dec_at dX6_edgesAt 13) (by decide) ?_
    refine e_iload_n 1 (dec_at dX6_edgesAt 14) rfl rfl ?_
    refine e_imul (dec_at dX6_edgesAt 15) ?_
    refine e_iload (dec_at dX6_edgesAt 16) rfl ?_
    refine e_iadd (dec_at dX6_edgesAt 17) ?_
    refine e_ialdv (Lv μ l 3 (Lv μ l 7 e)) (dec_at dX6_edgesAt 18) rfl (by decide) (aLk_30 _) (by omega) (by exact E.1) (fun r29 => ?_)
    refine e_iload_n 2 (dec_at dX6_edgesAt 19) rfl rfl ?_
    refine e_icmp_eq 51 (dec_at dX6_edgesAt 20) (by decide) (by omega) (by omega) (fun h31 => ?_) (fun h31 => ?_)
    · refine e_iconst (dec_at dX6_edgesAt 31) ?_
      refine e_goto 56 (dec_at dX6_edgesAt 32) (by decide) ?_
      refine e_iadd (dec_at dX6_edgesAt 34) ?_
      refine e_is3 (dec_at dX6_edgesAt 35) (by decide) rfl ?_
      refine e_ii4 (dec_at dX6_edgesAt 36) (by decide) rfl ?_
      refine e_goto 5 (dec_at dX6_edgesAt 37) (by decide) ?_
      rw [← ctz_t (p := fun e => Lv μ l 3 (Lv μ l 7 e) = c ∨ Lv μ l 3 (nx (Lv μ l) (Lv μ l 7 e)) = c) e0 (Or.inl h31)]
      exact ih _ (by omega) (e + 1) rfl (by omega) (by omega)
    · refine e_aload_n 0 (dec_at dX6_edgesAt 21) rfl rfl ?_
      refine e_getr 15 (dec_at dX6_edgesAt 22) flX6_37 rfl rfl ?_
      refine e_sipush (dec_at dX6_edgesAt 23) (by decide) ?_
      refine e_iload_n 1 (dec_at dX6_edgesAt 24) rfl rfl ?_
      refine e_imul (dec_at dX6_edgesAt 25) ?_
      refine e_iload (dec_at dX6_edgesAt 26) rfl ?_
      refine e_iadd (dec_at dX6_edgesAt 27) ?_
      refine e_ialdv (Lv μ l 3 (nx (Lv μ l) (Lv μ l 7 e))) (dec_at dX6_edgesAt 28) rfl (by decide) (aLk_31 _) (by omega) (by exact E.2.1) (fun r46 => ?_)
      refine e_iload_n 2 (dec_at dX6_edgesAt 29) rfl rfl ?_
      refine e_icmp_ne 55 (dec_at dX6_edgesAt 30) (by decide) (by omega) (by omega) (fun h48 => ?_) (fun h48 => ?_)
      · refine e_iconst (dec_at dX6_edgesAt 33) ?_
        refine e_iadd (dec_at dX6_edgesAt 34) ?_
        refine e_is3 (dec_at dX6_edgesAt 35) (by decide) rfl ?_
        refine e_ii4 (dec_at dX6_edgesAt 36) (by decide) rfl ?_
        refine e_goto 5 (dec_at dX6_edgesAt 37) (by decide) ?_
        rw [Int.add_zero, ← ctz_f (p := fun e => Lv μ l 3 (Lv μ l 7 e) = c ∨ Lv μ l 3 (nx (Lv μ l) (Lv μ l 7 e)) = c) e0 (fun q => by omega)]
        exact ih _ (by omega) (e + 1) rfl (by omega) (by omega)
      · refine e_iconst (dec_at dX6_edgesAt 31) ?_
        refine e_goto 56 (dec_at dX6_edgesAt 32) (by decide) ?_
        refine e_iadd (dec_at dX6_edgesAt 34) ?_
        refine e_is3 (dec_at dX6_edgesAt 35) (by decide) rfl ?_
        refine e_ii4 (dec_at dX6_edgesAt 36) (by decide) rfl ?_
        refine e_goto 5 (dec_at dX6_edgesAt 37) (by decide) ?_
        rw [← ctz_t (p := fun e => Lv μ l 3 (Lv μ l 7 e) = c ∨ Lv μ l 3 (nx (Lv μ l) (Lv μ l 7 e)) = c) e0 (Or.inr (by omega))]
        exact ih _ (by omega) (e + 1) rfl (by omega) (by omega)

set_option maxRecDepth 100000 in
set_option maxHeartbeats 4000000 in
theorem m_edgesAt {μ ν : Mm} {l : Int} (c : Int) (X : XMd μ ν l) (hc : 0 ≤ c ∧ c < Lv μ l 0 0) : Mc mX6_edgesAt 0 [vR 21 0, vI l, vI c] ν (Rt (some (vI (Lv μ l 8 c))) ν) := by
  refine Mc.of (L := [some (vR 21 0), some (vI l), some (vI c), none, none]) (by decide +kernel) (by simp [leL, entA, isLong, mX6_edgesAt]) (by simp [entA, isLong, mX6_edgesAt]) ?_
  have nb := X.nb
  refine e_iconst (dec_at dX6_edgesAt 0) ?_
  refine e_is3 (dec_at dX6_edgesAt 1) (by decide) rfl ?_
  refine e_iconst (dec_at dX6_edgesAt 2) ?_
  refine e_is4 (dec_at dX6_edgesAt 3) (by decide) rfl ?_
  exact l_edgesAt X hc _ 0 rfl (by omega) (by omega)

set_option maxRecDepth 100000 in
set_option maxHeartbeats 4000000 in
theorem m_solid {μ ν : Mm} {l : Int} (p q r : Int) (X : XMd μ ν l) (h_p : 0 ≤ p ∧ p < Lv μ l 0 0) (h_q : 0 ≤ q ∧ q < Lv μ l 0 0) (h_r : 0 ≤ r ∧ r < Lv μ l 0 0) : Mc mX6_solid 1 [vR 21 0, vI l, vI p, vI q, vI r] ν (Rt (some (vL (wdA (Wn μ l) p q r))) ν) := by
  refine Mc.of (L := [some (vR 21 0), some (vI l), some (vI p), some (vI q), some (vI r), none, none, none, none, none, none, none, none, none, none, none, none]) (by decide +kernel) (by simp [leL, entA, isLong, mX6_solid]) (by simp [entA, isLong, mX6_solid]) ?_
  refine e_aload_n 0 (dec_at dX6_solid 0) rfl rfl ?_
  refine e_iload_n 1 (dec_at dX6_solid 1) rfl rfl ?_
  refine e_iload_n 3 (dec_at dX6_solid 2) rfl rfl ?_
  refine e_iconst (dec_at dX6_solid 3) ?_
  refine e_callVr (M' := mX6_number) (dec_at dX6_solid 4) mlX6_161 (m_num X q 0 h_q (by omega)) oX6_number iX6_number rfl rfl rfl rfl (by decide) (by decide) (Nat.le_of_ble_eq_true rfl) ?_
  have z0 := X.bd (a := 0) h_q (by omega)
  refine e_i2l (dec_at dX6_solid 5) (by omega) ?_
  refine e_ls5 (dec_at dX6_solid 6) (by decide) rfl ?_
  refine e_aload_n 0 (dec_at dX6_solid 7) rfl rfl ?_
  refine e_iload_n 1 (dec_at dX6_solid 8) rfl rfl ?_
  refine e_iload_n 3 (dec_at dX6_solid 9) rfl rfl ?_
  refine e_iconst (dec_at dX6_solid 10) ?_
  refine e_callVr (M' := mX6_number) (dec_at dX6_solid 11) mlX6_161 (m_num X q 1 h_q (by omega)) oX6_number iX6_number rfl rfl rfl rfl (by decide) (by decide) (Nat.le_of_ble_eq_true rfl) ?_
  have z1 := X.bd (a := 1) h_q (by omega)
  refine e_i2l (dec_at dX6_solid 12) (by omega) ?_
  refine e_ls7 (dec_at dX6_solid 13) (by decide) rfl ?_
  refine e_aload_n 0 (dec_at dX6_solid 14) rfl rfl ?_
  refine e_iload_n 1 (dec_at dX6_solid 15) rfl rfl ?_
  refine e_iload_n 3 (dec_at dX6_solid 16) rfl rfl ?_
  refine e_iconst (dec_at dX6_solid 17) ?_
  refine e_callVr (M' := mX6_number) (dec_at dX6_solid 18) mlX6_161 (m_num X q 2 h_q (by omega)) oX6_number iX6_number rfl rfl rfl rfl (by decide) (by decide) (Nat.le_of_ble_eq_true rfl) ?_
  have z2 := X.bd (a := 2) h_q (by omega)
  refine e_i2l (dec_at dX6_solid 19) (by omega) ?_
  refine e_ls9 (dec_at dX6_solid 20) (by decide) rfl ?_
  refine e_aload_n 0 (dec_at dX6_solid 21) rfl rfl ?_
  refine e_iload_n 1 (dec_at dX6_solid 22) rfl rfl ?_
  refine e_iload (dec_at dX6_solid 23) rfl ?_
  refine e_iconst (dec_at dX6_solid 24) ?_
  refine e_callVr (M' := mX6_number) (dec_at dX6_solid 25) mlX6_161 (m_num X r 0 h_r (by omega)) oX6_number iX6_number rfl rfl rfl rfl (by decide) (by decide) (Nat.le_of_ble_eq_true rfl) ?_
  have z3 := X.bd (a := 0) h_r (by omega)
  refine e_i2l (dec_at dX6_solid 26) (by omega) ?_
  refine e_ls11 (dec_at dX6_solid 27) (by decide) rfl ?_
  refine e_aload_n 0 (dec_at dX6_solid 28) rfl rfl ?_
  refine e_iload_n 1 (dec_at dX6_solid 29) rfl rfl ?_
  refine e_iload (dec_at dX6_solid 30) rfl ?_
  refine e_iconst (dec_at dX6_solid 31) ?_
  refine e_callVr (M' := mX6_number) (dec_at dX6_solid 32) mlX6_161 (m_num X r 1 h_r (by omega)) oX6_number iX6_number rfl rfl rfl rfl (by decide) (by decide) (Nat.le_of_ble_eq_true rfl) ?_
  have z4 := X.bd (a := 1) h_r (by omega)
  refine e_i2l (dec_at dX6_solid 33) (by omega) ?_
  refine e_ls13 (dec_at dX6_solid 34) (by decide) rfl ?_
  refine e_aload_n 0 (dec_at dX6_solid 35) rfl rfl ?_
  refine e_iload_n 1 (dec_at dX6_solid 36) rfl rfl ?_
  refine e_iload (dec_at dX6_solid 37) rfl ?_
  refine e_iconst (dec_at dX6_solid 38) ?_
  refine e_callVr (M' := mX6_number) (dec_at dX6_solid 39) mlX6_161 (m_num X r 2 h_r (by omega)) oX6_number iX6_number rfl rfl rfl rfl (by decide) (by decide) (Nat.le_of_ble_eq_true rfl) ?_
  have z5 := X.bd (a := 2) h_r (by omega)
  refine e_i2l (dec_at dX6_solid 40) (by omega) ?_
  refine e_ls15 (dec_at dX6_solid 41) (by decide) rfl ?_
  refine e_aload_n 0 (dec_at dX6_solid 42) rfl rfl ?_
  refine e_iload_n 1 (dec_at dX6_solid 43) rfl rfl ?_
  refine e_iload_n 2 (dec_at dX6_solid 44) rfl rfl ?_
  refine e_iconst (dec_at dX6_solid 45) ?_
  refine e_callVr (M' := mX6_number) (dec_at dX6_solid 46) mlX6_161 (m_num X p 0 h_p (by omega)) oX6_number iX6_number rfl rfl rfl rfl (by decide) (by decide) (Nat.le_of_ble_eq_true rfl) ?_
  have z6 := X.bd (a := 0) h_p (by omega)
  refine e_i2l (dec_at dX6_solid 47) (by omega) ?_
  refine e_lload (dec_at dX6_solid 48) rfl ?_
  refine e_lload (dec_at dX6_solid 49) rfl ?_
  refine e_lmul (dec_at dX6_solid 50) ?_
  refine e_lload (dec_at dX6_solid 51) rfl ?_
  refine e_lload (dec_at dX6_solid 52) rfl ?_
  refine e_lmul (dec_at dX6_solid 53) ?_
  refine e_lsub (dec_at dX6_solid 54) ?_
  refine e_lmul (dec_at dX6_solid 55) ?_
  refine e_aload_n 0 (dec_at dX6_solid 56) rfl rfl ?_
  refine e_iload_n 1 (dec_at dX6_solid 57) rfl rfl ?_
  refine e_iload_n 2 (dec_at dX6_solid 58) rfl rfl ?_
  refine e_iconst (dec_at dX6_solid 59) ?_
  refine e_callVr (M' := mX6_number) (dec_at dX6_solid 60) mlX6_161 (m_num X p 1 h_p (by omega)) oX6_number iX6_number rfl rfl rfl rfl (by decide) (by decide) (Nat.le_of_ble_eq_true rfl) ?_
  have z7 := X.bd (a := 1) h_p (by omega)
  refine e_i2l (dec_at dX6_solid 61) (by omega) ?_
  refine e_lload (dec_at dX6_solid 62) rfl ?_
  refine e_lload (dec_at dX6_solid 63) rfl ?_
  refine e_lmul (dec_at dX6_solid 64) ?_
  refine e_lload (dec_at dX6_solid 65) rfl ?_
  refine e_lload (dec_at dX6_solid 66) rfl ?_
  refine e_lmul (dec_at dX6_solid 67) ?_
  refine e_lsub (dec_at dX6_solid 68) ?_
  refine e_lmul (dec_at dX6_solid 69) ?_
  refine e_ladd (dec_at dX6_solid 70) ?_
  refine e_aload_n 0 (dec_at dX6_solid 71) rfl rfl ?_
  refine e_iload_n 1 (dec_at dX6_solid 72) rfl rfl ?_
  refine e_iload_n 2 (dec_at dX6_solid 73) rfl rfl ?_
  refine e_iconst (dec_at dX6_solid 74) ?_
  refine e_callVr (M' := mX6_number) (dec_at dX6_solid 75) mlX6_161 (m_num X p 2 h_p (by omega)) oX6_number iX6_number rfl rfl rfl rfl (by decide) (by decide) (Nat.le_of_ble_eq_true rfl) ?_
  have z8 := X.bd (a := 2) h_p (by omega)
  refine e_i2l (dec_at dX6_solid 76) (by omega) ?_
  refine e_lload (dec_at dX6_solid 77) rfl ?_
  refine e_lload (dec_at dX6_solid 78) rfl ?_
  refine e_lmul (dec_at dX6_solid 79) ?_
  refine e_lload (dec_at dX6_solid 80) rfl ?_
  refine e_lload (dec_at dX6_solid 81) rfl ?_
  refine e_lmul (dec_at dX6_solid 82) ?_
  refine e_lsub (dec_at dX6_solid 83) ?_
  refine e_lmul (dec_at dX6_solid 84) ?_
  refine e_ladd (dec_at dX6_solid 85) ?_
  refine e_lreturn (dec_at dX6_solid 86) rfl ?_
  exact ⟨rfl, rfl⟩
