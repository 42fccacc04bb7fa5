/-- the numbers of the levels' corners -/
def nmF (lv : Nat → Net) (b0 : Int → Int) (mv : Int → Int → Int → Int) : Nat → Int → Int → Int
  | 0, c, a => b0 (3 * c + a)
  | l + 1, e, a => nmF lv b0 mv l (lv l 3 (lv l 7 e)) a + nmF lv b0 mv l (lv l 3 (nx (lv l) (lv l 7 e))) a + mv ((l : Int) + 1) e a
noncomputable def nm (μ : Mm) : Nat → Int → Int → Int := nmF (lev (Nt μ 0)) (μ 12 0) (mvx μ)
def XN (μ : Mm) : Prop := ∀ i, 0 ≤ i → i < 3 * μ 11 0 0 → -1000 ≤ μ 12 0 i ∧ μ 12 0 i ≤ 1000
def bnd : Nat → Int
  | 0 => 1000
  | l + 1 => 2 * bnd l + 1000
theorem nm_in {μ : Mm} (hN : XN μ) (hM : Mv μ) (g : Good (bN (Nt μ 0))) : ∀ (l : Nat) (c a : Int), 0 ≤ c → c < lev (Nt μ 0) l 0 0 → 0 ≤ a → a < 3 → -bnd l ≤ nm μ l c a ∧ nm μ l c a ≤ bnd l
  | 0, c, a, h0, h1, a0, a1 => by
    have h1 : c < μ 11 0 0 := h1
    exact hN (3 * c + a) (by omega) (by omega)
  | l + 1, e, a, h0, h1, a0, a1 => by
    have G := lev_good g l
    have h1 : e < lev (Nt μ 0) l 0 2 := h1
    have m := G.mt h0 h1
    have b := (G.1.b1 m.1.1 m.1.2).1
    have x := G.1.2.1.nxr m.1.1 m.1.2
    have y := (G.1.b1 x.1.1 x.1.2).1
    have i1 := nm_in hN hM g l _ a b.1 b.2 a0 a1
    have i2 := nm_in hN hM g l _ a y.1 y.2 a0 a1
    have v := mvx_in hM (L := (l : Int) + 1) (c := e) a0 a1
    show -(2 * bnd l + 1000) ≤ nm μ l _ a + nm μ l _ a + mvx μ ((l : Int) + 1) e a ∧ nm μ l _ a + nm μ l _ a + mvx μ ((l : Int) + 1) e a ≤ 2 * bnd l + 1000
    omega
theorem bnd_le : ∀ l : Nat, l < 4 → bnd l ≤ 15000 := by decide
/-- what the class remembers is right -/
def XC (μ : Mm) : Prop := (μ 3 0 4 = 0 ∧ μ 3 0 5 = 0 ∧ μ 3 0 6 = 0) ∨ (μ 3 0 4 = 1 ∧ IsF (Nt μ 0) (μ 5 0 1) (μ 5 0 2) ∧ (0 ≤ μ 3 0 6 ∧ μ 3 0 6 ≤ μ 3 0 5 ∧ μ 3 0 5 ≤ 3) ∧ (μ 5 0 1 ≠ 0 → μ 3 0 5 = 0) ∧ (μ 5 0 1 = 0 → (∀ l : Nat, (l : Int) ≤ μ 3 0 5 → Agr (lev (Nt μ 0) l) (Nt μ l)) ∧ (∀ l : Nat, (l : Int) ≤ μ 3 0 6 → ∀ c a, 0 ≤ c → c < μ 11 l 0 → 0 ≤ a → a < 3 → μ 12 l (3 * c + a) = nm μ l c a)))
/-- the same base, the same moves -/
def SB (μ ν : Mm) : Prop := ∀ (k : Nat) (l i : Int), (k = 7 ∨ k = 8 ∨ k = 9 ∨ k = 10 ∨ (l = 0 ∧ 11 ≤ k ∧ k ≤ 15 ∧ ¬ (k = 11 ∧ i = 2))) → ν k l i = μ k l i
section SBS
variable {μ ν : Mm}
theorem SB.bse (h : SB μ ν) : bs (Nt ν 0) = bs (Nt μ 0) :=
  bs_eq (h 11 0 0 (by omega)) (h 11 0 1 (by omega)) (funext (fun i => h 13 0 i (by omega))) (funext (fun i => h 14 0 i (by omega))) (funext (fun i => h 15 0 i (by omega)))
theorem SB.mve (h : SB μ ν) : mvx ν = mvx μ := by
  have e7 : ν 7 0 3 = μ 7 0 3 := h 7 0 3 (by omega)
  have e8 : ν 8 0 = μ 8 0 := funext (fun i => h 8 0 i (by omega))
  have e9 : ν 9 0 = μ 9 0 := funext (fun i => h 9 0 i (by omega))
  have e10 : ν 10 0 = μ 10 0 := funext (fun i => h 10 0 i (by omega))
  have eh : HM ν = HM μ := by
    funext L c i
    unfold HM
    rw [e7, e8, e9]
  funext L c a
  unfold mvx
  rw [eh, e10]
theorem SB.nme (h : SB μ ν) : nm ν = nm μ := by
  unfold nm
  rw [lev_cg h.bse, h.mve, show ν 12 0 = μ 12 0 from funext (fun i => h 12 0 i (by omega))]
theorem SB.leve (h : SB μ ν) : lev (Nt ν 0) = lev (Nt μ 0) := lev_cg h.bse
theorem SB.xb (h : SB μ ν) (g : XB μ) : XB ν := g.tr (fun k i a b c => h k 0 i (by omega))
theorem SB.xn (h : SB μ ν) (g : XN μ) : XN ν := by
  unfold XN at g ⊢
  rw [h 11 0 0 (by omega), show ν 12 0 = μ 12 0 from funext (fun i => h 12 0 i (by omega))]
  exact g
theorem SB.mv (h : SB μ ν) (g : Mv μ) : Mv ν := by
  have e7 : ν 7 0 3 = μ 7 0 3 := h 7 0 3 (by omega)
  have e8 : ν 8 0 = μ 8 0 := funext (fun i => h 8 0 i (by omega))
  have e9 : ν 9 0 = μ 9 0 := funext (fun i => h 9 0 i (by omega))
  have e10 : ν 10 0 = μ 10 0 := funext (fun i => h 10 0 i (by omega))
  unfold Mv ky at g ⊢
  rw [e7, e8, e9, e10]
  exact g
theorem SB.tr {ρ : Mm} (h : SB μ ν) (k : SB ν ρ) : SB μ ρ := fun a b c d => (k a b c d).trans (h a b c d)
theorem SB.isf (h : SB μ ν) {a b : Int} (g : IsF (Nt μ 0) a b) : IsF (Nt ν 0) a b := IsF_cg h.bse.symm g
end SBS
theorem cap_next {l : Int} (h0 : 0 ≤ l) (h1 : l < 3) : capE l ≤ capC (l + 1) ∧ capP l + capC l ≤ capP (l + 1) ∧ 2 * capE l ≤ capE (l + 1) := by
  rcases (show l = 0 ∨ l = 1 ∨ l = 2 by omega) with rfl | rfl | rfl <;> decide

set_option maxRecDepth 100000 in
set_option maxHeartbeats 4000000 in
theorem c_findFault {μ : Mm} (h : XB μ) (hx : XC μ) : Mc mX4_findFault 4 [vR 3 0] μ (fun r μ' => r = some (vI (μ' 5 0 1)) ∧ (∀ k l1 i, ¬ (k = 3 ∧ i = 4 ∨ k = 5 ∨ k = 6 ∨ (l1 = 0 ∧ (16 ≤ k ∧ k ≤ 20 ∨ k = 11 ∧ i = 2))) → μ' k l1 i = μ k l1 i) ∧ XC μ' ∧ μ' 3 0 4 = 1 ∧ inR (μ' 5 0 1)) := by
  refine Mc.of (L := [some (vR 3 0)]) (by decide +kernel) (by simp [leL, entA, isLong, mX4_findFault]) (by simp [entA, isLong, mX4_findFault]) ?_
  refine e_aload_n 0 (dec_at dX4_findFault 0) rfl rfl ?_
  refine e_geti 4 4 (dec_at dX4_findFault 1) flX4_38 rfl rfl rfl (fun r1 => ?_)
  refine e_if_ne 23 (dec_at dX4_findFault 2) (by decide) (by omega) (fun h4 => ?_) (fun h4 => ?_)
  · obtain hz | hz := hx
    · exact absurd hz.1 h4
    refine e_aload_n 0 (dec_at dX4_findFault 11) rfl rfl ?_
    refine e_getr 2 (dec_at dX4_findFault 12) flX4_27 rfl rfl ?_
    refine e_geti 1 1 (dec_at dX4_findFault 13) flX4_59 rfl rfl rfl (fun r27 => ?_)
    refine e_ireturn (dec_at dX4_findFault 14) rfl ?_
    exact ⟨rfl, fun _ _ _ _ => rfl, Or.inr hz, hz.1, r27⟩
  · have hz := hx.resolve_right (fun q => by omega)
    refine e_aload_n 0 (dec_at dX4_findFault 3) rfl rfl ?_
    refine e_getr 2 (dec_at dX4_findFault 4) flX4_27 rfl rfl ?_
    refine e_aload_n 0 (dec_at dX4_findFault 5) rfl rfl ?_
    refine e_getr 1 (dec_at dX4_findFault 6) flX4_20 rfl rfl ?_
    refine e_callV (M' := mX0_look) (dec_at dX4_findFault 7) mlX4_55 (c_look (μ := μ) h) oX0_look iX0_look rfl rfl rfl rfl (by decide) (by decide) (Nat.le_of_ble_eq_true rfl) (fun r ν hQ => ?_)
    obtain ⟨rfl, fr, hF, hA⟩ := hQ
    show Ev mX4_findFault 4 18 _ [] ν _
    refine e_aload_n 0 (dec_at dX4_findFault 8) rfl rfl ?_
    refine e_iconst (dec_at dX4_findFault 9) ?_
    refine e_put 4 4 (dec_at dX4_findFault 10) flX4_38 fpX4_4 rfl rfl rfl (by omega) (fit_bool (by first | exact Or.inl rfl | exact Or.inr rfl)) ?_
    refine e_aload_n 0 (dec_at dX4_findFault 11) rfl rfl ?_
    refine e_getr 2 (dec_at dX4_findFault 12) flX4_27 rfl rfl ?_
    refine e_geti 1 1 (dec_at dX4_findFault 13) flX4_59 rfl rfl rfl (fun r27 => ?_)
    refine e_ireturn (dec_at dX4_findFault 14) rfl ?_
    have hSB : SB μ (mset ν 3 0 4 1) := fun k l i z => by rw [mset_k (by omega)]; exact fr k l i (by omega)
    have hNl : Nt (mset ν 3 0 4 1) 0 = Nt ν 0 := Nt_eq (fun k i z => mset_k (by omega))
    refine ⟨rfl, fun k l1 i z => ?_, Or.inr ⟨mset_eq, ?_, ?_, ?_, fun z => ⟨fun l hl => ?_, fun l hl c a c0 c1 a0 a1 => ?_⟩⟩, mset_eq, r27⟩
    · rw [mset_ne (by omega)]; exact fr k l1 i (by omega)
    · rw [mset_k (by decide), mset_k (by decide)]; exact hSB.isf hF
    · rw [mset_i (by decide), mset_i (by decide), fr 3 0 6 (by omega), fr 3 0 5 (by omega)]; omega
    · rw [mset_i (by decide), fr 3 0 5 (by omega)]; exact fun _ => hz.2.1
    · rw [mset_i (by decide), fr 3 0 5 (by omega)] at hl
      obtain rfl : l = 0 := by omega
      rw [mset_k (by decide)] at z
      rw [hSB.leve]
      show Agr (bN (Nt μ 0)) (Nt (mset ν 3 0 4 1) 0)
      rw [hNl]
      exact hA z
    · rw [mset_i (by decide), fr 3 0 6 (by omega)] at hl
      obtain rfl : l = 0 := by omega
      rfl

set_option maxRecDepth 100000 in
set_option maxHeartbeats 4000000 in
theorem c_forgetShapes {μ : Mm} : Mc mX4_forgetShapes 0 [vR 3 0] μ (Rt none (mset (mset (mset μ 3 0 4 0) 3 0 5 0) 3 0 6 0)) := by
  refine Mc.of (L := [some (vR 3 0)]) (by decide +kernel) (by simp [leL, entA, isLong, mX4_forgetShapes]) (by simp [entA, isLong, mX4_forgetShapes]) ?_
  refine e_aload_n 0 (dec_at dX4_forgetShapes 0) rfl rfl ?_
  refine e_iconst (dec_at dX4_forgetShapes 1) ?_
  refine e_put 4 4 (dec_at dX4_forgetShapes 2) flX4_38 fpX4_4 rfl rfl rfl (by omega) (fit_bool (by first | exact Or.inl rfl | exact Or.inr rfl)) ?_
  refine e_aload_n 0 (dec_at dX4_forgetShapes 3) rfl rfl ?_
  refine e_iconst (dec_at dX4_forgetShapes 4) ?_
  refine e_put 5 5 (dec_at dX4_forgetShapes 5) flX4_42 fpX4_5 rfl rfl rfl (by omega) (fit_int _) ?_
  refine e_aload_n 0 (dec_at dX4_forgetShapes 6) rfl rfl ?_
  refine e_iconst (dec_at dX4_forgetShapes 7) ?_
  refine e_put 6 6 (dec_at dX4_forgetShapes 8) flX4_46 fpX4_6 rfl rfl rfl (by omega) (fit_int _) ?_
  refine e_return (dec_at dX4_forgetShapes 9) rfl ?_
  exact ⟨rfl, rfl⟩

set_option maxRecDepth 100000 in
set_option maxHeartbeats 4000000 in
theorem c_forgetNumbers {μ : Mm} (l : Int) (hl : inR l) : Mc mX4_forgetNumbersAbove 1 [vR 3 0, vI l] μ (Rt none (mset μ 3 0 6 (min (μ 3 0 6) l))) := by
  refine Mc.of (L := [some (vR 3 0), some (vI l)]) (by decide +kernel) (by simp [leL, entA, isLong, mX4_forgetNumbersAbove]) (by simp [entA, isLong, mX4_forgetNumbersAbove]) ?_
  refine e_aload_n 0 (dec_at dX4_forgetNumbersAbove 0) rfl rfl ?_
  refine e_aload_n 0 (dec_at dX4_forgetNumbersAbove 1) rfl rfl ?_
  refine e_geti 6 6 (dec_at dX4_forgetNumbersAbove 2) flX4_46 rfl rfl rfl (fun r2 => ?_)
  refine e_iload_n 1 (dec_at dX4_forgetNumbersAbove 3) rfl rfl ?_
  refine e_min (dec_at dX4_forgetNumbersAbove 4) mjX4_49 mj_min (by decide) (Nat.le_of_ble_eq_true rfl) (by omega) (by omega) ?_
  refine e_put 6 6 (dec_at dX4_forgetNumbersAbove 5) flX4_46 fpX4_6 rfl rfl rfl (by omega) (fit_int _) ?_
  refine e_return (dec_at dX4_forgetNumbersAbove 6) rfl ?_
  exact ⟨rfl, rfl⟩

set_option maxRecDepth 100000 in
set_option maxHeartbeats 4000000 in
theorem l_reach2 {μ : Mm} {v : Int} (h : XB μ) (hN : XN μ) (hM : Mv μ) (hv : 0 ≤ v ∧ v < 4) : ∀ (q : Nat) (ν : Mm), (v - ν 3 0 6).toNat = q → (∀ k l1 i, ¬ (k = 3 ∨ k = 5 ∨ k = 6 ∨ (11 ≤ k ∧ k ≤ 20 ∧ ¬ (l1 = 0 ∧ k ≤ 15 ∧ ¬ (k = 11 ∧ i = 2)))) → ν k l1 i = μ k l1 i) → XC ν → ν 3 0 4 = 1 → ν 5 0 1 = 0 → v ≤ ν 3 0 5 → Ev mX4_reach 5 53 [some (vR 3 0), some (vI v)] [] ν (fun r μ' => (∀ k l1 i, ¬ (k = 3 ∨ k = 5 ∨ k = 6 ∨ (11 ≤ k ∧ k ≤ 20 ∧ ¬ (l1 = 0 ∧ k ≤ 15 ∧ ¬ (k = 11 ∧ i = 2)))) → μ' k l1 i = μ k l1 i) ∧ XC μ' ∧ μ' 3 0 4 = 1 ∧ ((μ' 5 0 1 ≠ 0 ∧ r = some vN) ∨ (μ' 5 0 1 = 0 ∧ r = some (vR 11 v) ∧ v ≤ μ' 3 0 6))) := by
  intro q
  induction q using Nat.strongRecOn with
  | _ q ih =>
  intro ν hq fr hx h4 h5 h3
  have hSB : SB μ ν := fun k l i z => fr k l i (by omega)
  have hxr := hx.resolve_left (fun q => by omega)
  have hXb := hSB.xb h
  have hgd := (IsF.good hXb.1 (p := ν 5 0 2) (by have z := hxr.2.1; rw [h5] at z; exact z)).1
  have hA := (hxr.2.2.2.2 h5).1
  have hNm := (hxr.2.2.2.2 h5).2
  have hr := hxr.2.2.1
  have hXN := hSB.xn hN
  have hXM := hSB.mv hM
  refine e_aload_n 0 (dec_at dX4_reach 29) rfl rfl ?_
  refine e_geti 6 6 (dec_at dX4_reach 30) flX4_46 rfl rfl rfl (fun r54 => ?_)
  refine e_iload_n 1 (dec_at dX4_reach 31) rfl rfl ?_
  refine e_icmp_ge 121 (dec_at dX4_reach 32) (by decide) (by omega) (by omega) (fun h58 => ?_) (fun h58 => ?_)
  · refine e_aload_n 0 (dec_at dX4_reach 67) rfl rfl ?_
    refine e_getr 0 (dec_at dX4_reach 68) flX4_11 rfl rfl ?_
    refine e_iload_n 1 (dec_at dX4_reach 69) rfl rfl ?_
    refine e_aald (dec_at dX4_reach 70) (by omega) ?_
    refine e_areturn (dec_at dX4_reach 71) rfl ?_
    exact ⟨fr, hx, h4, Or.inr ⟨h5, rfl, by omega⟩⟩
  · obtain ⟨j, hj⟩ : ∃ j : Nat, ν 3 0 6 = (j : Int) := ⟨(ν 3 0 6).toNat, by omega⟩
    have gA := lev_good hgd j
    have aA := hA j (by omega)
    have gB := aA.good gA
    have cp := lev_cap hgd hXb.2 j (by omega)
    have cn := cap_next (l := (j : Int)) (by omega) (by omega)
    have q0 : lev (Nt ν 0) j 0 0 = ν 11 (j : Int) 0 := aA.1.1
    have q1 : lev (Nt ν 0) j 0 1 = ν 11 (j : Int) 1 := aA.1.2.1
    have q2 : lev (Nt ν 0) j 0 2 = ν 11 (j : Int) 2 := aA.2.1
    have qn : nN (lev (Nt ν 0) j) = ν 13 (j : Int) (ν 11 (j : Int) 1) := aA.n gA.1.2.1.1
    obtain ⟨cp1, cp2, cp3, cp4⟩ := cp
    rw [q0] at cp1
    rw [q1] at cp2
    rw [qn] at cp3
    rw [q2] at cp4
    have nbs : NB1 ν (ν 3 0 6) ∧ NB2 ν (ν 3 0 6) := by rw [hj]; exact gB.nb cp1 cp2 cp3 cp4
    have hbl := bnd_le j (by omega)
    have hbd : ∀ i, 0 ≤ i → i < 3 * ν 11 (ν 3 0 6) 0 → -100000000 ≤ ν 12 (ν 3 0 6) i ∧ ν 12 (ν 3 0 6) i ≤ 100000000 := by
      rw [hj]
      intro i i0 i1
      have z := hNm j (by omega) (i / 3) (i % 3) (by omega) (by omega) (by omega) (by omega)
      rw [show 3 * (i / 3) + i % 3 = i by omega] at z
      have w := nm_in hXN hXM hgd j (i / 3) (i % 3) (by omega) (by rw [q0]; omega) (by omega) (by omega)
      omega
    have aA1 := hA (j + 1) (by omega)
    have eC1 : ν 11 ((j : Int) + 1) 0 = ν 11 (j : Int) 2 := by
      have z : lev (Nt ν 0) (j + 1) 0 0 = ν 11 ((j + 1 : Nat) : Int) 0 := aA1.1.1
      have w : lev (Nt ν 0) (j + 1) 0 0 = lev (Nt ν 0) j 0 2 := rfl
      rw [← q2, ← w, z]
      rfl
    have hE0 := nbs.2.1
    rw [hj] at hE0
    have hC1 : 0 ≤ ν 11 ((j : Int) + 1) 0 ∧ ν 11 ((j : Int) + 1) 0 ≤ capC ((j : Int) + 1) := by rw [eC1]; omega
    refine e_aload_n 0 (dec_at dX4_reach 33) rfl rfl ?_
    refine e_getr 0 (dec_at dX4_reach 34) flX4_11 rfl rfl ?_
    refine e_aload_n 0 (dec_at dX4_reach 35) rfl rfl ?_
    refine e_geti 6 6 (dec_at dX4_reach 36) flX4_46 rfl rfl rfl (fun r66 => ?_)
    refine e_iconst (dec_at dX4_reach 37) ?_
    refine e_iadd (dec_at dX4_reach 38) ?_
    refine e_aald (dec_at dX4_reach 39) (by omega) ?_
    refine e_aload_n 0 (dec_at dX4_reach 40) rfl rfl ?_
    refine e_getr 0 (dec_at dX4_reach 41) flX4_11 rfl rfl ?_
    refine e_aload_n 0 (dec_at dX4_reach 42) rfl rfl ?_
    refine e_geti 6 6 (dec_at dX4_reach 43) flX4_46 rfl rfl rfl (fun r77 => ?_)
    refine e_aald (dec_at dX4_reach 44) (by omega) ?_
    refine e_callV (M' := mX2_sumFrom) (dec_at dX4_reach 45) mlX4_69 (c_sumFrom (μ := ν) (ν 3 0 6) nbs.1 nbs.2 (by rw [hj]; omega) hbd) oX2_sumFrom iX2_sumFrom rfl rfl rfl rfl (by decide) (by decide) (Nat.le_of_ble_eq_true rfl) (fun r ν1 hQ => ?_)
    obtain ⟨rfl, f1, f2⟩ := hQ
    have e36 : ν1 3 0 6 = ν 3 0 6 := f1 3 0 6 (by omega)
    show Ev mX4_reach 5 84 _ [] ν1 _
    have hSB1 : SB ν ν1 := fun k l i z => f1 k l i (by omega)
    have hM1 : Mv ν1 := hSB1.mv hXM
    have hs1 : ∀ i, 0 ≤ i → i < 3 * ν1 11 (ν 3 0 6 + 1) 0 → -100000000 ≤ ν1 12 (ν 3 0 6 + 1) i ∧ ν1 12 (ν 3 0 6 + 1) i ≤ 100000000 := by
      intro i i0 i1
      rw [f1 11 _ 0 (by omega), hj, eC1] at i1
      rw [hj] at f2 ⊢
      have z := f2 (i / 3) (by omega) (by omega) (i % 3) (by omega) (by omega)
      rw [show 3 * (i / 3) + i % 3 = i by omega] at z
      rw [hj] at hbd nbs
      have e0 := nbs.2.2 (i / 3) (by omega) (by omega)
      have e1 := nbs.1.2.2.2.2 _ e0.1 e0.2
      have e2 := nbs.1.nx e0.1 e0.2
      have e3 := nbs.1.2.2.2.2 _ e2.1 e2.2
      have y1 := hNm j (by omega) (ν 14 (j : Int) (ν 18 (j : Int) (i / 3))) (i % 3) e1.1.1 e1.1.2 (by omega) (by omega)
      have y2 := hNm j (by omega) (ν 14 (j : Int) (nxF (ν 13 (j : Int)) (ν 15 (j : Int)) (ν 18 (j : Int) (i / 3)))) (i % 3) e3.1.1 e3.1.2 (by omega) (by omega)
      have w1 := nm_in hXN hXM hgd j _ (i % 3) e1.1.1 (by rw [q0]; exact e1.1.2) (by omega) (by omega)
      have w2 := nm_in hXN hXM hgd j _ (i % 3) e3.1.1 (by rw [q0]; exact e3.1.2) (by omega) (by omega)
      omega
    refine e_aload_n 0 (dec_at dX4_reach 46) rfl rfl ?_
    refine e_getr 3 (dec_at dX4_reach 47) flX4_34 rfl rfl ?_
    refine e_aload_n 0 (dec_at dX4_reach 48) rfl rfl ?_
    refine e_getr 0 (dec_at dX4_reach 49) flX4_11 rfl rfl ?_
    refine e_aload_n 0 (dec_at dX4_reach 50) rfl rfl ?_
    refine e_getiv 6 6 (ν 3 0 6) (dec_at dX4_reach 51) flX4_46 rfl rfl rfl (by exact e36) (fun r93 => ?_)
    refine e_iconst (dec_at dX4_reach 52) ?_
    refine e_iadd (dec_at dX4_reach 53) ?_
    refine e_aald (dec_at dX4_reach 54) (by omega) ?_
    refine e_aload_n 0 (dec_at dX4_reach 55) rfl rfl ?_
    refine e_getiv 6 6 (ν 3 0 6) (dec_at dX4_reach 56) flX4_46 rfl rfl rfl (by exact e36) (fun r100 => ?_)
    refine e_iconst (dec_at dX4_reach 57) ?_
    refine e_iadd (dec_at dX4_reach 58) ?_
    refine e_callV (M' := mX1_addTo) (dec_at dX4_reach 59) mlX4_72 (c_addTo (μ := ν1) (ν 3 0 6 + 1) hM1 (by rw [f1 11 _ 0 (by omega), hj]; exact hC1) (by omega) hs1) oX1_addTo iX1_addTo rfl rfl rfl rfl (by decide) (by decide) (Nat.le_of_ble_eq_true rfl) (fun r ν2 hQ => ?_)
    obtain ⟨rfl, g1, g2⟩ := hQ
    have e36b : ν2 3 0 6 = ν 3 0 6 := (g1 3 0 6 (by omega)).trans e36
    show Ev mX4_reach 5 108 _ [] ν2 _
    refine e_aload_n 0 (dec_at dX4_reach 60) rfl rfl ?_
    refine e_dup (dec_at dX4_reach 61) rfl ?_
    refine e_getiv 6 6 (ν 3 0 6) (dec_at dX4_reach 62) flX4_46 rfl rfl rfl (by exact e36b) (fun r110 => ?_)
    refine e_iconst (dec_at dX4_reach 63) ?_
    refine e_iadd (dec_at dX4_reach 64) ?_
    refine e_put 6 6 (dec_at dX4_reach 65) flX4_46 fpX4_6 rfl rfl rfl (by omega) (fit_int _) ?_
    refine e_goto 53 (dec_at dX4_reach 66) (by decide) ?_
    have hSB2 : SB ν (mset ν2 3 0 6 (ν 3 0 6 + 1)) := fun k l i z => by rw [mset_k (by omega), g1 k l i (by omega), f1 k l i (by omega)]
    have G : ∀ (k : Nat) (l i : Int), ¬ (k = 12 ∧ l = ν 3 0 6 + 1) → k ≠ 3 → mset ν2 3 0 6 (ν 3 0 6 + 1) k l i = ν k l i := fun k l i z w => by rw [mset_k w, g1 k l i z, f1 k l i z]
    have G3 : ∀ (i : Int), i ≠ 6 → mset ν2 3 0 6 (ν 3 0 6 + 1) 3 0 i = ν 3 0 i := fun i w => by rw [mset_i w, g1 3 0 i (by omega), f1 3 0 i (by omega)]
    refine ih _ (by rw [mset_eq]; omega) _ rfl (fun k l1 i z => ?_) (Or.inr ⟨by rw [G3 4 (by decide)]; exact h4, ?_, ?_, ?_, fun z => ⟨fun l hl => ?_, fun l hl c a c0 c1 a0 a1 => ?_⟩⟩) (by rw [G3 4 (by decide)]; exact h4) (by rw [G 5 0 1 (by omega) (by decide)]; exact h5) (by rw [G3 5 (by decide)]; exact h3)
    · rw [mset_k (by omega), g1 k l1 i (by omega), f1 k l1 i (by omega)]; exact fr k l1 i z
    · rw [G 5 0 1 (by omega) (by decide), G 5 0 2 (by omega) (by decide)]; exact hSB2.isf hxr.2.1
    · rw [mset_eq, G3 5 (by decide)]; omega
    · rw [G 5 0 1 (by omega) (by decide)]; exact fun z => absurd h5 z
    · rw [G3 5 (by decide)] at hl
      have e : Agr (Nt ν l) (Nt (mset ν2 3 0 6 (ν 3 0 6 + 1)) l) := by
        refine ⟨⟨(G 11 l 0 (by omega) (by decide)).symm, (G 11 l 1 (by omega) (by decide)).symm, fun f _ _ => (G 13 l f (by omega) (by decide)).symm, fun s _ _ => (G 14 l s (by omega) (by decide)).symm⟩, (G 11 l 2 (by omega) (by decide)).symm, fun s _ _ => ⟨(G 15 l s (by omega) (by decide)).symm, (G 16 l s (by omega) (by decide)).symm, (G 17 l s (by omega) (by decide)).symm⟩, fun e _ _ => (G 18 l e (by omega) (by decide)).symm, fun c _ _ => ⟨(G 19 l c (by omega) (by decide)).symm, (G 20 l c (by omega) (by decide)).symm⟩⟩
      rw [hSB2.leve]
      exact (hA l hl).tr e (lev_good hgd l).1.2.1.1
    · rw [mset_eq] at hl
      rw [G 11 l 0 (by omega) (by decide)] at c1
      rw [hSB2.nme]
      by_cases q : l = j + 1
      · subst q
        have c1 : c < ν 11 ((j : Int) + 1) 0 := c1
        rw [eC1] at c1
        have x1 : mset ν2 3 0 6 (ν 3 0 6 + 1) 12 ((j + 1 : Nat) : Int) (3 * c + a) = ν2 12 (ν 3 0 6 + 1) (3 * c + a) := by rw [mset_k (by decide), hj]; rfl
        have x2 := g2 c a c0 (by rw [f1 11 _ 0 (by omega), hj, eC1]; exact c1) a0 a1
        have x3 := f2 c c0 (by rw [hj]; exact c1) a a0 a1
        rw [x1, x2, x3, hSB1.mve, hj]
        rw [hj] at nbs
        have e0 := nbs.2.2 c c0 c1
        have e1 := nbs.1.2.2.2.2 _ e0.1 e0.2
        have e2 := nbs.1.nx e0.1 e0.2
        have e3 := nbs.1.2.2.2.2 _ e2.1 e2.2
        rw [hNm j (by omega) _ a e1.1.1 e1.1.2 a0 a1, hNm j (by omega) _ a e3.1.1 e3.1.2 a0 a1]
        show _ = nm ν j (lev (Nt ν 0) j 3 (lev (Nt ν 0) j 7 c)) a + nm ν j (lev (Nt ν 0) j 3 (nx (lev (Nt ν 0) j) (lev (Nt ν 0) j 7 c))) a + mvx ν ((j : Int) + 1) c a
        have m := gA.mt c0 (by rw [q2]; exact c1)
        have y := gA.1.2.1.nxr m.1.1 m.1.2
        have z1 : lev (Nt ν 0) j 7 c = ν 18 (j : Int) c := aA.2.2.2.1 c c0 (by rw [q2]; exact c1)
        have z2 : lev (Nt ν 0) j 3 (lev (Nt ν 0) j 7 c) = ν 14 (j : Int) (lev (Nt ν 0) j 7 c) := aA.1.2.2.2 _ m.1.1 m.1.2
        have z3 : lev (Nt ν 0) j 3 (nx (lev (Nt ν 0) j) (lev (Nt ν 0) j 7 c)) = ν 14 (j : Int) (nx (lev (Nt ν 0) j) (lev (Nt ν 0) j 7 c)) := aA.1.2.2.2 _ y.1.1 y.1.2
        have z4 : nx (Nt ν j) (lev (Nt ν 0) j 7 c) = nx (lev (Nt ν 0) j) (lev (Nt ν 0) j 7 c) := aA.nxe gA.1.2.1 m.1.1 m.1.2
        have z5 : nx (Nt ν j) (ν 18 (j : Int) c) = nxF (ν 13 (j : Int)) (ν 15 (j : Int)) (ν 18 (j : Int) c) := rfl
        rw [z2, z3, ← z4, z1, z5]
      · rw [G 12 l _ (by omega) (by decide)]
        exact hNm l (by omega) c a c0 c1 a0 a1

set_option maxRecDepth 100000 in
set_option maxHeartbeats 4000000 in
theorem l_reach1 {μ : Mm} {v : Int} (h : XB μ) (hN : XN μ) (hM : Mv μ) (hv : 0 ≤ v ∧ v < 4) : ∀ (q : Nat) (ν : Mm), (v - ν 3 0 5).toNat = q → (∀ k l1 i, ¬ (k = 3 ∨ k = 5 ∨ k = 6 ∨ (11 ≤ k ∧ k ≤ 20 ∧ ¬ (l1 = 0 ∧ k ≤ 15 ∧ ¬ (k = 11 ∧ i = 2)))) → ν k l1 i = μ k l1 i) → XC ν → ν 3 0 4 = 1 → ν 5 0 1 = 0 → Ev mX4_reach 5 9 [some (vR 3 0), some (vI v)] [] ν (fun r μ' => (∀ k l1 i, ¬ (k = 3 ∨ k = 5 ∨ k = 6 ∨ (11 ≤ k ∧ k ≤ 20 ∧ ¬ (l1 = 0 ∧ k ≤ 15 ∧ ¬ (k = 11 ∧ i = 2)))) → μ' k l1 i = μ k l1 i) ∧ XC μ' ∧ μ' 3 0 4 = 1 ∧ ((μ' 5 0 1 ≠ 0 ∧ r = some vN) ∨ (μ' 5 0 1 = 0 ∧ r = some (vR 11 v) ∧ v ≤ μ' 3 0 6))) := by
  intro q
  induction q using Nat.strongRecOn with
  | _ q ih =>
  intro ν hq fr hx h4 h5
  have hSB : SB μ ν := fun k l i z => fr k l i (by omega)
  have hxr := hx.resolve_left (fun q => by omega)
  have hXb := hSB.xb h
  have hgd := (IsF.good hXb.1 (p := ν 5 0 2) (by have z := hxr.2.1; rw [h5] at z; exact z)).1
  have hA := (hxr.2.2.2.2 h5).1
  have hNm := (hxr.2.2.2.2 h5).2
  have hr := hxr.2.2.1
  have hXN := hSB.xn hN
  have hXM := hSB.mv hM
  refine e_aload_n 0 (dec_at dX4_reach 5) rfl rfl ?_
  refine e_geti 5 5 (dec_at dX4_reach 6) flX4_42 rfl rfl rfl (fun r10 => ?_)
  refine e_iload_n 1 (dec_at dX4_reach 7) rfl rfl ?_
  refine e_icmp_ge 53 (dec_at dX4_reach 8) (by decide) (by omega) (by omega) (fun h14 => ?_) (fun h14 => ?_)
  · exact l_reach2 h hN hM hv _ ν rfl fr hx h4 h5 (by omega)
  · obtain ⟨j, hj⟩ : ∃ j : Nat, ν 3 0 5 = (j : Int) := ⟨(ν 3 0 5).toNat, by omega⟩
    have gA := lev_good hgd j
    have aA := hA j (by omega)
    have gB := aA.good gA
    have cp := lev_cap hgd hXb.2 j (by omega)
    have cn := cap_next (l := (j : Int)) (by omega) (by omega)
    have q0 : lev (Nt ν 0) j 0 0 = ν 11 (j : Int) 0 := aA.1.1
    have q1 : lev (Nt ν 0) j 0 1 = ν 11 (j : Int) 1 := aA.1.2.1
    have q2 : lev (Nt ν 0) j 0 2 = ν 11 (j : Int) 2 := aA.2.1
    have qn : nN (lev (Nt ν 0) j) = ν 13 (j : Int) (ν 11 (j : Int) 1) := aA.n gA.1.2.1.1
    obtain ⟨cp1, cp2, cp3, cp4⟩ := cp
    rw [q0] at cp1
    rw [q1] at cp2
    rw [qn] at cp3
    rw [q2] at cp4
    refine e_aload_n 0 (dec_at dX4_reach 9) rfl rfl ?_
    refine e_getr 0 (dec_at dX4_reach 10) flX4_11 rfl rfl ?_
    refine e_aload_n 0 (dec_at dX4_reach 11) rfl rfl ?_
    refine e_geti 5 5 (dec_at dX4_reach 12) flX4_42 rfl rfl rfl (fun r22 => ?_)
    refine e_iconst (dec_at dX4_reach 13) ?_
    refine e_iadd (dec_at dX4_reach 14) ?_
    refine e_aald (dec_at dX4_reach 15) (by omega) ?_
    refine e_aload_n 0 (dec_at dX4_reach 16) rfl rfl ?_
    refine e_getr 0 (dec_at dX4_reach 17) flX4_11 rfl rfl ?_
    refine e_aload_n 0 (dec_at dX4_reach 18) rfl rfl ?_
    refine e_geti 5 5 (dec_at dX4_reach 19) flX4_42 rfl rfl rfl (fun r33 => ?_)
    refine e_aald (dec_at dX4_reach 20) (by omega) ?_
    refine e_callV (M' := mX2_shapeFrom) (dec_at dX4_reach 21) mlX4_66 (c_shapeFrom (μ := ν) (ν 3 0 5) (by rw [hj]; exact gB) (by rw [hj]; exact cp1) (by rw [hj]; exact cp2) (by rw [hj]; exact cp3) (by rw [hj]; exact cp4) (by rw [hj]; omega) (by rw [hj]; omega) (by rw [hj]; omega) (by
        rw [hj]
        have hh := (rf_good gB).half
        rw [rf_n gB.1, (rf_good gB).2.1.1, rf_n gB.1] at hh
        have e : nN (Nt ν j) = ν 13 (j : Int) (ν 11 (j : Int) 1) := rfl
        rw [e] at hh
        omega)) oX2_shapeFrom iX2_shapeFrom rfl rfl rfl rfl (by decide) (by decide) (Nat.le_of_ble_eq_true rfl) (fun r ν1 hQ => ?_)
    obtain ⟨rfl, f1, f2⟩ := hQ
    have e35 : ν1 3 0 5 = ν 3 0 5 := f1 3 0 5 (by omega)
    show Ev mX4_reach 5 40 _ [] ν1 _
    refine e_aload_n 0 (dec_at dX4_reach 22) rfl rfl ?_
    refine e_dup (dec_at dX4_reach 23) rfl ?_
    refine e_getiv 5 5 (ν 3 0 5) (dec_at dX4_reach 24) flX4_42 rfl rfl rfl (by exact e35) (fun r42 => ?_)
    refine e_iconst (dec_at dX4_reach 25) ?_
    refine e_iadd (dec_at dX4_reach 26) ?_
    refine e_put 5 5 (dec_at dX4_reach 27) flX4_42 fpX4_5 rfl rfl rfl (by omega) (fit_int _) ?_
    refine e_goto 9 (dec_at dX4_reach 28) (by decide) ?_
    have hSB2 : SB ν (mset ν1 3 0 5 (ν 3 0 5 + 1)) := fun k l i z => by rw [mset_k (by omega), f1 k l i (by omega)]
    have G : ∀ (k : Nat) (l i : Int), ¬ (l = ν 3 0 5 + 1 ∧ 11 ≤ k ∧ k ≤ 20 ∧ k ≠ 12) → k ≠ 3 → mset ν1 3 0 5 (ν 3 0 5 + 1) k l i = ν k l i := fun k l i z w => by rw [mset_k w, f1 k l i z]
    have G3 : ∀ (i : Int), i ≠ 5 → mset ν1 3 0 5 (ν 3 0 5 + 1) 3 0 i = ν 3 0 i := fun i w => by rw [mset_i w, f1 3 0 i (by omega)]
    refine ih _ (by rw [mset_eq]; omega) _ rfl (fun k l1 i z => ?_) (Or.inr ⟨by rw [G3 4 (by decide)]; exact h4, ?_, ?_, ?_, fun z => ⟨fun l hl => ?_, fun l hl c a c0 c1 a0 a1 => ?_⟩⟩) (by rw [G3 4 (by decide)]; exact h4) (by rw [G 5 0 1 (by omega) (by decide)]; exact h5)
    · rw [mset_k (by omega), f1 k l1 i (by omega)]; exact fr k l1 i z
    · rw [G 5 0 1 (by omega) (by decide), G 5 0 2 (by omega) (by decide)]; exact hSB2.isf hxr.2.1
    · rw [mset_eq, G3 6 (by decide)]; omega
    · rw [G 5 0 1 (by omega) (by decide)]; exact fun z => absurd h5 z
    · rw [mset_eq] at hl
      rw [hSB2.leve]
      by_cases q : l = j + 1
      · subst q
        have e : Nt (mset ν1 3 0 5 (ν 3 0 5 + 1)) ((j + 1 : Nat) : Int) = Nt ν1 (ν 3 0 5 + 1) := by
          rw [hj]
          exact Nt_eq (fun k i z => mset_k (by omega))
        rw [e]
        rw [hj] at f2 ⊢
        exact (aA.rfe gA).tr f2 (rf_good gA).1.2.1.1
      · have e : Agr (Nt ν l) (Nt (mset ν1 3 0 5 (ν 3 0 5 + 1)) l) := by
          refine ⟨⟨(G 11 l 0 (by omega) (by decide)).symm, (G 11 l 1 (by omega) (by decide)).symm, fun f _ _ => (G 13 l f (by omega) (by decide)).symm, fun s _ _ => (G 14 l s (by omega) (by decide)).symm⟩, (G 11 l 2 (by omega) (by decide)).symm, fun s _ _ => ⟨(G 15 l s (by omega) (by decide)).symm, (G 16 l s (by omega) (by decide)).symm, (G 17 l s (by omega) (by decide)).symm⟩, fun e _ _ => (G 18 l e (by omega) (by decide)).symm, fun c _ _ => ⟨(G 19 l c (by omega) (by decide)).symm, (G 20 l c (by omega) (by decide)).symm⟩⟩
        exact (hA l (by omega)).tr e (lev_good hgd l).1.2.1.1
    · rw [G3 6 (by decide)] at hl
      rw [G 11 l 0 (by omega) (by decide)] at c1
      rw [hSB2.nme, G 12 l _ (by omega) (by decide)]
      exact hNm l hl c a c0 c1 a0 a1

set_option maxRecDepth 100000 in
set_option maxHeartbeats 4000000 in
theorem c_reach {μ : Mm} (v : Int) (h : XB μ) (hN : XN μ) (hM : Mv μ) (hv : 0 ≤ v ∧ v < 4) (hx : XC μ) : Mc mX4_reach 5 [vR 3 0, vI v] μ (fun r μ' => (∀ k l1 i, ¬ (k = 3 ∨ k = 5 ∨ k = 6 ∨ (11 ≤ k ∧ k ≤ 20 ∧ ¬ (l1 = 0 ∧ k ≤ 15 ∧ ¬ (k = 11 ∧ i = 2)))) → μ' k l1 i = μ k l1 i) ∧ XC μ' ∧ μ' 3 0 4 = 1 ∧ ((μ' 5 0 1 ≠ 0 ∧ r = some vN) ∨ (μ' 5 0 1 = 0 ∧ r = some (vR 11 v) ∧ v ≤ μ' 3 0 6))) := by
  refine Mc.of (L := [some (vR 3 0), some (vI v)]) (by decide +kernel) (by simp [leL, entA, isLong, mX4_reach]) (by simp [entA, isLong, mX4_reach]) ?_
  refine e_aload_n 0 (dec_at dX4_reach 0) rfl rfl ?_
  refine e_callV (M' := mX4_findFault) (dec_at dX4_reach 1) mlX4_62 (c_findFault (μ := μ) h hx) oX4_findFault iX4_findFault rfl rfl rfl rfl (by decide) (by decide) (Nat.le_of_ble_eq_true rfl) (fun r ν hQ => ?_)
  obtain ⟨rfl, fr, hx1, h41, hr5⟩ := hQ
  show Ev mX4_reach 5 4 _ [vI (ν 5 0 1)] ν _
  refine e_if_eq 9 (dec_at dX4_reach 2) (by decide) (by exact hr5) (fun h4 => ?_) (fun h4 => ?_)
  · exact l_reach1 h hN hM hv _ ν rfl (fun k l1 i z => fr k l1 i (by omega)) hx1 h41 h4
  · refine e_null (dec_at dX4_reach 3) ?_
    refine e_areturn (dec_at dX4_reach 4) rfl ?_
    exact ⟨fun k l1 i z => fr k l1 i (by omega), hx1, h41, Or.inl ⟨h4, rfl⟩⟩
