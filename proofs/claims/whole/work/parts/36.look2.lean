section G2S
variable {A : Net}
/-- rings round a corner, before it is known that there is one alone -/
theorem g2_rh (hp : GP A) (hb : GB A) {s : Int} (h0 : 0 ≤ s) (h1 : s < nN A) : (0 ≤ rho A s ∧ rho A s < nN A) ∧ A 3 (rho A s) = A 3 s := by
  have a := hp.pvr h0 h1
  have b := hb.1 _ a.1.1 a.1.2
  refine ⟨b.2.1, ?_⟩
  have c := b.2.2.2
  rw [hp.nxpv h0 h1] at c
  exact c
theorem g2_rhi (hp : GP A) (hb : GB A) {s t : Int} (h0 : 0 ≤ s) (h1 : s < nN A) (h2 : 0 ≤ t) (h3 : t < nN A) (q : rho A s = rho A t) : s = t := by
  have a := hp.pvr h0 h1
  have b := hp.pvr h2 h3
  have c := (hb.1 _ a.1.1 a.1.2).2.2.1
  have d := (hb.1 _ b.1.1 b.1.2).2.2.1
  unfold rho at q
  rw [q] at c
  have e := hp.nxpv h0 h1
  have f := hp.nxpv h2 h3
  rw [c.symm.trans d] at e
  exact e.symm.trans f
theorem g2_itr (hp : GP A) (hb : GB A) {s : Int} (h0 : 0 ≤ s) (h1 : s < nN A) (k : Nat) : (0 ≤ it (rho A) k s ∧ it (rho A) k s < nN A) ∧ A 3 (it (rho A) k s) = A 3 s := by
  induction k with
  | zero => exact ⟨⟨h0, h1⟩, rfl⟩
  | succ k ih =>
    have a := g2_rh hp hb ih.1.1 ih.1.2
    exact ⟨a.1, a.2.trans ih.2⟩
theorem g2_cov (hp : GP A) (hb : GB A) {x c : Int} (h0 : 0 ≤ x) (h1 : x < nN A) (hc : A 3 x = c) (hn : ∀ k, 0 < k → k < deg A c → it (rho A) k x ≠ x) {s : Int} (g0 : 0 ≤ s) (g1 : s < nN A) (gc : A 3 s = c) : ∃ k, k < deg A c ∧ it (rho A) k x = s := by
  refine ct_all (p := fun s => A 3 s = c) (n := (nN A).toNat) (u := fun k => it (rho A) k x) (fun i _ => ?_) (it_apart (D := fun s => 0 ≤ s ∧ s < nN A) (fun s hs => (g2_rh hp hb hs.1 hs.2).1) (fun s t hs ht q => g2_rhi hp hb hs.1 hs.2 ht.1 ht.2 q) ⟨h0, h1⟩ hn) (Nat.le_refl _) g0 (by omega) gc
  have := g2_itr hp hb h0 h1 i
  exact ⟨by omega, this.2.trans hc⟩
theorem g2_nr (hp : GP A) (hb : GB A) {x c : Int} (h0 : 0 ≤ x) (h1 : x < nN A) (hc : A 3 x = c) (hn : ∀ k, 0 < k → k < deg A c → it (rho A) k x ≠ x) {s : Int} (g0 : 0 ≤ s) (g1 : s < nN A) (gc : A 3 s = c) : ∀ k, 0 < k → k < deg A c → it (rho A) k s ≠ s := by
  intro k k0 k1 e
  obtain ⟨j, hj, rfl⟩ := g2_cov hp hb h0 h1 hc hn g0 g1 gc
  rw [← it_add] at e
  have key : ∀ j, it (rho A) (k + j) x = it (rho A) j x → it (rho A) k x = x := by
    intro j
    induction j with
    | zero => intro e; exact e
    | succ j ih =>
      intro e
      have b := g2_itr hp hb h0 h1 (k + j)
      have b2 := g2_itr hp hb h0 h1 j
      exact ih (g2_rhi hp hb b.1.1 b.1.2 b2.1.1 b2.1.2 e)
  exact hn k k0 k1 (key j e)
/-- pinched, as any one step of the corner tells -/
theorem pin_iff (h : Bas A) (n2 : No (fTw A) (A 0 1)) (n3 : No (fDb A) (A 0 1)) (n4 : No (fOp A) (A 0 1)) {c x : Int} (h0 : 0 ≤ x) (h1 : x < nN A) (hc : A 3 x = c) : fPi A c ↔ ∃ k : Nat, 0 < k ∧ k < deg A c ∧ it (rho (bN A)) k x = x := by
  have gb := bN_GB h n2 n3 n4
  constructor
  · intro hp
    apply Classical.byContradiction
    intro q
    exact hp ⟨x, ⟨h0, h1⟩, hc, fun k k0 k1 e => q ⟨k, k0, k1, e⟩⟩
  · rintro ⟨k, k0, k1, e⟩ ⟨y, hy, hyc, hn⟩
    exact g2_nr (A := bN A) h.2.1 gb hy.1 hy.2 hyc hn h0 h1 hc k k0 k1 e
/-- the ring by another table of steps back -/
theorem it_bk {bk : Int → Int} (h : Bas A) (n2 : No (fTw A) (A 0 1)) (n3 : No (fDb A) (A 0 1)) (n4 : No (fOp A) (A 0 1)) (hb : ∀ s, 0 ≤ s → s < nN A → bk s = bkr A s) {x : Int} (h0 : 0 ≤ x) (h1 : x < nN A) : ∀ k, it (fun s => bk (pv A s)) k x = it (rho (bN A)) k x := by
  have gb := bN_GB h n2 n3 n4
  intro k
  induction k with
  | zero => rfl
  | succ k ih =>
    have a := g2_itr (A := bN A) h.2.1 gb h0 h1 k
    show bk (pv A (it (fun s => bk (pv A s)) k x)) = rho (bN A) (it (rho (bN A)) k x)
    rw [ih]
    exact hb _ (h.2.1.pvr a.1.1 a.1.2).1.1 (h.2.1.pvr a.1.1 a.1.2).1.2
end G2S
theorem No.cg {p q : Int → Prop} {N : Int} (h : ∀ i, 0 ≤ i → i < N → (p i ↔ q i)) (g : No p N) : No q N := fun i a b z => g i a b ((h i a b).mpr z)
theorem Fi.cg {p q : Int → Prop} {N r : Int} (h : ∀ i, 0 ≤ i → i < N → (p i ↔ q i)) (g : Fi p N r) : Fi q N r := ⟨g.1, (h r g.1.1 g.1.2).mp g.2.1, fun i a b z => g.2.2 i a b ((h i a (by have := g.1; omega)).mpr z)⟩
theorem Nt_eq {μ ν : Mm} {l : Int} (h : ∀ (k : Nat) (i : Int), 11 ≤ k → ν k l i = μ k l i) : Nt ν l = Nt μ l := by
  funext j i
  exact h (11 + j) i (by omega)
theorem XB.tr {μ ν : Mm} (h : XB μ) (e : ∀ (k : Nat) (i : Int), 11 ≤ k → k ≤ 15 → ¬ (k = 11 ∧ i = 2) → ν k 0 i = μ k 0 i) : XB ν := by
  have a0 : ν 11 0 0 = μ 11 0 0 := e 11 0 (by decide) (by decide) (by omega)
  have a1 : ν 11 0 1 = μ 11 0 1 := e 11 1 (by decide) (by decide) (by omega)
  have a2 : ν 13 0 = μ 13 0 := funext (fun i => e 13 i (by decide) (by decide) (by omega))
  have a3 : ν 14 0 = μ 14 0 := funext (fun i => e 14 i (by decide) (by decide) (by omega))
  have a4 : ν 15 0 = μ 15 0 := funext (fun i => e 15 i (by decide) (by decide) (by omega))
  obtain ⟨⟨b1, ⟨b2, b3, b4, b5⟩, b6⟩, b7⟩ := h
  unfold XB Bas GP nN Nt at *
  show (0 ≤ ν 11 0 0 ∧ (0 ≤ ν 11 0 1 ∧ ν 13 0 0 = 0 ∧ (∀ f, 0 ≤ f → f < ν 11 0 1 → ν 13 0 f + 3 ≤ ν 13 0 (f + 1)) ∧ ∀ s, 0 ≤ s → s < ν 13 0 (ν 11 0 1) → (0 ≤ ν 15 0 s ∧ ν 15 0 s < ν 11 0 1) ∧ ν 13 0 (ν 15 0 s) ≤ s ∧ s < ν 13 0 (ν 15 0 s + 1)) ∧ ∀ s, 0 ≤ s → s < ν 13 0 (ν 11 0 1) → 0 ≤ ν 14 0 s ∧ ν 14 0 s < ν 11 0 0) ∧ ν 11 0 0 ≤ 14 ∧ ν 11 0 1 ≤ 14 ∧ ν 13 0 (ν 11 0 1) ≤ 84
  rw [a0, a1, a2, a3, a4]
  exact ⟨⟨b1, ⟨b2, b3, b4, b5⟩, b6⟩, b7⟩

set_option maxRecDepth 100000 in
set_option maxHeartbeats 4000000 in
theorem c_look {μ : Mm} (h : XB μ) : Mc mX0_look 3 [vR 5 0, vR 11 0] μ (fun r μ' => r = none ∧ (∀ k l1 i, ¬ (k = 5 ∨ k = 6 ∨ (l1 = 0 ∧ (16 ≤ k ∧ k ≤ 20 ∨ k = 11 ∧ i = 2))) → μ' k l1 i = μ k l1 i) ∧ IsF (Nt μ 0) (μ' 5 0 1) (μ' 5 0 2) ∧ (μ' 5 0 1 = 0 → Agr (bN (Nt μ 0)) (Nt μ' 0))) := by
  refine Mc.of (L := [some (vR 5 0), some (vR 11 0)]) (by decide +kernel) (by simp [leL, entA, isLong, mX0_look]) (by simp [entA, isLong, mX0_look]) ?_
  have nb := h.nb
  have hP := nb.2.1
  have hC := nb.1
  have hn := nb.2.2.1
  have h2 := h.2
  have e1 : capC 0 = 14 := rfl
  have e2 : capP 0 = 14 := rfl
  have e3 : capE 0 = 42 := rfl
  refine e_aload_n 0 (dec_at dX0_look 0) rfl rfl ?_
  refine e_iconst (dec_at dX0_look 1) ?_
  refine e_put 1 1 (dec_at dX0_look 2) flX0_15 fpX0_1 rfl rfl rfl (by omega) (fit_int _) ?_
  refine e_aload_n 0 (dec_at dX0_look 3) rfl rfl ?_
  refine e_iconst (dec_at dX0_look 4) ?_
  refine e_put 2 2 (dec_at dX0_look 5) flX0_19 fpX0_2 rfl rfl rfl (by omega) (fit_int _) ?_
  refine e_aload_n 1 (dec_at dX0_look 6) rfl rfl ?_
  refine e_getiv 1 1 (μ 11 0 1) (dec_at dX0_look 7) flX0_22 rfl rfl rfl (by rw [mset_k (by decide), mset_k (by decide)]) (fun r11 => ?_)
  refine e_if_ne 23 (dec_at dX0_look 8) (by decide) (by omega) (fun h14 => ?_) (fun h14 => ?_)
  · have hP0 : (Nt μ 0) 0 1 ≠ 0 := h14
    refine e_aload_n 0 (dec_at dX0_look 13) rfl rfl ?_
    refine e_iconst (dec_at dX0_look 14) ?_
    refine e_aload_n 0 (dec_at dX0_look 15) rfl rfl ?_
    refine e_aload_n 1 (dec_at dX0_look 16) rfl rfl ?_
    refine e_callV (M' := mX0_plateWithTwice) (dec_at dX0_look 17) mlX0_27 (c_twice (μ := mset (mset μ 5 0 1 0) 5 0 2 (-1)) (h.tr (fun k i a b _ => by rw [mset_k (by omega), mset_k (by omega)]))) oX0_plateWithTwice iX0_plateWithTwice rfl rfl rfl rfl (by decide) (by decide) (Nat.le_of_ble_eq_true rfl) (fun r ν hQ => ?_)
    have fr0 : ∀ (k : Nat) (l1 i : Int), ¬ (k = 5) → ν k l1 i = μ k l1 i := fun k l1 i z => by rw [hQ.1, mset_k z, mset_k z]
    have hN0 : Nt (mset (mset μ 5 0 1 0) 5 0 2 (-1)) 0 = Nt μ 0 := Nt_eq (fun k i z => by rw [mset_k (by omega), mset_k (by omega)])
    have f5 : ν 5 0 1 = 0 ∧ ν 5 0 2 = -1 := by rw [hQ.1]; exact ⟨by rw [mset_i (by decide), mset_eq], mset_eq⟩
    obtain ⟨-, v, rfl, hv⟩ := hQ
    rw [hN0, mset_k (by decide), mset_k (by decide)] at hv
    show Ev mX0_look 3 30 _ [vI v, vI 2, vR 5 0] ν _
    rcases hv with ⟨rfl, n2⟩ | hfi
    · refine e_callVr (M' := mX0_tells) (dec_at dX0_look 18) mlX0_31 (c_tellsN 2) oX0_tells iX0_tells rfl rfl rfl rfl (by decide) (by decide) (Nat.le_of_ble_eq_true rfl) ?_
      refine e_if_eq 37 (dec_at dX0_look 19) (by decide) (by decide) (fun _ => ?_) (fun z => absurd rfl z)
      refine e_aload_n 0 (dec_at dX0_look 21) rfl rfl ?_
      refine e_iconst (dec_at dX0_look 22) ?_
      refine e_aload_n 0 (dec_at dX0_look 23) rfl rfl ?_
      refine e_aload_n 1 (dec_at dX0_look 24) rfl rfl ?_
      refine e_callV (M' := mX0_plateWithDouble) (dec_at dX0_look 25) mlX0_35 (c_double (μ := ν) (h.tr (fun k i a b _ => fr0 k 0 i (by omega)))) oX0_plateWithDouble iX0_plateWithDouble rfl rfl rfl rfl (by decide) (by decide) (Nat.le_of_ble_eq_true rfl) (fun r ν1 hQ => ?_)
      have hN1 : Nt ν 0 = Nt μ 0 := Nt_eq (fun k i z => fr0 k 0 i (by omega))
      obtain ⟨fr1, v, rfl, hv⟩ := hQ
      rw [hN1, fr0 11 0 1 (by omega)] at hv
      have fr1a : ∀ (k : Nat) (l1 i : Int), ¬ (k = 5 ∨ k = 6) → ν1 k l1 i = μ k l1 i := fun k l1 i z => by rw [fr1 k l1 i (by omega)]; exact fr0 k l1 i (by omega)
      have hN2 : Nt ν1 0 = Nt μ 0 := Nt_eq (fun k i z => fr1a k 0 i (by omega))
      have hX1 : XB ν1 := h.tr (fun k i a b _ => fr1a k 0 i (by omega))
      show Ev mX0_look 3 44 _ [vI v, vI 3, vR 5 0] ν1 _
      rcases hv with ⟨rfl, n3, hMD⟩ | hfi
      · have hMD1 : MD ν1 ν1 (ν1 13 0 (ν1 11 0 1)) := by
          rw [fr1a 11 0 1 (by omega), fr1a 13 0 _ (by omega)]
          unfold MD at hMD ⊢
          rw [hN1, fr0 13 0 _ (by omega), show ν 14 0 = μ 14 0 from funext (fun i => fr0 14 0 i (by omega))] at hMD
          rw [hN2, show ν1 14 0 = μ 14 0 from funext (fun i => fr1a 14 0 i (by omega))]
          exact hMD
        refine e_callVr (M' := mX0_tells) (dec_at dX0_look 26) mlX0_31 (c_tellsN 3) oX0_tells iX0_tells rfl rfl rfl rfl (by decide) (by decide) (Nat.le_of_ble_eq_true rfl) ?_
        refine e_if_eq 51 (dec_at dX0_look 27) (by decide) (by decide) (fun _ => ?_) (fun z => absurd rfl z)
        refine e_aload_n 0 (dec_at dX0_look 29) rfl rfl ?_
        refine e_iconst (dec_at dX0_look 30) ?_
        refine e_aload_n 0 (dec_at dX0_look 31) rfl rfl ?_
        refine e_aload_n 1 (dec_at dX0_look 32) rfl rfl ?_
        refine e_callV (M' := mX0_plateWithOpen) (dec_at dX0_look 33) mlX0_38 (c_open (μ := ν1) hX1 hMD1) oX0_plateWithOpen iX0_plateWithOpen rfl rfl rfl rfl (by decide) (by decide) (Nat.le_of_ble_eq_true rfl) (fun r ν2 hQ => ?_)
        obtain ⟨fr2, v, rfl, hv⟩ := hQ
        rw [hN2, fr1a 11 0 1 (by omega), fr1a 13 0 _ (by omega)] at hv
        have fr2a : ∀ (k : Nat) (l1 i : Int), ¬ (k = 5 ∨ k = 6 ∨ (k = 16 ∧ l1 = 0)) → ν2 k l1 i = μ k l1 i := fun k l1 i z => by rw [fr2 k l1 i (by omega)]; exact fr1a k l1 i (by omega)
        show Ev mX0_look 3 58 _ [vI v, vI 4, vR 5 0] ν2 _
        rcases hv with ⟨rfl, n4, hbks⟩ | hfi
        · have hbr : ∀ s, 0 ≤ s → s < μ 13 0 (μ 11 0 1) → ν2 16 0 s = bkr (Nt μ 0) s := fun s a b => (bkr_u h.1 n3 n4 a b (hbks s a b).1.1 (hbks s a b).1.2 (hbks s a b).2).symm
          have gb := bN_GB h.1 n2 n3 n4
          have hbk : ∀ s, 0 ≤ s → s < ν2 13 0 (ν2 11 0 1) → (0 ≤ ν2 16 0 s ∧ ν2 16 0 s < ν2 13 0 (ν2 11 0 1)) ∧ ν2 16 0 (ν2 16 0 s) = s ∧ ν2 16 0 s ≠ s := by
            rw [fr2a 11 0 1 (by omega), fr2a 13 0 _ (by omega)]
            intro s a b
            have z := gb.1 s a b
            have w := gb.2.2 s a b
            rw [hbr s a b]
            refine ⟨z.2.1, ?_, fun q => ?_⟩
            · rw [hbr (bkr (Nt μ 0) s) z.2.1.1 z.2.1.2]; exact z.2.2.1
            · have z3 : (Nt μ 0) 3 (bkr (Nt μ 0) s) = (Nt μ 0) 3 (nx (Nt μ 0) s) := z.2.2.2
              rw [q] at z3
              exact w z3.symm
          have hhalf := cE_half hn.1 (bk := ν2 16 0) (by rw [fr2a 11 0 1 (by omega), fr2a 13 0 _ (by omega)] at hbk; exact hbk)
          refine e_callVr (M' := mX0_tells) (dec_at dX0_look 34) mlX0_31 (c_tellsN 4) oX0_tells iX0_tells rfl rfl rfl rfl (by decide) (by decide) (Nat.le_of_ble_eq_true rfl) ?_
          refine e_if_eq 65 (dec_at dX0_look 35) (by decide) (by decide) (fun _ => ?_) (fun z => absurd rfl z)
          refine e_aload_n 1 (dec_at dX0_look 37) rfl rfl ?_
          refine e_callV (M' := mX2_numberEdges) (dec_at dX0_look 38) mlX0_41 (c_numberEdges (μ := ν2) 0 (by rw [fr2a 11 0 1 (by omega)]; omega) (by rw [fr2a 11 0 1 (by omega), fr2a 13 0 _ (by omega)]; omega) hbk (by rw [fr2a 11 0 1 (by omega), fr2a 13 0 _ (by omega)]; omega)) oX2_numberEdges iX2_numberEdges rfl rfl rfl rfl (by decide) (by decide) (Nat.le_of_ble_eq_true rfl) (fun r ν3 hQ => ?_)
          obtain ⟨rfl, fr3, q2, q3, q4⟩ := hQ
          have fr3a : ∀ (k : Nat) (l1 i : Int), ¬ (k = 5 ∨ k = 6 ∨ (l1 = 0 ∧ (16 ≤ k ∧ k ≤ 18 ∨ k = 11 ∧ i = 2))) → ν3 k l1 i = μ k l1 i := fun k l1 i z => by rw [fr3 k l1 i (by omega)]; exact fr2a k l1 i (by omega)
          rw [fr2a 11 0 1 (by omega), fr2a 13 0 _ (by omega)] at q2 q3 q4
          show Ev mX0_look 3 69 _ [] ν3 _
          refine e_aload_n 1 (dec_at dX0_look 39) rfl rfl ?_
          refine e_callV (M' := mX2_findDoors) (dec_at dX0_look 40) mlX0_44 (c_findDoors (μ := ν3) 0 (by rw [fr3a 11 0 0 (by omega)]; omega) (by rw [fr3a 11 0 1 (by omega)]; omega) (by rw [fr3a 11 0 1 (by omega), fr3a 13 0 _ (by omega)]; omega) (fun s a b => by rw [fr3a 11 0 1 (by omega), fr3a 13 0 _ (by omega)] at b; rw [fr3a 14 0 _ (by omega), fr3a 11 0 0 (by omega)]; exact h.1.2.2 s a b)) oX2_findDoors iX2_findDoors rfl rfl rfl rfl (by decide) (by decide) (Nat.le_of_ble_eq_true rfl) (fun r ν4 hQ => ?_)
          obtain ⟨rfl, fr4, q5⟩ := hQ
          have fr4a : ∀ (k : Nat) (l1 i : Int), ¬ (k = 5 ∨ k = 6 ∨ (l1 = 0 ∧ (16 ≤ k ∧ k ≤ 20 ∨ k = 11 ∧ i = 2))) → ν4 k l1 i = μ k l1 i := fun k l1 i z => by rw [fr4 k l1 i (by omega)]; exact fr3a k l1 i (by omega)
          rw [fr3a 11 0 0 (by omega), fr3a 11 0 1 (by omega), fr3a 13 0 _ (by omega), show ν3 14 0 = μ 14 0 from funext (fun i => fr3a 14 0 i (by omega))] at q5
          have hX4 : XB ν4 := h.tr (fun k i a b c => fr4a k 0 i (by omega))
          have hdeg : ∀ c, 0 ≤ c → c < μ 11 0 0 → ν4 19 0 c = (deg (Nt μ 0) c : Int) := fun c a b => (q5 c a b).1
          have b16 : ∀ s, 0 ≤ s → s < μ 13 0 (μ 11 0 1) → ν4 16 0 s = bkr (Nt μ 0) s := fun s a b => by
            rw [fr4 16 0 s (by omega), fr3 16 0 s (by omega)]
            exact hbr s a b
          have n4e : ν4 13 0 (ν4 11 0 1) = μ 13 0 (μ 11 0 1) := by rw [fr4a 11 0 1 (by omega), fr4a 13 0 _ (by omega)]
          show Ev mX0_look 3 73 _ [] ν4 _
          refine e_aload_n 0 (dec_at dX0_look 41) rfl rfl ?_
          refine e_iconst (dec_at dX0_look 42) ?_
          refine e_aload_n 0 (dec_at dX0_look 43) rfl rfl ?_
          refine e_aload_n 1 (dec_at dX0_look 44) rfl rfl ?_
          refine e_iconst (dec_at dX0_look 45) ?_
          refine e_callV (M' := mX0_cornerOfDegree) (dec_at dX0_look 46) mlX0_47 (c_ofDegree (μ := ν4) 0 hX4 (by decide)) oX0_cornerOfDegree iX0_cornerOfDegree rfl rfl rfl rfl (by decide) (by decide) (Nat.le_of_ble_eq_true rfl) (fun r ν5 hQ => ?_)
          obtain ⟨rfl, v, rfl, hv⟩ := hQ
          rw [fr4a 11 0 0 (by omega)] at hv
          show Ev mX0_look 3 81 _ [vI v, vI 5, vR 5 0] ν5 _
          rcases hv with ⟨rfl, n5z⟩ | hfi
          · have n5 : No (fLo (Nt μ 0)) (μ 11 0 0) := n5z.cg (fun c a b => by rw [hdeg c a b]; show (deg (Nt μ 0) c : Int) = 0 ↔ deg (Nt μ 0) c = 0; omega)
            have hdr : ∀ c, 0 ≤ c → c < μ 11 0 0 → (0 ≤ ν5 20 0 c ∧ ν5 20 0 c < μ 13 0 (μ 11 0 1)) ∧ μ 14 0 (ν5 20 0 c) = c := fun c a b => by
              have z := (q5 c a b).2 (fun q => n5 c a b q)
              exact ⟨z.1, z.2.1⟩
            refine e_callVr (M' := mX0_tells) (dec_at dX0_look 47) mlX0_31 (c_tellsN 5) oX0_tells iX0_tells rfl rfl rfl rfl (by decide) (by decide) (Nat.le_of_ble_eq_true rfl) ?_
            refine e_if_eq 88 (dec_at dX0_look 48) (by decide) (by decide) (fun _ => ?_) (fun z => absurd rfl z)
            refine e_aload_n 0 (dec_at dX0_look 50) rfl rfl ?_
            refine e_bipush (dec_at dX0_look 51) (by decide) ?_
            refine e_aload_n 0 (dec_at dX0_look 52) rfl rfl ?_
            refine e_aload_n 1 (dec_at dX0_look 53) rfl rfl ?_
            refine e_callV (M' := mX0_cornerPinched) (dec_at dX0_look 54) mlX0_51 (c_pinched (μ := ν5) hX4 (fun s a b => by rw [n4e] at b ⊢; rw [b16 s a b]; exact (bkr_s h.1 n4 a b).1) (fun c a b => by rw [fr4a 11 0 0 (by omega)] at b; rw [n4e]; exact (hdr c a b).1)) oX0_cornerPinched iX0_cornerPinched rfl rfl rfl rfl (by decide) (by decide) (Nat.le_of_ble_eq_true rfl) (fun r ν6 hQ => ?_)
            obtain ⟨rfl, v, rfl, hv⟩ := hQ
            rw [fr4a 11 0 0 (by omega)] at hv
            have hpin : ∀ c, 0 ≤ c → c < μ 11 0 0 → ((∃ k : Nat, 0 < k ∧ k < ν6 19 0 c ∧ it (rho (Nt ν6 0)) k (ν6 20 0 c) = ν6 20 0 c) ↔ fPi (Nt μ 0) c) := by
              intro c a b
              have z := hdr c a b
              rw [pin_iff h.1 n2 n3 n4 z.1.1 z.1.2 z.2]
              have e : ∀ k, it (rho (Nt ν6 0)) k (ν6 20 0 c) = it (rho (bN (Nt μ 0))) k (ν6 20 0 c) := fun k => by
                have w := it_bk (bk := ν6 16 0) h.1 n2 n3 n4 b16 z.1.1 z.1.2 k
                rw [← w]
                have e3 : rho (Nt ν6 0) = fun s => ν6 16 0 (pv (Nt μ 0) s) := by
                  funext s
                  show ν6 16 0 (pvF (ν6 13 0) (ν6 15 0) s) = ν6 16 0 (pvF (μ 13 0) (μ 15 0) s)
                  rw [show ν6 13 0 = μ 13 0 from funext (fun i => fr4a 13 0 i (by omega)), show ν6 15 0 = μ 15 0 from funext (fun i => fr4a 15 0 i (by omega))]
                rw [e3]
              constructor
              · rintro ⟨k, k0, k1, k2⟩
                rw [hdeg c a b] at k1
                exact ⟨k, k0, by omega, by rw [← e k]; exact k2⟩
              · rintro ⟨k, k0, k1, k2⟩
                exact ⟨k, k0, by rw [hdeg c a b]; omega, by rw [e k]; exact k2⟩
            show Ev mX0_look 3 96 _ [vI v, vI 6, vR 5 0] ν6 _
            rcases hv with ⟨rfl, n6z⟩ | hfi
            · have n6 : No (fPi (Nt μ 0)) (μ 11 0 0) := n6z.cg hpin
              refine e_callVr (M' := mX0_tells) (dec_at dX0_look 55) mlX0_31 (c_tellsN 6) oX0_tells iX0_tells rfl rfl rfl rfl (by decide) (by decide) (Nat.le_of_ble_eq_true rfl) ?_
              refine e_if_eq 103 (dec_at dX0_look 56) (by decide) (by decide) (fun _ => ?_) (fun z => absurd rfl z)
              refine e_aload_n 0 (dec_at dX0_look 58) rfl rfl ?_
              refine e_bipush (dec_at dX0_look 59) (by decide) ?_
              refine e_aload_n 0 (dec_at dX0_look 60) rfl rfl ?_
              refine e_aload_n 1 (dec_at dX0_look 61) rfl rfl ?_
              refine e_iconst (dec_at dX0_look 62) ?_
              refine e_callV (M' := mX0_cornerOfDegree) (dec_at dX0_look 63) mlX0_47 (c_ofDegree (μ := ν6) 2 hX4 (by decide)) oX0_cornerOfDegree iX0_cornerOfDegree rfl rfl rfl rfl (by decide) (by decide) (Nat.le_of_ble_eq_true rfl) (fun r ν7 hQ => ?_)
              obtain ⟨rfl, v, rfl, hv⟩ := hQ
              rw [fr4a 11 0 0 (by omega)] at hv
              show Ev mX0_look 3 112 _ [vI v, vI 7, vR 5 0] ν7 _
              rcases hv with ⟨rfl, n7z⟩ | hfi
              · have n7 : No (fTh (Nt μ 0)) (μ 11 0 0) := n7z.cg (fun c a b => by rw [hdeg c a b]; show (deg (Nt μ 0) c : Int) = 2 ↔ deg (Nt μ 0) c = 2; omega)
                refine e_callVr (M' := mX0_tells) (dec_at dX0_look 64) mlX0_31 (c_tellsN 7) oX0_tells iX0_tells rfl rfl rfl rfl (by decide) (by decide) (Nat.le_of_ble_eq_true rfl) ?_
                refine e_pop (dec_at dX0_look 65) rfl ?_
                refine e_return (dec_at dX0_look 66) rfl ?_
                have f54 : ν7 5 0 1 = 0 ∧ ν7 5 0 2 = -1 := by
                  rw [fr4 5 0 1 (by omega), fr3 5 0 1 (by omega), fr2 5 0 1 (by omega), fr1 5 0 1 (by omega), fr4 5 0 2 (by omega), fr3 5 0 2 (by omega), fr2 5 0 2 (by omega), fr1 5 0 2 (by omega)]
                  exact f5
                have hG := bN_good h.1 n2 n3 n4 n5 n6 n7
                refine ⟨rfl, fr4a, ?_, fun _ => ?_⟩
                · rw [f54.1, f54.2]
                  exact Or.inr ⟨hP0, Or.inr ⟨n2, Or.inr ⟨n3, Or.inr ⟨n4, Or.inr ⟨n5, Or.inr ⟨n6, Or.inr ⟨n7, ⟨rfl, rfl⟩⟩⟩⟩⟩⟩⟩⟩
                · have xn : nN (Nt ν7 0) = μ 13 0 (μ 11 0 1) := n4e
                  have x0 : ν7 11 0 0 = μ 11 0 0 := fr4a 11 0 0 (by omega)
                  have x14 : ν7 14 0 = μ 14 0 := funext (fun i => fr4a 14 0 i (by omega))
                  have x16 : ν7 16 0 = ν2 16 0 := funext (fun i => by rw [fr4 16 0 i (by omega), fr3 16 0 i (by omega)])
                  have y17 : ∀ i, ν7 17 0 i = ν3 17 0 i := fun i => fr4 17 0 i (by omega)
                  have h5 : Pre5 (bN (Nt μ 0)) (Nt ν7 0) := ⟨(fr4a 11 0 0 (by omega)).symm, (fr4a 11 0 1 (by omega)).symm, fun f a b => (fr4a 13 0 f (by omega)).symm, fun s a b => ⟨(fr4a 14 0 s (by omega)).symm, (fr4a 15 0 s (by omega)).symm, (b16 s a b).symm⟩⟩
                  refine h5.good hG.1 hG.2 ⟨⟨?_, fun s a b => ?_, fun s a b c => ?_⟩, fun c a b => ?_⟩
                  · show ν7 11 0 2 = cE (ν7 16 0) (nN (Nt ν7 0))
                    rw [fr4 11 0 2 (by omega), q2, x16, xn]
                  · show ν7 17 0 s = if ν7 16 0 s < s then cE (ν7 16 0) (ν7 16 0 s) else cE (ν7 16 0) s
                    rw [xn] at b
                    rw [y17, x16]
                    exact q3 s a b
                  · rw [xn] at b
                    show ν7 18 0 (cE (ν7 16 0) s) = s
                    have c : fm (ν7 16 0) s := c
                    rw [x16] at c ⊢
                    rw [fr4 18 0 _ (by omega)]
                    exact q4 s a b c
                  · have b : c < ν7 11 0 0 := b
                    rw [x0] at b
                    have z := q5 c a b
                    have e2 : deg (Nt ν7 0) c = ct (fun t => μ 14 0 t = c) (μ 13 0 (μ 11 0 1)).toNat := by
                      unfold deg
                      rw [xn]
                      show ct (fun s => ν7 14 0 s = c) _ = _
                      rw [x14]
                    have z2 := z.2 (fun q => n5 c a b q)
                    refine ⟨by rw [e2]; exact z.1, by rw [xn]; exact z2.1, ?_, fun s p q r => ?_⟩
                    · show ν7 14 0 (ν7 20 0 c) = c
                      rw [x14]; exact z2.2.1
                    · show ν7 17 0 (ν7 20 0 c) ≤ ν7 17 0 s
                      rw [xn] at q
                      have r : ν7 14 0 s = c := r
                      rw [x14] at r
                      rw [y17, y17]
                      exact z2.2.2 s p q r
              · have hfi := hfi.cg (q := fTh (Nt μ 0)) (fun c a b => by rw [hdeg c a b]; show (deg (Nt μ 0) c : Int) = 2 ↔ deg (Nt μ 0) c = 2; omega)
                have hfr := hfi.1
                refine e_callVr (M' := mX0_tells) (dec_at dX0_look 64) mlX0_31 (c_tellsY 7 v (by decide) (by omega) (by omega)) oX0_tells iX0_tells rfl rfl rfl rfl (by decide) (by decide) (Nat.le_of_ble_eq_true rfl) ?_
                refine e_pop (dec_at dX0_look 65) rfl ?_
                refine e_return (dec_at dX0_look 66) rfl ?_
                refine ⟨rfl, ?_, ?_, fun z => ?_⟩
                · intro k l1 i z
                  rw [mset_ne (by omega), mset_ne (by omega)]
                  exact fr4a k l1 i (by omega)
                · rw [mset_i (by decide), mset_eq, mset_eq]
                  exact Or.inr ⟨hP0, Or.inr ⟨n2, Or.inr ⟨n3, Or.inr ⟨n4, Or.inr ⟨n5, Or.inr ⟨n6, Or.inl ⟨rfl, hfi⟩⟩⟩⟩⟩⟩⟩
                · rw [mset_i (by decide), mset_eq] at z
                  exact absurd z (by decide)
            · have hfr := hfi.1
              refine e_callVr (M' := mX0_tells) (dec_at dX0_look 55) mlX0_31 (c_tellsY 6 v (by decide) (by omega) (by omega)) oX0_tells iX0_tells rfl rfl rfl rfl (by decide) (by decide) (Nat.le_of_ble_eq_true rfl) ?_
              refine e_if_eq 103 (dec_at dX0_look 56) (by decide) (by decide) (fun z => absurd z (by decide)) (fun _ => ?_)
              refine e_return (dec_at dX0_look 57) rfl ?_
              have hfi := hfi.cg hpin
              refine ⟨rfl, ?_, ?_, fun z => ?_⟩
              · intro k l1 i z
                rw [mset_ne (by omega), mset_ne (by omega)]
                exact fr4a k l1 i (by omega)
              · rw [mset_i (by decide), mset_eq, mset_eq]
                exact Or.inr ⟨hP0, Or.inr ⟨n2, Or.inr ⟨n3, Or.inr ⟨n4, Or.inr ⟨n5, Or.inl ⟨rfl, hfi⟩⟩⟩⟩⟩⟩
              · rw [mset_i (by decide), mset_eq] at z
                exact absurd z (by decide)
          · have hfr := hfi.1
            refine e_callVr (M' := mX0_tells) (dec_at dX0_look 47) mlX0_31 (c_tellsY 5 v (by decide) (by omega) (by omega)) oX0_tells iX0_tells rfl rfl rfl rfl (by decide) (by decide) (Nat.le_of_ble_eq_true rfl) ?_
            refine e_if_eq 88 (dec_at dX0_look 48) (by decide) (by decide) (fun z => absurd z (by decide)) (fun _ => ?_)
            refine e_return (dec_at dX0_look 49) rfl ?_
            have hfi := hfi.cg (q := fLo (Nt μ 0)) (fun c a b => by rw [hdeg c a b]; show (deg (Nt μ 0) c : Int) = 0 ↔ deg (Nt μ 0) c = 0; omega)
            refine ⟨rfl, ?_, ?_, fun z => ?_⟩
            · intro k l1 i z
              rw [mset_ne (by omega), mset_ne (by omega)]
              exact fr4a k l1 i (by omega)
            · rw [mset_i (by decide), mset_eq, mset_eq]
              exact Or.inr ⟨hP0, Or.inr ⟨n2, Or.inr ⟨n3, Or.inr ⟨n4, Or.inl ⟨rfl, hfi⟩⟩⟩⟩⟩
            · rw [mset_i (by decide), mset_eq] at z
              exact absurd z (by decide)
        · have hfr := hfi.1
          refine e_callVr (M' := mX0_tells) (dec_at dX0_look 34) mlX0_31 (c_tellsY 4 v (by decide) (by omega) (by omega)) oX0_tells iX0_tells rfl rfl rfl rfl (by decide) (by decide) (Nat.le_of_ble_eq_true rfl) ?_
          refine e_if_eq 65 (dec_at dX0_look 35) (by decide) (by decide) (fun z => absurd z (by decide)) (fun _ => ?_)
          refine e_return (dec_at dX0_look 36) rfl ?_
          refine ⟨rfl, ?_, ?_, fun z => ?_⟩
          · intro k l1 i z
            rw [mset_ne (by omega), mset_ne (by omega)]
            exact fr2a k l1 i (by omega)
          · rw [mset_i (by decide), mset_eq, mset_eq]
            exact Or.inr ⟨hP0, Or.inr ⟨n2, Or.inr ⟨n3, Or.inl ⟨rfl, hfi⟩⟩⟩⟩
          · rw [mset_i (by decide), mset_eq] at z
            exact absurd z (by decide)
      · have hfr := hfi.1
        refine e_callVr (M' := mX0_tells) (dec_at dX0_look 26) mlX0_31 (c_tellsY 3 v (by decide) (by omega) (by omega)) oX0_tells iX0_tells rfl rfl rfl rfl (by decide) (by decide) (Nat.le_of_ble_eq_true rfl) ?_
        refine e_if_eq 51 (dec_at dX0_look 27) (by decide) (by decide) (fun z => absurd z (by decide)) (fun _ => ?_)
        refine e_return (dec_at dX0_look 28) rfl ?_
        refine ⟨rfl, ?_, ?_, fun z => ?_⟩
        · intro k l1 i z
          rw [mset_ne (by omega), mset_ne (by omega)]
          exact fr1a k l1 i (by omega)
        · rw [mset_i (by decide), mset_eq, mset_eq]
          exact Or.inr ⟨hP0, Or.inr ⟨n2, Or.inl ⟨rfl, hfi⟩⟩⟩
        · rw [mset_i (by decide), mset_eq] at z
          exact absurd z (by decide)
    · have hfr := hfi.1
      refine e_callVr (M' := mX0_tells) (dec_at dX0_look 18) mlX0_31 (c_tellsY 2 v (by decide) (by omega) (by omega)) oX0_tells iX0_tells rfl rfl rfl rfl (by decide) (by decide) (Nat.le_of_ble_eq_true rfl) ?_
      refine e_if_eq 37 (dec_at dX0_look 19) (by decide) (by decide) (fun z => absurd z (by decide)) (fun _ => ?_)
      refine e_return (dec_at dX0_look 20) rfl ?_
      refine ⟨rfl, ?_, ?_, fun z => ?_⟩
      · intro k l1 i z
        rw [mset_ne (by omega), mset_ne (by omega)]
        exact fr0 k l1 i (by omega)
      · rw [mset_i (by decide), mset_eq, mset_eq]
        exact Or.inr ⟨hP0, Or.inl ⟨rfl, hfi⟩⟩
      · rw [mset_i (by decide), mset_eq] at z
        exact absurd z (by decide)
  · refine e_aload_n 0 (dec_at dX0_look 9) rfl rfl ?_
    refine e_iconst (dec_at dX0_look 10) ?_
    refine e_put 1 1 (dec_at dX0_look 11) flX0_15 fpX0_1 rfl rfl rfl (by omega) (fit_int _) ?_
    refine e_return (dec_at dX0_look 12) rfl ?_
    refine ⟨rfl, fun k l1 i z => ?_, ?_, fun z => ?_⟩
    · rw [mset_k (by omega), mset_k (by omega), mset_k (by omega)]
    · rw [mset_eq, mset_i (by decide), mset_eq]
      exact Or.inl ⟨h14, rfl, rfl⟩
    · rw [mset_eq] at z
      exact absurd z (by decide)
