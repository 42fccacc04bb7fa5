/-! THE REFERENCE's edges -/
def PR (μ : Mm) (l a b e : Int) : Prop := (gA μ l e = a ∧ gB μ l e = b) ∨ (gA μ l e = b ∧ gB μ l e = a)

set_option maxRecDepth 100000 in
set_option maxHeartbeats 4000000 in
theorem l_edgeOf {μ : Mm} {l a b : Int} (hl : 0 ≤ l ∧ l ≤ 3) (hn : 0 ≤ μ 25 0 l ∧ μ 25 0 l ≤ 350) (ha : inR a) (hb : inR b) : ∀ (q : Nat) (e : Int), (μ 25 0 l - e).toNat = q → 0 ≤ e → e ≤ μ 25 0 l → (∀ i, 0 ≤ i → i < e → ¬ PR μ l a b i) → Ev mX6_edgeOf 0 3 [some (vR 21 0), some (vI l), some (vI a), some (vI b), some (vI e), none] [] μ (fun r ν => ν = μ ∧ ∃ v, r = some (vI v) ∧ ((v = -1 ∧ ∀ e, 0 ≤ e → e < μ 25 0 l → ¬ PR μ l a b e) ∨ ((0 ≤ v ∧ v < μ 25 0 l) ∧ PR μ l a b v))) := by
  intro q
  induction q using Nat.strongRecOn with
  | _ q ih =>
  intro e hq e0 e1 he
  refine e_iload (dec_at dX6_edgeOf 2) rfl ?_
  refine e_aload_n 0 (dec_at dX6_edgeOf 3) rfl rfl ?_
  refine e_getr 9 (dec_at dX6_edgeOf 4) flX6_19 rfl rfl ?_
  refine e_iload_n 1 (dec_at dX6_edgeOf 5) rfl rfl ?_
  refine e_iald (dec_at dX6_edgeOf 6) rfl (by decide) (aLk_25 _) (by omega) (fun r10 => ?_)
  refine e_icmp_ge 77 (dec_at dX6_edgeOf 7) (by decide) (by omega) (by omega) (fun h11 => ?_) (fun h11 => ?_)
  · refine e_iconst (dec_at dX6_edgeOf 42) ?_
    refine e_ireturn (dec_at dX6_edgeOf 43) rfl ?_
    exact ⟨rfl, -1, rfl, Or.inl ⟨rfl, fun i i0 i1 => he i i0 (by omega)⟩⟩
  · refine e_sipush (dec_at dX6_edgeOf 8) (by decide) ?_
    refine e_iload_n 1 (dec_at dX6_edgeOf 9) rfl rfl ?_
    refine e_imul (dec_at dX6_edgeOf 10) ?_
    refine e_iload (dec_at dX6_edgeOf 11) rfl ?_
    refine e_iadd (dec_at dX6_edgeOf 12) ?_
    refine e_is5 (dec_at dX6_edgeOf 13) (by decide) rfl ?_
    refine e_aload_n 0 (dec_at dX6_edgeOf 14) rfl rfl ?_
    refine e_getr 14 (dec_at dX6_edgeOf 15) flX6_34 rfl rfl ?_
    refine e_iload (dec_at dX6_edgeOf 16) rfl ?_
    refine e_iald (dec_at dX6_edgeOf 17) rfl (by decide) (aLk_30 _) (by omega) (fun r30 => ?_)
    refine e_iload_n 2 (dec_at dX6_edgeOf 18) rfl rfl ?_
    refine e_icmp_ne 46 (dec_at dX6_edgeOf 19) (by decide) (by omega) (by omega) (fun h32 => ?_) (fun h32 => ?_)
    · refine e_aload_n 0 (dec_at dX6_edgeOf 26) rfl rfl ?_
      refine e_getr 14 (dec_at dX6_edgeOf 27) flX6_34 rfl rfl ?_
      refine e_iload (dec_at dX6_edgeOf 28) rfl ?_
      refine e_iald (dec_at dX6_edgeOf 29) rfl (by decide) (aLk_30 _) (by omega) (fun r52 => ?_)
      refine e_iload_n 3 (dec_at dX6_edgeOf 30) rfl rfl ?_
      refine e_icmp_ne 71 (dec_at dX6_edgeOf 31) (by decide) (by omega) (by omega) (fun h54 => ?_) (fun h54 => ?_)
      · refine e_ii4 (dec_at dX6_edgeOf 40) (by decide) rfl ?_
        refine e_goto 3 (dec_at dX6_edgeOf 41) (by decide) ?_
        refine e_le [some (vR 21 0), some (vI l), some (vI a), some (vI b), some (vI (e + 1)), none] (by simp [leL]) (ih _ (by omega) (e + 1) rfl (by omega) (by omega) (fun i i0 i1 => ?_))
        by_cases q : i = e
        · subst q
          unfold PR gA gB
          omega
        · exact he i i0 (by omega)
      · refine e_aload_n 0 (dec_at dX6_edgeOf 32) rfl rfl ?_
        refine e_getr 15 (dec_at dX6_edgeOf 33) flX6_37 rfl rfl ?_
        refine e_iload (dec_at dX6_edgeOf 34) rfl ?_
        refine e_iald (dec_at dX6_edgeOf 35) rfl (by decide) (aLk_31 _) (by omega) (fun r63 => ?_)
        refine e_iload_n 2 (dec_at dX6_edgeOf 36) rfl rfl ?_
        refine e_icmp_ne 71 (dec_at dX6_edgeOf 37) (by decide) (by omega) (by omega) (fun h65 => ?_) (fun h65 => ?_)
        · refine e_ii4 (dec_at dX6_edgeOf 40) (by decide) rfl ?_
          refine e_goto 3 (dec_at dX6_edgeOf 41) (by decide) ?_
          refine e_le [some (vR 21 0), some (vI l), some (vI a), some (vI b), some (vI (e + 1)), none] (by simp [leL]) (ih _ (by omega) (e + 1) rfl (by omega) (by omega) (fun i i0 i1 => ?_))
          by_cases q : i = e
          · subst q
            unfold PR gA gB
            omega
          · exact he i i0 (by omega)
        · refine e_iload (dec_at dX6_edgeOf 38) rfl ?_
          refine e_ireturn (dec_at dX6_edgeOf 39) rfl ?_
          exact ⟨rfl, e, rfl, Or.inr ⟨by omega, by unfold PR gA gB; omega⟩⟩
    · refine e_aload_n 0 (dec_at dX6_edgeOf 20) rfl rfl ?_
      refine e_getr 15 (dec_at dX6_edgeOf 21) flX6_37 rfl rfl ?_
      refine e_iload (dec_at dX6_edgeOf 22) rfl ?_
      refine e_iald (dec_at dX6_edgeOf 23) rfl (by decide) (aLk_31 _) (by omega) (fun r41 => ?_)
      refine e_iload_n 3 (dec_at dX6_edgeOf 24) rfl rfl ?_
      refine e_icmp_eq 68 (dec_at dX6_edgeOf 25) (by decide) (by omega) (by omega) (fun h43 => ?_) (fun h43 => ?_)
      · refine e_iload (dec_at dX6_edgeOf 38) rfl ?_
        refine e_ireturn (dec_at dX6_edgeOf 39) rfl ?_
        exact ⟨rfl, e, rfl, Or.inr ⟨by omega, by unfold PR gA gB; omega⟩⟩
      · refine e_aload_n 0 (dec_at dX6_edgeOf 26) rfl rfl ?_
        refine e_getr 14 (dec_at dX6_edgeOf 27) flX6_34 rfl rfl ?_
        refine e_iload (dec_at dX6_edgeOf 28) rfl ?_
        refine e_iald (dec_at dX6_edgeOf 29) rfl (by decide) (aLk_30 _) (by omega) (fun r52 => ?_)
        refine e_iload_n 3 (dec_at dX6_edgeOf 30) rfl rfl ?_
        refine e_icmp_ne 71 (dec_at dX6_edgeOf 31) (by decide) (by omega) (by omega) (fun h54 => ?_) (fun h54 => ?_)
        · refine e_ii4 (dec_at dX6_edgeOf 40) (by decide) rfl ?_
          refine e_goto 3 (dec_at dX6_edgeOf 41) (by decide) ?_
          refine e_le [some (vR 21 0), some (vI l), some (vI a), some (vI b), some (vI (e + 1)), none] (by simp [leL]) (ih _ (by omega) (e + 1) rfl (by omega) (by omega) (fun i i0 i1 => ?_))
          by_cases q : i = e
          · subst q
            unfold PR gA gB
            omega
          · exact he i i0 (by omega)
        · refine e_aload_n 0 (dec_at dX6_edgeOf 32) rfl rfl ?_
          refine e_getr 15 (dec_at dX6_edgeOf 33) flX6_37 rfl rfl ?_
          refine e_iload (dec_at dX6_edgeOf 34) rfl ?_
          refine e_iald (dec_at dX6_edgeOf 35) rfl (by decide) (aLk_31 _) (by omega) (fun r63 => ?_)
          refine e_iload_n 2 (dec_at dX6_edgeOf 36) rfl rfl ?_
          refine e_icmp_ne 71 (dec_at dX6_edgeOf 37) (by decide) (by omega) (by omega) (fun h65 => ?_) (fun h65 => ?_)
          · refine e_ii4 (dec_at dX6_edgeOf 40) (by decide) rfl ?_
            refine e_goto 3 (dec_at dX6_edgeOf 41) (by decide) ?_
            refine e_le [some (vR 21 0), some (vI l), some (vI a), some (vI b), some (vI (e + 1)), none] (by simp [leL]) (ih _ (by omega) (e + 1) rfl (by omega) (by omega) (fun i i0 i1 => ?_))
            by_cases q : i = e
            · subst q
              unfold PR gA gB
              omega
            · exact he i i0 (by omega)
          · refine e_iload (dec_at dX6_edgeOf 38) rfl ?_
            refine e_ireturn (dec_at dX6_edgeOf 39) rfl ?_
            exact ⟨rfl, e, rfl, Or.inr ⟨by omega, by unfold PR gA gB; omega⟩⟩

set_option maxRecDepth 100000 in
set_option maxHeartbeats 4000000 in
theorem m_edgeOf {μ : Mm} (l a b : Int) (hl : 0 ≤ l ∧ l ≤ 3) (hn : 0 ≤ μ 25 0 l ∧ μ 25 0 l ≤ 350) (ha : inR a) (hb : inR b) : Mc mX6_edgeOf 0 [vR 21 0, vI l, vI a, vI b] μ (fun r ν => ν = μ ∧ ∃ v, r = some (vI v) ∧ ((v = -1 ∧ ∀ e, 0 ≤ e → e < μ 25 0 l → ¬ PR μ l a b e) ∨ ((0 ≤ v ∧ v < μ 25 0 l) ∧ PR μ l a b v))) := by
  refine Mc.of (L := [some (vR 21 0), some (vI l), some (vI a), some (vI b), none, none]) (by decide +kernel) (by simp [leL, entA, isLong, mX6_edgeOf]) (by simp [entA, isLong, mX6_edgeOf]) ?_
  refine e_iconst (dec_at dX6_edgeOf 0) ?_
  refine e_is4 (dec_at dX6_edgeOf 1) (by decide) rfl ?_
  exact l_edgeOf hl hn ha hb _ 0 rfl (by omega) (by omega) (fun i a b => by omega)

/-- an edge of the net is found by its ends -/
theorem ed_fd {B : Net} (g : Good B) {s e : Int} (h0 : 0 ≤ s) (h1 : s < nN B) (e0 : 0 ≤ e) (e1 : e < B 0 2) (q : (B 3 (B 7 e) = B 3 s ∧ B 3 (nx B (B 7 e)) = B 3 (nx B s)) ∨ (B 3 (B 7 e) = B 3 (nx B s) ∧ B 3 (nx B (B 7 e)) = B 3 s)) : e = B 6 s := by
  have m := g.mt e0 e1
  rcases q with q | q
  · have z := g.1.u m.1.1 m.1.2 h0 h1 q.1 q.2
    rw [← z]; exact m.2.2.1.symm
  · have b := g.1.b1 h0 h1
    have z := g.1.u m.1.1 m.1.2 b.2.1.1 b.2.1.2 (by rw [q.1, b.2.2.2]) (by rw [q.2, g.1.tgt h0 h1])
    rw [← g.eob h0 h1, ← z]; exact m.2.2.1.symm
theorem ed_is {B : Net} (g : Good B) {s : Int} (h0 : 0 ≤ s) (h1 : s < nN B) : (B 3 (B 7 (B 6 s)) = B 3 s ∧ B 3 (nx B (B 7 (B 6 s))) = B 3 (nx B s)) ∨ (B 3 (B 7 (B 6 s)) = B 3 (nx B s) ∧ B 3 (nx B (B 7 (B 6 s))) = B 3 s) := by
  have r := g.eor h0 h1
  have m := g.mt r.1 r.2
  have b := g.1.b1 h0 h1
  rcases g.eoe h0 h1 m.1.1 m.1.2 m.2.2.1.symm with z | z
  · rw [z]; exact Or.inl ⟨rfl, rfl⟩
  · rw [z]; exact Or.inr ⟨b.2.2.2, g.1.tgt h0 h1⟩
theorem edgeV {μ : Mm} {B : Net} {l s v : Int} (g : Good B) (k : ME μ l B) (h0 : 0 ≤ s) (h1 : s < nN B) (hv : (v = -1 ∧ ∀ e, 0 ≤ e → e < μ 25 0 l → ¬ PR μ l (B 3 s) (B 3 (nx B s)) e) ∨ ((0 ≤ v ∧ v < μ 25 0 l) ∧ PR μ l (B 3 s) (B 3 (nx B s)) v)) : v = B 6 s := by
  rcases hv with ⟨_, q⟩ | ⟨v1, q⟩
  · have r := g.eor h0 h1
    refine absurd ?_ (q (B 6 s) r.1 (by rw [k.2.1]; exact r.2))
    have z := k.2.2 _ r.1 r.2
    unfold PR
    rw [z.1, z.2]
    exact ed_is g h0 h1
  · rw [k.2.1] at v1
    have z := k.2.2 v v1.1 v1.2
    unfold PR at q
    rw [z.1, z.2] at q
    exact ed_fd g h0 h1 v1.1 v1.2 q

theorem MP.fre {μ ν : Mm} {B : Net} {l : Int} (h : MP μ l B) (f : (∀ k l1 i, ¬ (l1 = 0 ∧ (k = 25 ∧ i = l ∨ (k = 30 ∨ k = 31) ∧ 350 * l ≤ i ∧ i < 350 * l + 350)) → ν k l1 i = μ k l1 i)) : MP ν l B := h.fr (f 23 0 l (by omega)) (f 24 0 l (by omega)) (fun i _ _ => ⟨f 27 0 i (by omega), f 28 0 i (by omega)⟩) (fun i _ _ => f 29 0 i (by omega))
theorem cEs_t {bk : Int → Int} {s : Int} (h0 : 0 ≤ s) (h : fm bk s) : cE bk (s + 1) = cE bk s + 1 := ctz_t (p := fm bk) h0 h
theorem cEs_f {bk : Int → Int} {s : Int} (h0 : 0 ≤ s) (h : ¬ fm bk s) : cE bk (s + 1) = cE bk s := ctz_f (p := fm bk) h0 h
theorem cE_surj {bk : Int → Int} {s e : Int} (h0 : 0 ≤ e) (h1 : e < cE bk s) : ∃ t, 0 ≤ t ∧ t < s ∧ fm bk t ∧ cE bk t = e := by
  obtain ⟨t, a, b, c⟩ := ct_surj (p := fm bk) s.toNat e.toNat (by unfold cE at h1; omega)
  exact ⟨t, by omega, by omega, b, by unfold cE; rw [Int.toNat_natCast]; omega⟩

set_option maxRecDepth 100000 in
set_option maxHeartbeats 4000000 in
theorem l_fe2 {μ : Mm} {B : Net} {l : Int} (g : Good B) (h : MP μ l B) (hE : B 0 2 ≤ 350) {f : Int} (f0 : 0 ≤ f) (f1 : f < B 0 1) : ∀ (q : Nat) (k : Int) (ν : Mm), (B 2 (f + 1) - B 2 f - k).toNat = q → 0 ≤ k → k ≤ B 2 (f + 1) - B 2 f → (∀ k l1 i, ¬ (l1 = 0 ∧ (k = 25 ∧ i = l ∨ (k = 30 ∨ k = 31) ∧ 350 * l ≤ i ∧ i < 350 * l + 350)) → ν k l1 i = μ k l1 i) → (ν 25 0 l = cE (B 5) (B 2 f + k) ∧ ∀ t, 0 ≤ t → t < B 2 f + k → fm (B 5) t → gA ν l (cE (B 5) t) = B 3 t ∧ gB ν l (cE (B 5) t) = B 3 (nx B t)) → (∀ ν : Mm, (∀ k l1 i, ¬ (l1 = 0 ∧ (k = 25 ∧ i = l ∨ (k = 30 ∨ k = 31) ∧ 350 * l ≤ i ∧ i < 350 * l + 350)) → ν k l1 i = μ k l1 i) → (ν 25 0 l = cE (B 5) (B 2 (f + 1)) ∧ ∀ t, 0 ≤ t → t < B 2 (f + 1) → fm (B 5) t → gA ν l (cE (B 5) t) = B 3 t ∧ gB ν l (cE (B 5) t) = B 3 (nx B t)) → Ev mX6_findEdges 2 116 [some (vR 21 0), some (vI l), some (vI f), none, none, none] [] ν (fun r ν => r = none ∧ (∀ k l1 i, ¬ (l1 = 0 ∧ (k = 25 ∧ i = l ∨ (k = 30 ∨ k = 31) ∧ 350 * l ≤ i ∧ i < 350 * l + 350)) → ν k l1 i = μ k l1 i) ∧ ME ν l B)) → Ev mX6_findEdges 2 21 [some (vR 21 0), some (vI l), some (vI f), some (vI k), none, none] [] ν (fun r ν => r = none ∧ (∀ k l1 i, ¬ (l1 = 0 ∧ (k = 25 ∧ i = l ∨ (k = 30 ∨ k = 31) ∧ 350 * l ≤ i ∧ i < 350 * l + 350)) → ν k l1 i = μ k l1 i) ∧ ME ν l B) := by
  intro q
  induction q using Nat.strongRecOn with
  | _ q ih =>
  intro k ν hq k0 k1 fr hi K
  have hat := h.at f0 f1
  have hM := h.fre fr
  have c0 := cE_0 (B 5) (B 2 f + k)
  refine e_iload_n 3 (dec_at dX6_findEdges 15) rfl rfl ?_
  refine e_aload_n 0 (dec_at dX6_findEdges 16) rfl rfl ?_
  refine e_iload_n 1 (dec_at dX6_findEdges 17) rfl rfl ?_
  refine e_iload_n 2 (dec_at dX6_findEdges 18) rfl rfl ?_
  refine e_callVr (M' := mX6_sizeOf) (dec_at dX6_findEdges 19) mlX6_70 (m_sizeOf (μ := ν) (B := B) l f hM f0 f1) oX6_sizeOf iX6_sizeOf rfl rfl rfl rfl (by decide) (by decide) (Nat.le_of_ble_eq_true rfl) ?_
  refine e_icmp_ge 116 (dec_at dX6_findEdges 20) (by decide) (by omega) (by omega) (fun h28 => ?_) (fun h28 => ?_)
  · obtain rfl : k = B 2 (f + 1) - B 2 f := by omega
    rw [show B 2 f + (B 2 (f + 1) - B 2 f) = B 2 (f + 1) by omega] at hi
    exact e_le [some (vR 21 0), some (vI l), some (vI f), none, none, none] (by simp [leL]) (K _ fr hi)
  · have hrg := h.rg (s := B 2 f + k) (by omega) (by omega)
    have cm : cE (B 5) (B 2 f + k) ≤ B 0 2 := by rw [g.2.1.1]; exact Int.ofNat_le.2 (ct_mono _ _ (by omega))
    refine e_aload_n 0 (dec_at dX6_findEdges 21) rfl rfl ?_
    refine e_iload_n 1 (dec_at dX6_findEdges 22) rfl rfl ?_
    refine e_iload_n 2 (dec_at dX6_findEdges 23) rfl rfl ?_
    refine e_iload_n 3 (dec_at dX6_findEdges 24) rfl rfl ?_
    refine e_callVr (M' := mX6_cornerOf) (dec_at dX6_findEdges 25) mlX6_74 (m_cornerOf (μ := ν) (B := B) l f k hM f0 f1 k0 (by omega)) oX6_cornerOf iX6_cornerOf rfl rfl rfl rfl (by decide) (by decide) (Nat.le_of_ble_eq_true rfl) ?_
    refine e_is4 (dec_at dX6_findEdges 26) (by decide) rfl ?_
    refine e_aload_n 0 (dec_at dX6_findEdges 27) rfl rfl ?_
    refine e_iload_n 1 (dec_at dX6_findEdges 28) rfl rfl ?_
    refine e_iload_n 2 (dec_at dX6_findEdges 29) rfl rfl ?_
    refine e_iload_n 3 (dec_at dX6_findEdges 30) rfl rfl ?_
    refine e_callVr (M' := mX6_next) (dec_at dX6_findEdges 31) mlX6_89 (m_next (μ := ν) (B := B) l f k hM f0 f1 k0 (by omega)) oX6_next iX6_next rfl rfl rfl rfl (by decide) (by decide) (Nat.le_of_ble_eq_true rfl) ?_
    refine e_is5 (dec_at dX6_findEdges 32) (by decide) rfl ?_
    refine e_aload_n 0 (dec_at dX6_findEdges 33) rfl rfl ?_
    refine e_iload_n 1 (dec_at dX6_findEdges 34) rfl rfl ?_
    refine e_iload (dec_at dX6_findEdges 35) rfl ?_
    refine e_iload (dec_at dX6_findEdges 36) rfl ?_
    refine e_callV (M' := mX6_edgeOf) (dec_at dX6_findEdges 37) mlX6_115 (m_edgeOf (μ := ν) l (B 3 (B 2 f + k)) (B 3 (nx B (B 2 f + k))) (by omega) (by omega) (by omega) (by omega)) oX6_edgeOf iX6_edgeOf rfl rfl rfl rfl (by decide) (by decide) (Nat.le_of_ble_eq_true rfl) (fun r ν2 hQ => ?_)
    obtain ⟨hνe, v, rfl, hv⟩ := hQ
    subst hνe
    have hvv : inR v := by rcases hv with q | q; exact (by have := q.1; omega); exact (by have := q.1; omega)
    have key : v = -1 ↔ fm (B 5) (B 2 f + k) := by
      have s0 : 0 ≤ B 2 f + k := by omega
      have s1 : B 2 f + k < nN B := by omega
      have bb := g.1.b1 s0 s1
      constructor
      · intro e q
        have hno := (hv.resolve_right (fun z => by have := z.1; omega)).2
        have b2 := g.1.b1 bb.2.1.1 bb.2.1.2
        have hb : fm (B 5) (B 5 (B 2 f + k)) := by unfold fm; rw [bb.2.2.1]; omega
        have hlt : cE (B 5) (B 5 (B 2 f + k)) < cE (B 5) (B 2 f + k) := cE_lt bb.2.1.1 q hb
        have z := hi.2 _ bb.2.1.1 q hb
        refine hno (cE (B 5) (B 5 (B 2 f + k))) (cE_0 _ _) (by rw [hi.1]; exact hlt) (Or.inr ⟨?_, ?_⟩)
        · rw [z.1, bb.2.2.2]
        · rw [z.2, g.1.tgt s0 s1]
      · intro q
        refine (hv.resolve_right (fun z => ?_)).1
        obtain ⟨v1, pr⟩ := z
        rw [hi.1] at v1
        obtain ⟨t, t0, t1, t2, rfl⟩ := cE_surj v1.1 v1.2
        have w := hi.2 t t0 t1 t2
        unfold PR at pr
        rw [w.1, w.2] at pr
        rcases pr with pr | pr
        · have := g.1.u t0 (by omega) s0 s1 pr.1 pr.2
          omega
        · have := g.1.u t0 (by omega) bb.2.1.1 bb.2.1.2 (by rw [pr.1, bb.2.2.2]) (by rw [pr.2, g.1.tgt s0 s1])
          apply q
          omega
    show Ev mX6_findEdges 2 58 _ [vI v] ν2 _
    refine e_iconst (dec_at dX6_findEdges 38) ?_
    refine e_icmp_ne 110 (dec_at dX6_findEdges 39) (by decide) (by omega) (by omega) (fun h59 => ?_) (fun h59 => ?_)
    · refine e_ii3 (dec_at dX6_findEdges 72) (by decide) rfl ?_
      refine e_goto 21 (dec_at dX6_findEdges 73) (by decide) ?_
      have nf : ¬ fm (B 5) (B 2 f + k) := fun q => h59 (key.2 q)
      refine e_le [some (vR 21 0), some (vI l), some (vI f), some (vI (k + 1)), none, none] (by simp [leL]) (ih _ (by omega) (k + 1) ν2 rfl (by omega) (by omega) fr ⟨?_, fun t t0 t1 t2 => ?_⟩ K)
      · rw [show B 2 f + (k + 1) = B 2 f + k + 1 by omega, cEs_f (by omega) nf]; exact hi.1
      · by_cases e : t = B 2 f + k
        · subst e; exact absurd t2 nf
        · exact hi.2 t t0 (by omega) t2
    · have yf := key.1 h59
      have cl : cE (B 5) (B 2 f + k) < B 0 2 := by rw [g.2.1.1]; exact cE_lt (by omega) (by omega) yf
      refine e_aload_n 0 (dec_at dX6_findEdges 40) rfl rfl ?_
      refine e_getr 14 (dec_at dX6_findEdges 41) flX6_34 rfl rfl ?_
      refine e_sipush (dec_at dX6_findEdges 42) (by decide) ?_
      refine e_iload_n 1 (dec_at dX6_findEdges 43) rfl rfl ?_
      refine e_imul (dec_at dX6_findEdges 44) ?_
      refine e_aload_n 0 (dec_at dX6_findEdges 45) rfl rfl ?_
      refine e_getr 9 (dec_at dX6_findEdges 46) flX6_19 rfl rfl ?_
      refine e_iload_n 1 (dec_at dX6_findEdges 47) rfl rfl ?_
      refine e_ialdv (cE (B 5) (B 2 f + k)) (dec_at dX6_findEdges 48) rfl (by decide) (aLk_25 _) (by omega) (by exact hi.1) (fun r76 => ?_)
      refine e_iadd (dec_at dX6_findEdges 49) ?_
      refine e_iload (dec_at dX6_findEdges 50) rfl ?_
      refine e_iast (dec_at dX6_findEdges 51) rfl (by decide) (aLk_30 _) (by omega) (by omega) ?_
      refine e_aload_n 0 (dec_at dX6_findEdges 52) rfl rfl ?_
      refine e_getr 15 (dec_at dX6_findEdges 53) flX6_37 rfl rfl ?_
      refine e_sipush (dec_at dX6_findEdges 54) (by decide) ?_
      refine e_iload_n 1 (dec_at dX6_findEdges 55) rfl rfl ?_
      refine e_imul (dec_at dX6_findEdges 56) ?_
      refine e_aload_n 0 (dec_at dX6_findEdges 57) rfl rfl ?_
      refine e_getr 9 (dec_at dX6_findEdges 58) flX6_19 rfl rfl ?_
      refine e_iload_n 1 (dec_at dX6_findEdges 59) rfl rfl ?_
      refine e_ialdv (cE (B 5) (B 2 f + k)) (dec_at dX6_findEdges 60) rfl (by decide) (aLk_25 _) (by omega) (by rw [mset_k (by decide)]; exact hi.1) (fun r95 => ?_)
      refine e_iadd (dec_at dX6_findEdges 61) ?_
      refine e_iload (dec_at dX6_findEdges 62) rfl ?_
      refine e_iast (dec_at dX6_findEdges 63) rfl (by decide) (aLk_31 _) (by omega) (by omega) ?_
      refine e_aload_n 0 (dec_at dX6_findEdges 64) rfl rfl ?_
      refine e_getr 9 (dec_at dX6_findEdges 65) flX6_19 rfl rfl ?_
      refine e_iload_n 1 (dec_at dX6_findEdges 66) rfl rfl ?_
      refine e_dup2 (dec_at dX6_findEdges 67) rfl rfl ?_
      refine e_ialdv (cE (B 5) (B 2 f + k)) (dec_at dX6_findEdges 68) rfl (by decide) (aLk_25 _) (by omega) (by rw [mset_k (by decide), mset_k (by decide)]; exact hi.1) (fun r106 => ?_)
      refine e_iconst (dec_at dX6_findEdges 69) ?_
      refine e_iadd (dec_at dX6_findEdges 70) ?_
      refine e_iast (dec_at dX6_findEdges 71) rfl (by decide) (aLk_25 _) (by omega) (by omega) ?_
      refine e_ii3 (dec_at dX6_findEdges 72) (by decide) rfl ?_
      refine e_goto 21 (dec_at dX6_findEdges 73) (by decide) ?_
      refine e_le [some (vR 21 0), some (vI l), some (vI f), some (vI (k + 1)), none, none] (by simp [leL]) (ih _ (by omega) (k + 1) _ rfl (by omega) (by omega) (fr_set (fr_set (fr_set fr (by omega)) (by omega)) (by omega)) ⟨?_, fun t t0 t1 t2 => ?_⟩ K)
      · rw [show B 2 f + (k + 1) = B 2 f + k + 1 by omega, cEs_t (by omega) yf]; exact mset_eq
      · unfold gA gB
        by_cases e : t = B 2 f + k
        · subst e
          refine ⟨?_, ?_⟩
          · rw [mset_k (by decide), mset_k (by decide)]; exact mset_eq
          · rw [mset_k (by decide)]; exact mset_eq
        · have ne : cE (B 5) t ≠ cE (B 5) (B 2 f + k) := fun z => e (cE_inj t0 (by omega) t2 yf z)
          have w := hi.2 t t0 (by omega) t2
          refine ⟨?_, ?_⟩
          · rw [mset_k (by decide), mset_k (by decide), mset_i (by omega)]; exact w.1
          · rw [mset_k (by decide), mset_i (by omega), mset_k (by decide)]; exact w.2

set_option maxRecDepth 100000 in
set_option maxHeartbeats 4000000 in
theorem l_fe1 {μ : Mm} {B : Net} {l : Int} (g : Good B) (h : MP μ l B) (hE : B 0 2 ≤ 350) : ∀ (q : Nat) (f : Int) (ν : Mm), (B 0 1 - f).toNat = q → 0 ≤ f → f ≤ B 0 1 → (∀ k l1 i, ¬ (l1 = 0 ∧ (k = 25 ∧ i = l ∨ (k = 30 ∨ k = 31) ∧ 350 * l ≤ i ∧ i < 350 * l + 350)) → ν k l1 i = μ k l1 i) → (ν 25 0 l = cE (B 5) (B 2 f) ∧ ∀ t, 0 ≤ t → t < B 2 f → fm (B 5) t → gA ν l (cE (B 5) t) = B 3 t ∧ gB ν l (cE (B 5) t) = B 3 (nx B t)) → Ev mX6_findEdges 2 9 [some (vR 21 0), some (vI l), some (vI f), none, none, none] [] ν (fun r ν => r = none ∧ (∀ k l1 i, ¬ (l1 = 0 ∧ (k = 25 ∧ i = l ∨ (k = 30 ∨ k = 31) ∧ 350 * l ≤ i ∧ i < 350 * l + 350)) → ν k l1 i = μ k l1 i) ∧ ME ν l B) := by
  intro q
  induction q using Nat.strongRecOn with
  | _ q ih =>
  intro f ν hq f0 f1 fr hi
  have hM := h.fre fr
  have hP := h.1.2.2.1
  have hl := h.1.1
  refine e_iload_n 2 (dec_at dX6_findEdges 7) rfl rfl ?_
  refine e_aload_n 0 (dec_at dX6_findEdges 8) rfl rfl ?_
  refine e_getr 8 (dec_at dX6_findEdges 9) flX6_16 rfl rfl ?_
  refine e_iload_n 1 (dec_at dX6_findEdges 10) rfl rfl ?_
  refine e_ialdv (B 0 1) (dec_at dX6_findEdges 11) rfl (by decide) (aLk_24 _) (by omega) (by exact hM.2.2.1) (fun r15 => ?_)
  refine e_icmp_ge 122 (dec_at dX6_findEdges 12) (by decide) (by omega) (by omega) (fun h16 => ?_) (fun h16 => ?_)
  · refine e_return (dec_at dX6_findEdges 76) rfl ?_
    obtain rfl : f = B 0 1 := by omega
    refine ⟨rfl, fr, ⟨by rw [g.2.1.1]; exact cE_0 _ _, hE⟩, by rw [g.2.1.1]; exact hi.1, fun e e0 e1 => ?_⟩
    have m := g.mt e0 e1
    have z := hi.2 _ m.1.1 m.1.2 m.2.1
    rw [m.2.2.2] at z
    exact z
  · refine e_iconst (dec_at dX6_findEdges 13) ?_
    refine e_is3 (dec_at dX6_findEdges 14) (by decide) rfl ?_
    refine l_fe2 g h hE f0 (by omega) _ 0 ν rfl (by omega) (by have := h.at f0 (f := f) (by omega); omega) fr (by rw [show B 2 f + 0 = B 2 f by omega]; exact hi) (fun ν fr hi => ?_)
    refine e_ii2 (dec_at dX6_findEdges 74) (by decide) rfl ?_
    refine e_goto 9 (dec_at dX6_findEdges 75) (by decide) ?_
    exact ih _ (by omega) (f + 1) ν rfl (by omega) (by omega) fr hi

set_option maxRecDepth 100000 in
set_option maxHeartbeats 4000000 in
theorem m_findEdges {μ : Mm} {B : Net} (l : Int) (g : Good B) (h : MP μ l B) (hE : B 0 2 ≤ 350) : Mc mX6_findEdges 2 [vR 21 0, vI l] μ (fun r ν => r = none ∧ (∀ k l1 i, ¬ (l1 = 0 ∧ (k = 25 ∧ i = l ∨ (k = 30 ∨ k = 31) ∧ 350 * l ≤ i ∧ i < 350 * l + 350)) → ν k l1 i = μ k l1 i) ∧ ME ν l B) := by
  refine Mc.of (L := [some (vR 21 0), some (vI l), none, none, none, none]) (by decide +kernel) (by simp [leL, entA, isLong, mX6_findEdges]) (by simp [entA, isLong, mX6_findEdges]) ?_
  have hl := h.1.1
  refine e_aload_n 0 (dec_at dX6_findEdges 0) rfl rfl ?_
  refine e_getr 9 (dec_at dX6_findEdges 1) flX6_19 rfl rfl ?_
  refine e_iload_n 1 (dec_at dX6_findEdges 2) rfl rfl ?_
  refine e_iconst (dec_at dX6_findEdges 3) ?_
  refine e_iast (dec_at dX6_findEdges 4) rfl (by decide) (aLk_25 _) (by omega) (by omega) ?_
  refine e_iconst (dec_at dX6_findEdges 5) ?_
  refine e_is2 (dec_at dX6_findEdges 6) (by decide) rfl ?_
  exact l_fe1 g h hE _ 0 _ rfl (by omega) h.gp.1 (fr_set (fun _ _ _ _ => rfl) (by omega)) ⟨by rw [h.gp.2.1]; exact mset_eq, fun t t0 t1 => by have := h.gp.2.1; omega⟩
