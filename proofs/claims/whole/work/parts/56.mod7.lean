/-! THE REFERENCE refines -/
def FU (μ ν : Mm) (l : Int) : Prop := ∀ (k : Nat) (l1 i : Int), ¬ (l1 = 0 ∧ (k = 21 ∧ (i = 16 ∨ i = 17) ∨ (k = 23 ∨ k = 24) ∧ i = l + 1 ∨ k = 26 ∧ 600 * (l + 1) ≤ i ∧ i < 600 * (l + 1) + 600 ∨ (k = 27 ∨ k = 28) ∧ 160 * (l + 1) ≤ i ∧ i < 160 * (l + 1) + 160 ∨ k = 29 ∧ 700 * (l + 1) ≤ i ∧ i < 700 * (l + 1) + 700)) → ν k l1 i = μ k l1 i
theorem FU.mp {μ ν : Mm} {l j : Int} {B : Net} (f : FU μ ν l) (hj : j ≤ l) (h : MP μ j B) : MP ν j B := h.fr (f 23 0 j (by omega)) (f 24 0 j (by omega)) (fun i _ _ => ⟨f 27 0 i (by omega), f 28 0 i (by omega)⟩) (fun i _ _ => f 29 0 i (by omega))
theorem FU.me {μ ν : Mm} {l j : Int} {B : Net} (f : FU μ ν l) (h : ME μ j B) : ME ν j B := ⟨h.1, by rw [f 25 0 j (by omega)]; exact h.2.1, fun e a b => by
  unfold gA gB
  rw [f 30 0 _ (by omega), f 31 0 _ (by omega)]; exact h.2.2 e a b⟩
theorem FU.sb {μ ν : Mm} {l : Int} (f : FU μ ν l) : SB μ ν := fun k j i z => f k j i (by omega)
theorem JM.fr {μ ν : Mm} (h : JM μ) (f : ∀ (k : Nat) (i : Int), (7 ≤ k ∧ k ≤ 10 ∨ k = 21 ∧ i = 18 ∨ k = 32 ∨ k = 33) → ν k 0 i = μ k 0 i) : JM ν := by
  unfold JM ky at h ⊢
  rw [f 21 18 (by omega), f 7 3 (by omega)]
  refine ⟨h.1, fun i a b => ?_⟩
  rw [f 32 i (by omega), f 8 i (by omega), f 9 i (by omega)]
  refine ⟨(h.2 i a b).1, fun c c0 c1 => ?_⟩
  rw [f 33 _ (by omega), f 10 _ (by omega)]
  exact (h.2 i a b).2 c c0 c1
theorem m_movedU {μ ν : Mm} {l : Int} (e a : Int) (f : FU μ ν l) (h : Mv μ) (j : JM μ) (hl : 0 ≤ l ∧ l ≤ 2) (he : 0 ≤ e ∧ e ≤ 1000) (ha : 0 ≤ a ∧ a < 3) : Mc mX6_movedOf 1 [vR 21 0, vI (l + 1), vI e, vI a] ν (Rt (some (vI (mvx μ (l + 1) e a))) ν) := by
  have z := m_movedOf (μ := ν) (l + 1) e a (f.sb.mv h) (j.fr (fun k i q => f k 0 i (by omega))) (by omega) he ha
  rw [f.sb.mve] at z
  exact z

set_option maxRecDepth 100000 in
set_option maxHeartbeats 4000000 in
theorem m_beginFace {μ : Mm} (l : Int) (hl : 0 ≤ l ∧ l ≤ 3) (hp : 0 ≤ μ 24 0 l ∧ μ 24 0 l < 160) : Mc mX6_beginFace 0 [vR 21 0, vI l] μ (Rt none (mset (mset (mset μ 27 0 (160 * l + μ 24 0 l) (μ 21 0 17)) 28 0 (160 * l + μ 24 0 l) 0) 24 0 l (μ 24 0 l + 1))) := by
  refine Mc.of (L := [some (vR 21 0), some (vI l)]) (by decide +kernel) (by simp [leL, entA, isLong, mX6_beginFace]) (by simp [entA, isLong, mX6_beginFace]) ?_
  refine e_aload_n 0 (dec_at dX6_beginFace 0) rfl rfl ?_
  refine e_getr 11 (dec_at dX6_beginFace 1) flX6_25 rfl rfl ?_
  refine e_sipush (dec_at dX6_beginFace 2) (by decide) ?_
  refine e_iload_n 1 (dec_at dX6_beginFace 3) rfl rfl ?_
  refine e_imul (dec_at dX6_beginFace 4) ?_
  refine e_aload_n 0 (dec_at dX6_beginFace 5) rfl rfl ?_
  refine e_getr 8 (dec_at dX6_beginFace 6) flX6_16 rfl rfl ?_
  refine e_iload_n 1 (dec_at dX6_beginFace 7) rfl rfl ?_
  refine e_iald (dec_at dX6_beginFace 8) rfl (by decide) (aLk_24 _) (by omega) (fun r14 => ?_)
  refine e_iadd (dec_at dX6_beginFace 9) ?_
  refine e_aload_n 0 (dec_at dX6_beginFace 10) rfl rfl ?_
  refine e_geti 17 17 (dec_at dX6_beginFace 11) flX6_118 rfl rfl rfl (fun r17 => ?_)
  refine e_iast (dec_at dX6_beginFace 12) rfl (by decide) (aLk_27 _) (by omega) (by omega) ?_
  refine e_aload_n 0 (dec_at dX6_beginFace 13) rfl rfl ?_
  refine e_getr 12 (dec_at dX6_beginFace 14) flX6_28 rfl rfl ?_
  refine e_sipush (dec_at dX6_beginFace 15) (by decide) ?_
  refine e_iload_n 1 (dec_at dX6_beginFace 16) rfl rfl ?_
  refine e_imul (dec_at dX6_beginFace 17) ?_
  refine e_aload_n 0 (dec_at dX6_beginFace 18) rfl rfl ?_
  refine e_getr 8 (dec_at dX6_beginFace 19) flX6_16 rfl rfl ?_
  refine e_iload_n 1 (dec_at dX6_beginFace 20) rfl rfl ?_
  refine e_ialdv (μ 24 0 l) (dec_at dX6_beginFace 21) rfl (by decide) (aLk_24 _) (by omega) (by rw [mset_k (by decide)]) (fun r35 => ?_)
  refine e_iadd (dec_at dX6_beginFace 22) ?_
  refine e_iconst (dec_at dX6_beginFace 23) ?_
  refine e_iast (dec_at dX6_beginFace 24) rfl (by decide) (aLk_28 _) (by omega) (by omega) ?_
  refine e_aload_n 0 (dec_at dX6_beginFace 25) rfl rfl ?_
  refine e_getr 8 (dec_at dX6_beginFace 26) flX6_16 rfl rfl ?_
  refine e_iload_n 1 (dec_at dX6_beginFace 27) rfl rfl ?_
  refine e_dup2 (dec_at dX6_beginFace 28) rfl rfl ?_
  refine e_ialdv (μ 24 0 l) (dec_at dX6_beginFace 29) rfl (by decide) (aLk_24 _) (by omega) (by rw [mset_k (by decide), mset_k (by decide)]) (fun r45 => ?_)
  refine e_iconst (dec_at dX6_beginFace 30) ?_
  refine e_iadd (dec_at dX6_beginFace 31) ?_
  refine e_iast (dec_at dX6_beginFace 32) rfl (by decide) (aLk_24 _) (by omega) (by omega) ?_
  refine e_return (dec_at dX6_beginFace 33) rfl ?_
  exact ⟨rfl, rfl⟩

set_option maxRecDepth 100000 in
set_option maxHeartbeats 4000000 in
theorem m_ringOn {μ : Mm} (l c : Int) (hl : 0 ≤ l ∧ l ≤ 3) (hc : inR c) (hp : 1 ≤ μ 24 0 l ∧ μ 24 0 l ≤ 160) (hm : 0 ≤ μ 21 0 17 ∧ μ 21 0 17 < 700) (hs : 0 ≤ μ 28 0 (160 * l + μ 24 0 l - 1) ∧ μ 28 0 (160 * l + μ 24 0 l - 1) < 1000) : Mc mX6_ringOn 0 [vR 21 0, vI l, vI c] μ (Rt none (mset (mset (mset μ 29 0 (700 * l + μ 21 0 17) c) 21 0 17 (μ 21 0 17 + 1)) 28 0 (160 * l + μ 24 0 l - 1) (μ 28 0 (160 * l + μ 24 0 l - 1) + 1))) := by
  refine Mc.of (L := [some (vR 21 0), some (vI l), some (vI c)]) (by decide +kernel) (by simp [leL, entA, isLong, mX6_ringOn]) (by simp [entA, isLong, mX6_ringOn]) ?_
  refine e_aload_n 0 (dec_at dX6_ringOn 0) rfl rfl ?_
  refine e_getr 13 (dec_at dX6_ringOn 1) flX6_31 rfl rfl ?_
  refine e_sipush (dec_at dX6_ringOn 2) (by decide) ?_
  refine e_iload_n 1 (dec_at dX6_ringOn 3) rfl rfl ?_
  refine e_imul (dec_at dX6_ringOn 4) ?_
  refine e_aload_n 0 (dec_at dX6_ringOn 5) rfl rfl ?_
  refine e_geti 17 17 (dec_at dX6_ringOn 6) flX6_118 rfl rfl rfl (fun r10 => ?_)
  refine e_iadd (dec_at dX6_ringOn 7) ?_
  refine e_iload_n 2 (dec_at dX6_ringOn 8) rfl rfl ?_
  refine e_iast (dec_at dX6_ringOn 9) rfl (by decide) (aLk_29 _) (by omega) (by omega) ?_
  refine e_aload_n 0 (dec_at dX6_ringOn 10) rfl rfl ?_
  refine e_dup (dec_at dX6_ringOn 11) rfl ?_
  refine e_getiv 17 17 (μ 21 0 17) (dec_at dX6_ringOn 12) flX6_118 rfl rfl rfl (by rw [mset_k (by decide)]) (fun r18 => ?_)
  refine e_iconst (dec_at dX6_ringOn 13) ?_
  refine e_iadd (dec_at dX6_ringOn 14) ?_
  refine e_put 17 17 (dec_at dX6_ringOn 15) flX6_118 fpX6_17 rfl rfl rfl (by omega) (fit_int _) ?_
  refine e_aload_n 0 (dec_at dX6_ringOn 16) rfl rfl ?_
  refine e_getr 12 (dec_at dX6_ringOn 17) flX6_28 rfl rfl ?_
  refine e_sipush (dec_at dX6_ringOn 18) (by decide) ?_
  refine e_iload_n 1 (dec_at dX6_ringOn 19) rfl rfl ?_
  refine e_imul (dec_at dX6_ringOn 20) ?_
  refine e_aload_n 0 (dec_at dX6_ringOn 21) rfl rfl ?_
  refine e_getr 8 (dec_at dX6_ringOn 22) flX6_16 rfl rfl ?_
  refine e_iload_n 1 (dec_at dX6_ringOn 23) rfl rfl ?_
  refine e_ialdv (μ 24 0 l) (dec_at dX6_ringOn 24) rfl (by decide) (aLk_24 _) (by omega) (by rw [mset_k (by decide), mset_k (by decide)]) (fun r40 => ?_)
  refine e_iadd (dec_at dX6_ringOn 25) ?_
  refine e_iconst (dec_at dX6_ringOn 26) ?_
  refine e_isub (dec_at dX6_ringOn 27) ?_
  refine e_dup2 (dec_at dX6_ringOn 28) rfl rfl ?_
  refine e_ialdv (μ 28 0 (160 * l + μ 24 0 l - 1)) (dec_at dX6_ringOn 29) rfl (by decide) (aLk_28 _) (by omega) (by rw [mset_k (by decide), mset_k (by decide)]) (fun r45 => ?_)
  refine e_iconst (dec_at dX6_ringOn 30) ?_
  refine e_iadd (dec_at dX6_ringOn 31) ?_
  refine e_iast (dec_at dX6_ringOn 32) rfl (by decide) (aLk_28 _) (by omega) (by omega) ?_
  refine e_return (dec_at dX6_ringOn 33) rfl ?_
  exact ⟨rfl, rfl⟩

def RS (μ : Mm) (l : Int) (B : Net) (g : Int) (ν : Mm) : Prop := FU μ ν l ∧ ν 24 0 (l + 1) = g ∧ ν 21 0 17 = rfA B 2 g ∧ (∀ j, 0 ≤ j → j < g → gF ν (l + 1) j = rfA B 2 j ∧ gS ν (l + 1) j = rfA B 2 (j + 1) - rfA B 2 j) ∧ (∀ s, 0 ≤ s → s < rfA B 2 g → gR ν (l + 1) s = rfA B 3 s) ∧ ν 23 0 (l + 1) = B 0 2 ∧ (∀ e a, 0 ≤ e → e < B 0 2 → 0 ≤ a → a < 3 → gN ν (l + 1) e a = gN μ l (B 3 (B 7 e)) a + gN μ l (B 3 (nx B (B 7 e))) a + mvx μ (l + 1) e a)
def RT (μ : Mm) (l : Int) (B : Net) (g k : Int) (ν : Mm) : Prop := FU μ ν l ∧ ν 24 0 (l + 1) = g + 1 ∧ ν 21 0 17 = rfA B 2 g + k ∧ (∀ j, 0 ≤ j → j < g → gF ν (l + 1) j = rfA B 2 j ∧ gS ν (l + 1) j = rfA B 2 (j + 1) - rfA B 2 j) ∧ (gF ν (l + 1) g = rfA B 2 g ∧ gS ν (l + 1) g = k) ∧ (∀ s, 0 ≤ s → s < rfA B 2 g + k → gR ν (l + 1) s = rfA B 3 s) ∧ ν 23 0 (l + 1) = B 0 2 ∧ (∀ e a, 0 ≤ e → e < B 0 2 → 0 ≤ a → a < 3 → gN ν (l + 1) e a = gN μ l (B 3 (B 7 e)) a + gN μ l (B 3 (nx B (B 7 e))) a + mvx μ (l + 1) e a)
/-- what refining stands on -/
def RH (μ : Mm) (l : Int) (B : Net) : Prop := Good B ∧ MP μ l B ∧ ME μ l B ∧ (0 ≤ l ∧ l ≤ 2) ∧ (B 0 2 ≤ 200 ∧ B 0 1 + B 0 0 ≤ 160 ∧ 2 * nN B ≤ 700) ∧ Mv μ ∧ JM μ ∧ ∀ c a, 0 ≤ c → c < B 0 0 → 0 ≤ a → a < 3 → -100000000 ≤ gN μ l c a ∧ gN μ l c a ≤ 100000000
theorem RH.d {μ : Mm} {l g : Int} {B : Net} (h : RH μ l B) (g0 : 0 ≤ g) (g1 : g < B 0 1 + B 0 0) : 0 ≤ rfA B 2 g ∧ rfA B 2 g + 3 ≤ rfA B 2 (g + 1) ∧ rfA B 2 (g + 1) ≤ 700 ∧ g < 160 := by
  have gp := rf_GP h.1
  have e1 : rfA B 0 1 = B 0 1 + B 0 0 := rfl
  have a := gp.le g0 (by omega)
  have b := gp.le (f := g + 1) (by omega) (by omega)
  have c := gp.2.2.1 g g0 (by omega)
  have n := rf_n h.1.1
  have := h.2.2.2.2.1
  omega
theorem RS.begin {μ ν : Mm} {l g : Int} {B : Net} (h : RH μ l B) (s : RS μ l B g ν) (g0 : 0 ≤ g) (g1 : g < B 0 1 + B 0 0) : RT μ l B g 0 (mset (mset (mset ν 27 0 (160 * (l + 1) + ν 24 0 (l + 1)) (ν 21 0 17)) 28 0 (160 * (l + 1) + ν 24 0 (l + 1)) 0) 24 0 (l + 1) (ν 24 0 (l + 1) + 1)) := by
  obtain ⟨f, e24, e17, hF, hR, e23, hN⟩ := s
  have hd := h.d g0 g1
  have hl := h.2.2.2.1
  rw [e24, e17]
  refine ⟨fr_set (fr_set (fr_set f (by omega)) (by omega)) (by omega), mset_eq, ?_, fun j a b => ?_, ⟨?_, ?_⟩, fun s a b => ?_, ?_, fun e a e0 e1 a0 a1 => ?_⟩
  · rw [mset_k (by decide), mset_k (by decide), mset_k (by decide), e17]; omega
  · unfold gF gS
    rw [mset_k (by decide), mset_k (by decide), mset_i (by omega), mset_ne (by omega), mset_ne (by omega), mset_ne (by omega)]
    exact hF j a b
  · unfold gF
    rw [mset_k (by decide), mset_k (by decide)]; exact mset_eq
  · unfold gS
    rw [mset_k (by decide)]; exact mset_eq
  · unfold gR
    rw [mset_k (by decide), mset_k (by decide), mset_k (by decide)]; exact hR s a (by omega)
  · rw [mset_k (by decide), mset_k (by decide), mset_k (by decide)]; exact e23
  · unfold gN
    rw [mset_k (by decide), mset_k (by decide), mset_k (by decide)]; exact hN e a e0 e1 a0 a1
theorem RT.on {μ ν : Mm} {l g k c : Int} {B : Net} (h : RH μ l B) (s : RT μ l B g k ν) (g0 : 0 ≤ g) (g1 : g < B 0 1 + B 0 0) (k0 : 0 ≤ k) (k1 : k < rfA B 2 (g + 1) - rfA B 2 g) (hc : c = rfA B 3 (rfA B 2 g + k)) : RT μ l B g (k + 1) (mset (mset (mset ν 29 0 (700 * (l + 1) + ν 21 0 17) c) 21 0 17 (ν 21 0 17 + 1)) 28 0 (160 * (l + 1) + ν 24 0 (l + 1) - 1) (ν 28 0 (160 * (l + 1) + ν 24 0 (l + 1) - 1) + 1)) := by
  obtain ⟨f, e24, e17, hF, hG, hR, e23, hN⟩ := s
  have hd := h.d g0 g1
  have hl := h.2.2.2.1
  have e28 : ν 28 0 (160 * (l + 1) + ν 24 0 (l + 1) - 1) = k := by
    rw [e24, show 160 * (l + 1) + (g + 1) - 1 = 160 * (l + 1) + g by omega]; exact hG.2
  rw [e28, e24, e17, show 160 * (l + 1) + (g + 1) - 1 = 160 * (l + 1) + g by omega]
  refine ⟨fr_set (fr_set (fr_set f (by omega)) (by omega)) (by omega), ?_, ?_, fun j a b => ?_, ⟨?_, ?_⟩, fun s a b => ?_, ?_, fun e a e0 e1 a0 a1 => ?_⟩
  · rw [mset_k (by decide), mset_k (by decide), mset_k (by decide)]; exact e24
  · rw [mset_k (by decide), mset_eq]; omega
  · unfold gF gS
    rw [mset_k (by decide), mset_k (by decide), mset_k (by decide), mset_i (by omega), mset_k (by decide), mset_k (by decide)]
    exact hF j a b
  · unfold gF
    rw [mset_k (by decide), mset_k (by decide), mset_k (by decide)]; exact hG.1
  · unfold gS
    exact mset_eq
  · unfold gR
    rw [mset_k (by decide), mset_k (by decide)]
    by_cases q : s = rfA B 2 g + k
    · subst q; rw [mset_eq]; exact hc
    · rw [mset_i (by omega)]; exact hR s a (by omega)
  · rw [mset_k (by decide), mset_k (by decide), mset_k (by decide)]; exact e23
  · unfold gN
    rw [mset_k (by decide), mset_k (by decide), mset_k (by decide)]; exact hN e a e0 e1 a0 a1
theorem RT.done {μ ν : Mm} {l g k : Int} {B : Net} (s : RT μ l B g k ν) (hk : k = rfA B 2 (g + 1) - rfA B 2 g) : RS μ l B (g + 1) ν := by
  obtain ⟨f, e24, e17, hF, hG, hR, e23, hN⟩ := s
  refine ⟨f, e24, by omega, fun j a b => ?_, fun s a b => hR s a (by omega), e23, hN⟩
  by_cases q : j = g
  · subst q; exact ⟨hG.1, by rw [hG.2]; exact hk⟩
  · exact hF j a (by omega)
theorem RT.m16 {μ ν : Mm} {l g k v : Int} {B : Net} (s : RT μ l B g k ν) : RT μ l B g k (mset ν 21 0 16 v) := by
  obtain ⟨f, e24, e17, hF, hG, hR, e23, hN⟩ := s
  refine ⟨fr_set f (by omega), by rw [mset_k (by decide)]; exact e24, by rw [mset_i (by decide)]; exact e17, fun j a b => ?_, ?_, fun s a b => ?_, by rw [mset_k (by decide)]; exact e23, fun e a e0 e1 a0 a1 => ?_⟩
  · unfold gF gS; rw [mset_k (by decide), mset_k (by decide)]; exact hF j a b
  · unfold gF gS; rw [mset_k (by decide), mset_k (by decide)]; exact hG
  · unfold gR; rw [mset_k (by decide)]; exact hR s a b
  · unfold gN; rw [mset_k (by decide)]; exact hN e a e0 e1 a0 a1
theorem RT.b {μ ν : Mm} {l g k : Int} {B : Net} (s : RT μ l B g k ν) : ν 28 0 (160 * (l + 1) + ν 24 0 (l + 1) - 1) = k := by
  rw [s.2.1, show 160 * (l + 1) + (g + 1) - 1 = 160 * (l + 1) + g by omega]; exact s.2.2.2.2.1.2

set_option maxRecDepth 100000 in
set_option maxHeartbeats 4000000 in
theorem l_rfA {μ : Mm} {B : Net} {l : Int} {Q : Option Vv → Mm → Prop} (h : RH μ l B) : ∀ (q : Nat) (e : Int) (ν : Mm), (B 0 2 - e).toNat = q → 0 ≤ e → e ≤ B 0 2 → FU μ ν l → ν 23 0 (l + 1) = B 0 2 → (∀ i a, 0 ≤ i → i < e → 0 ≤ a → a < 3 → gN ν (l + 1) i a = gN μ l (B 3 (B 7 i)) a + gN μ l (B 3 (nx B (B 7 i))) a + mvx μ (l + 1) i a) → (∀ ν : Mm, FU μ ν l → ν 23 0 (l + 1) = B 0 2 → (∀ e a, 0 ≤ e → e < B 0 2 → 0 ≤ a → a < 3 → gN ν (l + 1) e a = gN μ l (B 3 (B 7 e)) a + gN μ l (B 3 (nx B (B 7 e))) a + mvx μ (l + 1) e a) → Ev mX6_refine 3 140 [some (vR 21 0), some (vI l), some (vI (l + 1)), none, none, none, none, none, none] [] ν Q) → Ev mX6_refine 3 18 [some (vR 21 0), some (vI l), some (vI (l + 1)), some (vI e), none, none, none, none, none] [] ν (Q) := by
  intro q
  induction q using Nat.strongRecOn with
  | _ q ih =>
  intro e ν hq e0 e1 fr e23 hn K
  have hl := h.2.2.2.1
  have hcap := h.2.2.2.2.1
  have hE0 := h.2.2.1.1
  refine e_iload_n 3 (dec_at dX6_refine 14) rfl rfl ?_
  refine e_aload_n 0 (dec_at dX6_refine 15) rfl rfl ?_
  refine e_getr 9 (dec_at dX6_refine 16) flX6_19 rfl rfl ?_
  refine e_iload_n 1 (dec_at dX6_refine 17) rfl rfl ?_
  refine e_ialdv (B 0 2) (dec_at dX6_refine 18) rfl (by decide) (aLk_25 _) (by omega) (by rw [fr 25 0 l (by omega)]; exact h.2.2.1.2.1) (fun r24 => ?_)
  refine e_icmp_ge 140 (dec_at dX6_refine 19) (by decide) (by omega) (by omega) (fun h25 => ?_) (fun h25 => ?_)
  · obtain rfl : e = B 0 2 := by omega
    exact e_le [some (vR 21 0), some (vI l), some (vI (l + 1)), none, none, none, none, none, none] (by simp [leL]) (K ν fr e23 hn)
  · have mt := h.1.mt e0 (by omega)
    have ra := h.2.1.rg mt.1.1 mt.1.2
    have ba := fun a a0 a1 => h.2.2.2.2.2.2.2 (B 3 (B 7 e)) a ra.1.1 ra.1.2 a0 a1
    have bb := fun a a0 a1 => h.2.2.2.2.2.2.2 (B 3 (nx B (B 7 e))) a ra.2.2.1 ra.2.2.2 a0 a1
    have ba0 := ba 0 (by omega) (by omega)
    have ba1 := ba 1 (by omega) (by omega)
    have ba2 := ba 2 (by omega) (by omega)
    have bb0 := bb 0 (by omega) (by omega)
    have bb1 := bb 1 (by omega) (by omega)
    have bb2 := bb 2 (by omega) (by omega)
    have m0 := mvx_in h.2.2.2.2.2.1 (L := l + 1) (c := e) (a := 0) (by omega) (by omega)
    have m1 := mvx_in h.2.2.2.2.2.1 (L := l + 1) (c := e) (a := 0 + 1) (by omega) (by omega)
    have m2 := mvx_in h.2.2.2.2.2.1 (L := l + 1) (c := e) (a := 0 + 1 + 1) (by omega) (by omega)
    clear ba bb
    refine e_iconst (dec_at dX6_refine 20) ?_
    refine e_is4 (dec_at dX6_refine 21) (by decide) rfl ?_
    refine e_iload (dec_at dX6_refine 22) rfl ?_
    refine e_iconst (dec_at dX6_refine 23) ?_
    refine e_icmp_ge 134 (dec_at dX6_refine 24) (by decide) (by decide) (by decide) (fun h => absurd h (by decide)) (fun _ => ?_)
    refine e_aload_n 0 (dec_at dX6_refine 25) rfl rfl ?_
    refine e_getr 10 (dec_at dX6_refine 26) flX6_22 rfl rfl ?_
    refine e_iconst (dec_at dX6_refine 27) ?_
    refine e_sipush (dec_at dX6_refine 28) (by decide) ?_
    refine e_iload_n 1 (dec_at dX6_refine 29) rfl rfl ?_
    refine e_imul (dec_at dX6_refine 30) ?_
    refine e_aload_n 0 (dec_at dX6_refine 31) rfl rfl ?_
    refine e_getr 14 (dec_at dX6_refine 32) flX6_34 rfl rfl ?_
    refine e_sipush (dec_at dX6_refine 33) (by decide) ?_
    refine e_iload_n 1 (dec_at dX6_refine 34) rfl rfl ?_
    refine e_imul (dec_at dX6_refine 35) ?_
    refine e_iload_n 3 (dec_at dX6_refine 36) rfl rfl ?_
    refine e_iadd (dec_at dX6_refine 37) ?_
    refine e_ialdv (B 3 (B 7 e)) (dec_at dX6_refine 38) rfl (by decide) (aLk_30 _) (by omega) (by exact ((fr.me h.2.2.1).2.2 e e0 (by omega)).1) (fun r58 => ?_)
    refine e_iadd (dec_at dX6_refine 39) ?_
    refine e_imul (dec_at dX6_refine 40) ?_
    refine e_iload (dec_at dX6_refine 41) rfl ?_
    refine e_iadd (dec_at dX6_refine 42) ?_
    refine e_ialdv (gN μ l (B 3 (B 7 e)) 0) (dec_at dX6_refine 43) rfl (by decide) (aLk_26 _) (by omega) (by exact fr 26 0 _ (by omega)) (fun r64 => ?_)
    refine e_is5 (dec_at dX6_refine 44) (by decide) rfl ?_
    refine e_aload_n 0 (dec_at dX6_refine 45) rfl rfl ?_
    refine e_getr 10 (dec_at dX6_refine 46) flX6_22 rfl rfl ?_
    refine e_iconst (dec_at dX6_refine 47) ?_
    refine e_sipush (dec_at dX6_refine 48) (by decide) ?_
    refine e_iload_n 1 (dec_at dX6_refine 49) rfl rfl ?_
    refine e_imul (dec_at dX6_refine 50) ?_
    refine e_aload_n 0 (dec_at dX6_refine 51) rfl rfl ?_
    refine e_getr 15 (dec_at dX6_refine 52) flX6_37 rfl rfl ?_
    refine e_sipush (dec_at dX6_refine 53) (by decide) ?_
    refine e_iload_n 1 (dec_at dX6_refine 54) rfl rfl ?_
    refine e_imul (dec_at dX6_refine 55) ?_
    refine e_iload_n 3 (dec_at dX6_refine 56) rfl rfl ?_
    refine e_iadd (dec_at dX6_refine 57) ?_
    refine e_ialdv (B 3 (nx B (B 7 e))) (dec_at dX6_refine 58) rfl (by decide) (aLk_31 _) (by omega) (by exact ((fr.me h.2.2.1).2.2 e e0 (by omega)).2) (fun r88 => ?_)
    refine e_iadd (dec_at dX6_refine 59) ?_
    refine e_imul (dec_at dX6_refine 60) ?_
    refine e_iload (dec_at dX6_refine 61) rfl ?_
    refine e_iadd (dec_at dX6_refine 62) ?_
    refine e_ialdv (gN μ l (B 3 (nx B (B 7 e))) 0) (dec_at dX6_refine 63) rfl (by decide) (aLk_26 _) (by omega) (by exact fr 26 0 _ (by omega)) (fun r94 => ?_)
    refine e_is6 (dec_at dX6_refine 64) (by decide) rfl ?_
    refine e_aload_n 0 (dec_at dX6_refine 65) rfl rfl ?_
    refine e_getr 10 (dec_at dX6_refine 66) flX6_22 rfl rfl ?_
    refine e_iconst (dec_at dX6_refine 67) ?_
    refine e_sipush (dec_at dX6_refine 68) (by decide) ?_
    refine e_iload_n 2 (dec_at dX6_refine 69) rfl rfl ?_
    refine e_imul (dec_at dX6_refine 70) ?_
    refine e_iload_n 3 (dec_at dX6_refine 71) rfl rfl ?_
    refine e_iadd (dec_at dX6_refine 72) ?_
    refine e_imul (dec_at dX6_refine 73) ?_
    refine e_iload (dec_at dX6_refine 74) rfl ?_
    refine e_iadd (dec_at dX6_refine 75) ?_
    refine e_iload (dec_at dX6_refine 76) rfl ?_
    refine e_iload (dec_at dX6_refine 77) rfl ?_
    refine e_iadd (dec_at dX6_refine 78) ?_
    refine e_aload_n 0 (dec_at dX6_refine 79) rfl rfl ?_
    refine e_iload_n 2 (dec_at dX6_refine 80) rfl rfl ?_
    refine e_iload_n 3 (dec_at dX6_refine 81) rfl rfl ?_
    refine e_iload (dec_at dX6_refine 82) rfl ?_
    refine e_callVr (M' := mX6_movedOf) (dec_at dX6_refine 83) mlX6_121 (m_movedU (μ := μ) e _ (by first | exact fr | exact fr_set fr (by omega) | exact fr_set (fr_set fr (by omega)) (by omega)) h.2.2.2.2.2.1 h.2.2.2.2.2.2.1 hl (by omega) (by omega)) oX6_movedOf iX6_movedOf rfl rfl rfl rfl (by decide) (by decide) (Nat.le_of_ble_eq_true rfl) ?_
    refine e_iadd (dec_at dX6_refine 84) ?_
    refine e_iast (dec_at dX6_refine 85) rfl (by decide) (aLk_26 _) (by omega) (by omega) ?_
    refine e_ii4 (dec_at dX6_refine 86) (by decide) rfl ?_
    refine e_goto 31 (dec_at dX6_refine 87) (by decide) ?_
    refine e_iload (dec_at dX6_refine 22) rfl ?_
    refine e_iconst (dec_at dX6_refine 23) ?_
    refine e_icmp_ge 134 (dec_at dX6_refine 24) (by decide) (by decide) (by decide) (fun h => absurd h (by decide)) (fun _ => ?_)
    refine e_aload_n 0 (dec_at dX6_refine 25) rfl rfl ?_
    refine e_getr 10 (dec_at dX6_refine 26) flX6_22 rfl rfl ?_
    refine e_iconst (dec_at dX6_refine 27) ?_
    refine e_sipush (dec_at dX6_refine 28) (by decide) ?_
    refine e_iload_n 1 (dec_at dX6_refine 29) rfl rfl ?_
    refine e_imul (dec_at dX6_refine 30) ?_
    refine e_aload_n 0 (dec_at dX6_refine 31) rfl rfl ?_
    refine e_getr 14 (dec_at dX6_refine 32) flX6_34 rfl rfl ?_
    refine e_sipush (dec_at dX6_refine 33) (by decide) ?_
    refine e_iload_n 1 (dec_at dX6_refine 34) rfl rfl ?_
    refine e_imul (dec_at dX6_refine 35) ?_
    refine e_iload_n 3 (dec_at dX6_refine 36) rfl rfl ?_
    refine e_iadd (dec_at dX6_refine 37) ?_
    refine e_ialdv (B 3 (B 7 e)) (dec_at dX6_refine 38) rfl (by decide) (aLk_30 _) (by omega) (by rw [mset_k (by decide)]; exact ((fr.me h.2.2.1).2.2 e e0 (by omega)).1) (fun r58 => ?_)
    refine e_iadd (dec_at dX6_refine 39) ?_
    refine e_imul (dec_at dX6_refine 40) ?_
    refine e_iload (dec_at dX6_refine 41) rfl ?_
    refine e_iadd (dec_at dX6_refine 42) ?_
    refine e_ialdv (gN μ l (B 3 (B 7 e)) 1) (dec_at dX6_refine 43) rfl (by decide) (aLk_26 _) (by omega) (by rw [mset_i (by omega)]; exact fr 26 0 _ (by omega)) (fun r64 => ?_)
    refine e_is5 (dec_at dX6_refine 44) (by decide) rfl ?_
    refine e_aload_n 0 (dec_at dX6_refine 45) rfl rfl ?_
    refine e_getr 10 (dec_at dX6_refine 46) flX6_22 rfl rfl ?_
    refine e_iconst (dec_at dX6_refine 47) ?_
    refine e_sipush (dec_at dX6_refine 48) (by decide) ?_
    refine e_iload_n 1 (dec_at dX6_refine 49) rfl rfl ?_
    refine e_imul (dec_at dX6_refine 50) ?_
    refine e_aload_n 0 (dec_at dX6_refine 51) rfl rfl ?_
    refine e_getr 15 (dec_at dX6_refine 52) flX6_37 rfl rfl ?_
    refine e_sipush (dec_at dX6_refine 53) (by decide) ?_
    refine e_iload_n 1 (dec_at dX6_refine 54) rfl rfl ?_
    refine e_imul (dec_at dX6_refine 55) ?_
    refine e_iload_n 3 (dec_at dX6_refine 56) rfl rfl ?_
    refine e_iadd (dec_at dX6_refine 57) ?_
    refine e_ialdv (B 3 (nx B (B 7 e))) (dec_at dX6_refine 58) rfl (by decide) (aLk_31 _) (by omega) (by rw [mset_k (by decide)]; exact ((fr.me h.2.2.1).2.2 e e0 (by omega)).2) (fun r88 => ?_)
    refine e_iadd (dec_at dX6_refine 59) ?_
    refine e_imul (dec_at dX6_refine 60) ?_
    refine e_iload (dec_at dX6_refine 61) rfl ?_
    refine e_iadd (dec_at dX6_refine 62) ?_
    refine e_ialdv (gN μ l (B 3 (nx B (B 7 e))) 1) (dec_at dX6_refine 63) rfl (by decide) (aLk_26 _) (by omega) (by rw [mset_i (by omega)]; exact fr 26 0 _ (by omega)) (fun r94 => ?_)
    refine e_is6 (dec_at dX6_refine 64) (by decide) rfl ?_
    refine e_aload_n 0 (dec_at dX6_refine 65) rfl rfl ?_
    refine e_getr 10 (dec_at dX6_refine 66) flX6_22 rfl rfl ?_
    refine e_iconst (dec_at dX6_refine 67) ?_
    refine e_sipush (dec_at dX6_refine 68) (by decide) ?_
    refine e_iload_n 2 (dec_at dX6_refine 69) rfl rfl ?_
    refine e_imul (dec_at dX6_refine 70) ?_
    refine e_iload_n 3 (dec_at dX6_refine 71) rfl rfl ?_
    refine e_iadd (dec_at dX6_refine 72) ?_
    refine e_imul (dec_at dX6_refine 73) ?_
    refine e_iload (dec_at dX6_refine 74) rfl ?_
    refine e_iadd (dec_at dX6_refine 75) ?_
    refine e_iload (dec_at dX6_refine 76) rfl ?_
    refine e_iload (dec_at dX6_refine 77) rfl ?_
    refine e_iadd (dec_at dX6_refine 78) ?_
    refine e_aload_n 0 (dec_at dX6_refine 79) rfl rfl ?_
    refine e_iload_n 2 (dec_at dX6_refine 80) rfl rfl ?_
    refine e_iload_n 3 (dec_at dX6_refine 81) rfl rfl ?_
    refine e_iload (dec_at dX6_refine 82) rfl ?_
    refine e_callVr (M' := mX6_movedOf) (dec_at dX6_refine 83) mlX6_121 (m_movedU (μ := μ) e _ (by first | exact fr | exact fr_set fr (by omega) | exact fr_set (fr_set fr (by omega)) (by omega)) h.2.2.2.2.2.1 h.2.2.2.2.2.2.1 hl (by omega) (by omega)) oX6_movedOf iX6_movedOf rfl rfl rfl rfl (by decide) (by decide) (Nat.le_of_ble_eq_true rfl) ?_
    refine e_iadd (dec_at dX6_refine 84) ?_
    refine e_iast (dec_at dX6_refine 85) rfl (by decide) (aLk_26 _) (by omega) (by omega) ?_
    refine e_ii4 (dec_at dX6_refine 86) (by decide) rfl ?_
    refine e_goto 31 (dec_at dX6_refine 87) (by decide) ?_
    refine e_iload (dec_at dX6_refine 22) rfl ?_
    refine e_iconst (dec_at dX6_refine 23) ?_
    refine e_icmp_ge 134 (dec_at dX6_refine 24) (by decide) (by decide) (by decide) (fun h => absurd h (by decide)) (fun _ => ?_)
    refine e_aload_n 0 (dec_at dX6_refine 25) rfl rfl ?_
    refine e_getr 10 (dec_at dX6_refine 26) flX6_22 rfl rfl ?_
    refine e_iconst (dec_at dX6_refine 27) ?_
    refine e_sipush (dec_at dX6_refine 28) (by decide) ?_
    refine e_iload_n 1 (dec_at dX6_refine 29) rfl rfl ?_
    refine e_imul (dec_at dX6_refine 30) ?_
    refine e_aload_n 0 (dec_at dX6_refine 31) rfl rfl ?_
    refine e_getr 14 (dec_at dX6_refine 32) flX6_34 rfl rfl ?_
    refine e_sipush (dec_at dX6_refine 33) (by decide) ?_
    refine e_iload_n 1 (dec_at dX6_refine 34) rfl rfl ?_
    refine e_imul (dec_at dX6_refine 35) ?_
    refine e_iload_n 3 (dec_at dX6_refine 36) rfl rfl ?_
    refine e_iadd (dec_at dX6_refine 37) ?_
    refine e_ialdv (B 3 (B 7 e)) (dec_at dX6_refine 38) rfl (by decide) (aLk_30 _) (by omega) (by rw [mset_k (by decide), mset_k (by decide)]; exact ((fr.me h.2.2.1).2.2 e e0 (by omega)).1) (fun r58 => ?_)
    refine e_iadd (dec_at dX6_refine 39) ?_
    refine e_imul (dec_at dX6_refine 40) ?_
    refine e_iload (dec_at dX6_refine 41) rfl ?_
    refine e_iadd (dec_at dX6_refine 42) ?_
    refine e_ialdv (gN μ l (B 3 (B 7 e)) 2) (dec_at dX6_refine 43) rfl (by decide) (aLk_26 _) (by omega) (by rw [mset_i (by omega), mset_i (by omega)]; exact fr 26 0 _ (by omega)) (fun r64 => ?_)
    refine e_is5 (dec_at dX6_refine 44) (by decide) rfl ?_
    refine e_aload_n 0 (dec_at dX6_refine 45) rfl rfl ?_
    refine e_getr 10 (dec_at dX6_refine 46) flX6_22 rfl rfl ?_
    refine e_iconst (dec_at dX6_refine 47) ?_
    refine e_sipush (dec_at dX6_refine 48) (by decide) ?_
    refine e_iload_n 1 (dec_at dX6_refine 49) rfl rfl ?_
    refine e_imul (dec_at dX6_refine 50) ?_
    refine e_aload_n 0 (dec_at dX6_refine 51) rfl rfl ?_
    refine e_getr 15 (dec_at dX6_refine 52) flX6_37 rfl rfl ?_
    refine e_sipush (dec_at dX6_refine 53) (by decide) ?_
    refine e_iload_n 1 (dec_at dX6_refine 54) rfl rfl ?_
    refine e_imul (dec_at dX6_refine 55) ?_
    refine e_iload_n 3 (dec_at dX6_refine 56) rfl rfl ?_
    refine e_iadd (dec_at dX6_refine 57) ?_
    refine e_ialdv (B 3 (nx B (B 7 e))) (dec_at dX6_refine 58) rfl (by decide) (aLk_31 _) (by omega) (by rw [mset_k (by decide), mset_k (by decide)]; exact ((fr.me h.2.2.1).2.2 e e0 (by omega)).2) (fun r88 => ?_)
    refine e_iadd (dec_at dX6_refine 59) ?_
    refine e_imul (dec_at dX6_refine 60) ?_
    refine e_iload (dec_at dX6_refine 61) rfl ?_
    refine e_iadd (dec_at dX6_refine 62) ?_
    refine e_ialdv (gN μ l (B 3 (nx B (B 7 e))) 2) (dec_at dX6_refine 63) rfl (by decide) (aLk_26 _) (by omega) (by rw [mset_i (by omega), mset_i (by omega)]; exact fr 26 0 _ (by omega)) (fun r94 => ?_)
    refine e_is6 (dec_at dX6_refine 64) (by decide) rfl ?_
    refine e_aload_n 0 (dec_at dX6_refine 65) rfl rfl ?_
    refine e_getr 10 (dec_at dX6_refine 66) flX6_22 rfl rfl ?_
    refine e_iconst (dec_at dX6_refine 67) ?_
    refine e_sipush (dec_at dX6_refine 68) (by decide) ?_
    refine e_iload_n 2 (dec_at dX6_refine 69) rfl rfl ?_
    refine e_imul (dec_at dX6_refine 70) ?_
    refine e_iload_n 3 (dec_at dX6_refine 71) rfl rfl ?_
    refine e_iadd (dec_at dX6_refine 72) ?_
    refine e_imul (dec_at dX6_refine 73) ?_
    refine e_iload (dec_at dX6_refine 74) rfl ?_
    refine e_iadd (dec_at dX6_refine 75) ?_
    refine e_iload (dec_at dX6_refine 76) rfl ?_
    refine e_iload (dec_at dX6_refine 77) rfl ?_
    refine e_iadd (dec_at dX6_refine 78) ?_
    refine e_aload_n 0 (dec_at dX6_refine 79) rfl rfl ?_
    refine e_iload_n 2 (dec_at dX6_refine 80) rfl rfl ?_
    refine e_iload_n 3 (dec_at dX6_refine 81) rfl rfl ?_
    refine e_iload (dec_at dX6_refine 82) rfl ?_
    refine e_callVr (M' := mX6_movedOf) (dec_at dX6_refine 83) mlX6_121 (m_movedU (μ := μ) e _ (by first | exact fr | exact fr_set fr (by omega) | exact fr_set (fr_set fr (by omega)) (by omega)) h.2.2.2.2.2.1 h.2.2.2.2.2.2.1 hl (by omega) (by omega)) oX6_movedOf iX6_movedOf rfl rfl rfl rfl (by decide) (by decide) (Nat.le_of_ble_eq_true rfl) ?_
    refine e_iadd (dec_at dX6_refine 84) ?_
    refine e_iast (dec_at dX6_refine 85) rfl (by decide) (aLk_26 _) (by omega) (by omega) ?_
    refine e_ii4 (dec_at dX6_refine 86) (by decide) rfl ?_
    refine e_goto 31 (dec_at dX6_refine 87) (by decide) ?_
    refine e_iload (dec_at dX6_refine 22) rfl ?_
    refine e_iconst (dec_at dX6_refine 23) ?_
    refine e_icmp_ge 134 (dec_at dX6_refine 24) (by decide) (by decide) (by decide) (fun _ => ?_) (fun h => absurd h (by decide))
    refine e_ii3 (dec_at dX6_refine 88) (by decide) rfl ?_
    refine e_goto 18 (dec_at dX6_refine 89) (by decide) ?_
    refine e_le [some (vR 21 0), some (vI l), some (vI (l + 1)), some (vI (e + 1)), none, none, none, none, none] (by simp [leL]) (ih _ (by omega) (e + 1) _ rfl (by omega) (by omega) (fr_set (fr_set (fr_set fr (by omega)) (by omega)) (by omega)) (by rw [mset_k (by decide), mset_k (by decide), mset_k (by decide)]; exact e23) (fun i a i0 i1 a0 a1 => ?_) K)
    unfold gN
    by_cases q : i = e
    · subst q
      rcases (show a = 0 ∨ a = 1 ∨ a = 2 by omega) with rfl | rfl | rfl
      · rw [mset_i (by omega), mset_i (by omega)]; exact mset_eq
      · rw [mset_i (by omega)]; exact mset_eq
      · exact mset_eq
    · rw [mset_i (by omega), mset_i (by omega), mset_i (by omega)]
      exact hn i a i0 (by omega) a0 a1

set_option maxRecDepth 100000 in
set_option maxHeartbeats 4000000 in
theorem l_rfB2 {μ : Mm} {B : Net} {l : Int} {Q : Option Vv → Mm → Prop} (h : RH μ l B) {f : Int} (f0 : 0 ≤ f) (f1 : f < B 0 1) : ∀ (q : Nat) (k : Int) (ν : Mm), (B 2 (f + 1) - B 2 f - k).toNat = q → 0 ≤ k → k ≤ B 2 (f + 1) - B 2 f → RT μ l B f k ν → (∀ ν : Mm, RS μ l B (f + 1) ν → Ev mX6_refine 3 215 [some (vR 21 0), some (vI l), some (vI (l + 1)), some (vI f), none, none, none, none, none] [] ν Q) → Ev mX6_refine 3 172 [some (vR 21 0), some (vI l), some (vI (l + 1)), some (vI f), some (vI k), none, none, none, none] [] ν (Q) := by
  intro q
  induction q using Nat.strongRecOn with
  | _ q ih =>
  intro k ν hq k0 k1 s K
  have hl := h.2.2.2.1
  have hcap := h.2.2.2.2.1
  have hE0 := h.2.2.1.1
  have gp := h.2.1.gp
  have gp0 := gp.1
  have cc := h.2.1.1.2.1.1
  have hat := h.2.1.at f0 f1
  have hM := s.1.mp (Int.le_refl _) h.2.1
  have hd := h.d f0 (by omega)
  have d1 := rf_fst h.1.1 (f := f) (by omega)
  have d2 := rf_fst h.1.1 (f := f + 1) (by omega)
  have hb := s.b
  have e24 := s.2.1
  have e17 := s.2.2.1
  refine e_iload (dec_at dX6_refine 111) rfl ?_
  refine e_aload_n 0 (dec_at dX6_refine 112) rfl rfl ?_
  refine e_iload_n 1 (dec_at dX6_refine 113) rfl rfl ?_
  refine e_iload_n 3 (dec_at dX6_refine 114) rfl rfl ?_
  refine e_callVr (M' := mX6_sizeOf) (dec_at dX6_refine 115) mlX6_70 (m_sizeOf (μ := ν) (B := B) l f hM f0 f1) oX6_sizeOf iX6_sizeOf rfl rfl rfl rfl (by decide) (by decide) (Nat.le_of_ble_eq_true rfl) ?_
  refine e_icmp_ge 215 (dec_at dX6_refine 116) (by decide) (by omega) (by omega) (fun h180 => ?_) (fun h180 => ?_)
  · exact e_le [some (vR 21 0), some (vI l), some (vI (l + 1)), some (vI f), none, none, none, none, none] (by simp [leL]) (K ν (s.done (by omega)))
  · have hrg := h.2.1.rg (s := B 2 f + k) (by omega) (by omega)
    refine e_aload_n 0 (dec_at dX6_refine 117) rfl rfl ?_
    refine e_iload_n 2 (dec_at dX6_refine 118) rfl rfl ?_
    refine e_aload_n 0 (dec_at dX6_refine 119) rfl rfl ?_
    refine e_iload_n 1 (dec_at dX6_refine 120) rfl rfl ?_
    refine e_aload_n 0 (dec_at dX6_refine 121) rfl rfl ?_
    refine e_iload_n 1 (dec_at dX6_refine 122) rfl rfl ?_
    refine e_iload_n 3 (dec_at dX6_refine 123) rfl rfl ?_
    refine e_iload (dec_at dX6_refine 124) rfl ?_
    refine e_callVr (M' := mX6_cornerOf) (dec_at dX6_refine 125) mlX6_74 (m_cornerOf (μ := ν) (B := B) l f k hM f0 f1 k0 (by omega)) oX6_cornerOf iX6_cornerOf rfl rfl rfl rfl (by decide) (by decide) (Nat.le_of_ble_eq_true rfl) ?_
    refine e_aload_n 0 (dec_at dX6_refine 126) rfl rfl ?_
    refine e_iload_n 1 (dec_at dX6_refine 127) rfl rfl ?_
    refine e_iload_n 3 (dec_at dX6_refine 128) rfl rfl ?_
    refine e_iload (dec_at dX6_refine 129) rfl ?_
    refine e_callVr (M' := mX6_next) (dec_at dX6_refine 130) mlX6_89 (m_next (μ := ν) (B := B) l f k hM f0 f1 k0 (by omega)) oX6_next iX6_next rfl rfl rfl rfl (by decide) (by decide) (Nat.le_of_ble_eq_true rfl) ?_
    refine e_callV (M' := mX6_edgeOf) (dec_at dX6_refine 131) mlX6_115 (m_edgeOf (μ := ν) l (B 3 (B 2 f + k)) (B 3 (nx B (B 2 f + k))) (by omega) (by rw [(s.1.me h.2.2.1).2.1]; exact hE0) (by omega) (by omega)) oX6_edgeOf iX6_edgeOf rfl rfl rfl rfl (by decide) (by decide) (Nat.le_of_ble_eq_true rfl) (fun r ν2 hQ => ?_)
    obtain ⟨hνe, v, rfl, hv⟩ := hQ
    subst hνe
    have hv2 := edgeV h.1 (s.1.me h.2.2.1) (by omega) (by omega) hv
    have hvr := h.1.eor (s := B 2 f + k) (by omega) (by omega)
    subst hv2
    show Ev mX6_refine 3 206 _ [vI (B 6 (B 2 f + k)), vI (l + 1), vR 21 0] ν2 _
    refine e_callVv (M' := mX6_ringOn) (dec_at dX6_refine 132) mlX6_128 (m_ringOn (l + 1) (B 6 (B 2 f + k)) (by omega) (by omega) (by omega) (by omega) (by omega)) oX6_ringOn iX6_ringOn rfl rfl rfl rfl (by decide) (by decide) (Nat.le_of_ble_eq_true rfl) ?_
    refine e_ii4 (dec_at dX6_refine 133) (by decide) rfl ?_
    refine e_goto 172 (dec_at dX6_refine 134) (by decide) ?_
    refine ih _ (by omega) (k + 1) _ rfl (by omega) (by omega) (s.on h f0 (by omega) k0 (by omega) ?_) K
    rw [d1, rf_3l (by omega)]

set_option maxRecDepth 100000 in
set_option maxHeartbeats 4000000 in
theorem l_rfB1 {μ : Mm} {B : Net} {l : Int} {Q : Option Vv → Mm → Prop} (h : RH μ l B) : ∀ (q : Nat) (f : Int) (ν : Mm), (B 0 1 - f).toNat = q → 0 ≤ f → f ≤ B 0 1 → RS μ l B f ν → (∀ ν : Mm, RS μ l B (B 0 1) ν → Ev mX6_refine 3 221 [some (vR 21 0), some (vI l), some (vI (l + 1)), none, none, none, none, none, none] [] ν Q) → Ev mX6_refine 3 154 [some (vR 21 0), some (vI l), some (vI (l + 1)), some (vI f), none, none, none, none, none] [] ν (Q) := by
  intro q
  induction q using Nat.strongRecOn with
  | _ q ih =>
  intro f ν hq f0 f1 s K
  have hl := h.2.2.2.1
  have hcap := h.2.2.2.2.1
  have hE0 := h.2.2.1.1
  have gp := h.2.1.gp
  have gp0 := gp.1
  have cc := h.2.1.1.2.1.1
  have hM := s.1.mp (Int.le_refl _) h.2.1
  have hP := h.2.1.1.2.2.1
  have e24 := s.2.1
  refine e_iload_n 3 (dec_at dX6_refine 100) rfl rfl ?_
  refine e_aload_n 0 (dec_at dX6_refine 101) rfl rfl ?_
  refine e_getr 8 (dec_at dX6_refine 102) flX6_16 rfl rfl ?_
  refine e_iload_n 1 (dec_at dX6_refine 103) rfl rfl ?_
  refine e_ialdv (B 0 1) (dec_at dX6_refine 104) rfl (by decide) (aLk_24 _) (by omega) (by exact hM.2.2.1) (fun r160 => ?_)
  refine e_icmp_ge 221 (dec_at dX6_refine 105) (by decide) (by omega) (by omega) (fun h161 => ?_) (fun h161 => ?_)
  · obtain rfl : f = B 0 1 := by omega
    exact e_le [some (vR 21 0), some (vI l), some (vI (l + 1)), none, none, none, none, none, none] (by simp [leL]) (K ν s)
  · refine e_aload_n 0 (dec_at dX6_refine 106) rfl rfl ?_
    refine e_iload_n 2 (dec_at dX6_refine 107) rfl rfl ?_
    refine e_callVv (M' := mX6_beginFace) (dec_at dX6_refine 108) mlX6_124 (m_beginFace (l + 1) (by omega) (by omega)) oX6_beginFace iX6_beginFace rfl rfl rfl rfl (by decide) (by decide) (Nat.le_of_ble_eq_true rfl) ?_
    refine e_iconst (dec_at dX6_refine 109) ?_
    refine e_is4 (dec_at dX6_refine 110) (by decide) rfl ?_
    have hat := h.2.1.at f0 (f := f) (by omega)
    refine l_rfB2 h f0 (by omega) _ 0 _ rfl (by omega) (by omega) (s.begin h f0 (by omega)) (fun ν s => ?_)
    refine e_ii3 (dec_at dX6_refine 135) (by decide) rfl ?_
    refine e_goto 154 (dec_at dX6_refine 136) (by decide) ?_
    exact ih _ (by omega) (f + 1) ν rfl (by omega) (by omega) s K
