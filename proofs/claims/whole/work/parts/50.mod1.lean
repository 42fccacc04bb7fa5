/-! THE REFERENCE: its small methods -/
def gF (μ : Mm) (l f : Int) : Int := μ 27 0 (160 * l + f)
def gS (μ : Mm) (l f : Int) : Int := μ 28 0 (160 * l + f)
def gR (μ : Mm) (l s : Int) : Int := μ 29 0 (700 * l + s)
def gA (μ : Mm) (l e : Int) : Int := μ 30 0 (350 * l + e)
def gB (μ : Mm) (l e : Int) : Int := μ 31 0 (350 * l + e)
def gN (μ : Mm) (l c a : Int) : Int := μ 26 0 (3 * (200 * l + c) + a)
/-- level l of the reference holds the plates of the net B -/
def MP (μ : Mm) (l : Int) (B : Net) : Prop := ((0 ≤ l ∧ l ≤ 3) ∧ Bas B ∧ B 0 1 ≤ 160 ∧ nN B ≤ 700 ∧ B 0 0 ≤ 200) ∧ μ 23 0 l = B 0 0 ∧ μ 24 0 l = B 0 1 ∧ (∀ f, 0 ≤ f → f < B 0 1 → gF μ l f = B 2 f ∧ gS μ l f = B 2 (f + 1) - B 2 f) ∧ (∀ s, 0 ≤ s → s < nN B → gR μ l s = B 3 s)
/-- .. and its edges -/
def ME (μ : Mm) (l : Int) (B : Net) : Prop := (0 ≤ B 0 2 ∧ B 0 2 ≤ 350) ∧ μ 25 0 l = B 0 2 ∧ ∀ e, 0 ≤ e → e < B 0 2 → gA μ l e = B 3 (B 7 e) ∧ gB μ l e = B 3 (nx B (B 7 e))
theorem MP.fr {μ ν : Mm} {l : Int} {B : Net} (h : MP μ l B) (f23 : ν 23 0 l = μ 23 0 l) (f24 : ν 24 0 l = μ 24 0 l) (f27 : ∀ i, 160 * l ≤ i → i < 160 * l + 160 → ν 27 0 i = μ 27 0 i ∧ ν 28 0 i = μ 28 0 i) (f29 : ∀ i, 700 * l ≤ i → i < 700 * l + 700 → ν 29 0 i = μ 29 0 i) : MP ν l B := by
  obtain ⟨h1, h2, h3, h4, h5⟩ := h
  refine ⟨h1, by rw [f23]; exact h2, by rw [f24]; exact h3, fun f a b => ?_, fun s a b => ?_⟩
  · have z := f27 (160 * l + f) (by omega) (by omega)
    unfold gF gS at h4 ⊢
    rw [z.1, z.2]; exact h4 f a b
  · unfold gR at h5 ⊢
    rw [f29 (700 * l + s) (by omega) (by omega)]; exact h5 s a b
theorem MP.fr0 {μ ν : Mm} {l : Int} {B : Net} (h : MP μ l B) (f : ∀ (k : Nat) (i : Int), 23 ≤ k → k ≤ 29 → ν k 0 i = μ k 0 i) : MP ν l B :=
  h.fr (f 23 l (by omega) (by omega)) (f 24 l (by omega) (by omega)) (fun i _ _ => ⟨f 27 i (by omega) (by omega), f 28 i (by omega) (by omega)⟩) (fun i _ _ => f 29 i (by omega) (by omega))
theorem MP.at {μ : Mm} {l f : Int} {B : Net} (h : MP μ l B) (f0 : 0 ≤ f) (f1 : f < B 0 1) : (0 ≤ B 2 f ∧ B 2 f + 3 ≤ B 2 (f + 1) ∧ B 2 (f + 1) ≤ nN B) ∧ nN B ≤ 700 ∧ (0 ≤ l ∧ l ≤ 3) ∧ f < 160 := by
  obtain ⟨⟨h1, h2, h3, h4, h5⟩, _⟩ := h
  have h2 := h2.2.1
  have a := h2.le f0 (by omega)
  have b := h2.le (f := f + 1) (by omega) (by omega)
  have c := h2.2.2.1 f f0 f1
  omega
theorem MP.gp {μ : Mm} {l : Int} {B : Net} (h : MP μ l B) : GP B := h.1.2.1.2.1
theorem MP.rg {μ : Mm} {l s : Int} {B : Net} (h : MP μ l B) (h0 : 0 ≤ s) (h1 : s < nN B) : (0 ≤ B 3 s ∧ B 3 s < B 0 0) ∧ B 0 0 ≤ 200 ∧ (0 ≤ B 3 (nx B s) ∧ B 3 (nx B s) < B 0 0) := by
  have x := h.gp.nxr h0 h1
  exact ⟨h.1.2.1.2.2 s h0 h1, h.1.2.2.2.2, h.1.2.1.2.2 _ x.1.1 x.1.2⟩
theorem nx_at {B : Net} (h : GP B) {f k : Int} (f0 : 0 ≤ f) (f1 : f < B 0 1) (k0 : 0 ≤ k) (k1 : k < B 2 (f + 1) - B 2 f) : B 2 f + (k + 1) % (B 2 (f + 1) - B 2 f) = nx B (B 2 f + k) := by
  have e := h.pl f0 f1 (s := B 2 f + k) (by omega) (by omega)
  unfold nx nxF
  rw [e]
  by_cases q : k + 1 < B 2 (f + 1) - B 2 f
  · rw [if_pos (by omega), Int.emod_eq_of_lt (by omega) q]; omega
  · rw [if_neg (by omega), show k + 1 = B 2 (f + 1) - B 2 f by omega, Int.emod_self]; omega
theorem pv_at {B : Net} (h : GP B) {f k : Int} (f0 : 0 ≤ f) (f1 : f < B 0 1) (k0 : 0 ≤ k) (k1 : k < B 2 (f + 1) - B 2 f) : B 2 f + (k + (B 2 (f + 1) - B 2 f) - 1) % (B 2 (f + 1) - B 2 f) = pv B (B 2 f + k) := by
  have e := h.pl f0 f1 (s := B 2 f + k) (by omega) (by omega)
  unfold pv pvF
  rw [e]
  by_cases q : k = 0
  · subst q
    rw [if_neg (by omega), show 0 + (B 2 (f + 1) - B 2 f) - 1 = B 2 (f + 1) - B 2 f - 1 by omega, Int.emod_eq_of_lt (by omega) (by omega)]; omega
  · rw [if_pos (by omega), show k + (B 2 (f + 1) - B 2 f) - 1 = (k - 1) + (B 2 (f + 1) - B 2 f) by omega, Int.add_emod_right, Int.emod_eq_of_lt (by omega) (by omega)]; omega

set_option maxRecDepth 100000 in
set_option maxHeartbeats 4000000 in
theorem m_in {μ : Mm} (v a b : Int) (hv : inL v) (ha : inL a) (hb : inL b) : Mc mX6_in 0 [vL v, vL a, vL b] μ (Rt (some (vI (b01 (a ≤ v ∧ v ≤ b)))) μ) := by
  refine Mc.of (L := [some (vL v), none, some (vL a), none, some (vL b), none]) (by decide +kernel) (by simp [leL, entA, isLong, mX6_in]) (by simp [entA, isLong, mX6_in]) ?_
  refine e_lload_n 0 (dec_at dX6_in 0) rfl rfl ?_
  refine e_lload_n 2 (dec_at dX6_in 1) rfl rfl ?_
  refine e_lcmp (dec_at dX6_in 2) (by omega) (by omega) ?_
  refine e_clt 17 (dec_at dX6_in 3) (by decide) (fun h3 => ?_) (fun h3 => ?_)
  · refine e_iconst (dec_at dX6_in 10) ?_
    refine e_zreturn (dec_at dX6_in 11) rfl (by first | exact Or.inl rfl | exact Or.inr rfl | exact b01_or) ?_
    refine ⟨congrArg (fun z => some (vI z)) ?_, rfl⟩
    first | exact (b01_t (by omega)).symm | exact (b01_f (by omega)).symm
  · refine e_lload_n 0 (dec_at dX6_in 4) rfl rfl ?_
    refine e_lload (dec_at dX6_in 5) rfl ?_
    refine e_lcmp (dec_at dX6_in 6) (by omega) (by omega) ?_
    refine e_cgt 17 (dec_at dX6_in 7) (by decide) (fun h10 => ?_) (fun h10 => ?_)
    · refine e_iconst (dec_at dX6_in 10) ?_
      refine e_zreturn (dec_at dX6_in 11) rfl (by first | exact Or.inl rfl | exact Or.inr rfl | exact b01_or) ?_
      refine ⟨congrArg (fun z => some (vI z)) ?_, rfl⟩
      first | exact (b01_t (by omega)).symm | exact (b01_f (by omega)).symm
    · refine e_iconst (dec_at dX6_in 8) ?_
      refine e_goto 18 (dec_at dX6_in 9) (by decide) ?_
      refine e_zreturn (dec_at dX6_in 11) rfl (by first | exact Or.inl rfl | exact Or.inr rfl | exact b01_or) ?_
      refine ⟨congrArg (fun z => some (vI z)) ?_, rfl⟩
      first | exact (b01_t (by omega)).symm | exact (b01_f (by omega)).symm

set_option maxRecDepth 100000 in
set_option maxHeartbeats 4000000 in
theorem m_isLevel {μ : Mm} (a : Int) (ha : inR a) : Mc mX6_isLevel 1 [vI a] μ (Rt (some (vI (b01 (0 ≤ a ∧ a ≤ 3)))) μ) := by
  refine Mc.of (L := [some (vI a)]) (by decide +kernel) (by simp [leL, entA, isLong, mX6_isLevel]) (by simp [entA, isLong, mX6_isLevel]) ?_
  refine e_iload_n 0 (dec_at dX6_isLevel 0) rfl rfl ?_
  refine e_i2l (dec_at dX6_isLevel 1) (by omega) ?_
  refine e_lconst 0 (dec_at dX6_isLevel 2) rfl ?_
  refine e_ldc2 3 (dec_at dX6_isLevel 3) klX6_82 (by decide) ?_
  refine e_callSr (M' := mX6_in) (dec_at dX6_isLevel 4) mlX6_59 (m_in (a) (0) (3) (by omega) (by omega) (by omega)) oX6_in sX6_in rfl rfl (by decide) (by decide) (Nat.le_of_ble_eq_true rfl) ?_
  refine e_zreturn (dec_at dX6_isLevel 5) rfl (by first | exact Or.inl rfl | exact Or.inr rfl | exact b01_or) ?_
  exact ⟨rfl, rfl⟩

set_option maxRecDepth 100000 in
set_option maxHeartbeats 4000000 in
theorem m_isAxis {μ : Mm} (a : Int) (ha : inR a) : Mc mX6_isAxis 1 [vI a] μ (Rt (some (vI (b01 (0 ≤ a ∧ a ≤ 2)))) μ) := by
  refine Mc.of (L := [some (vI a)]) (by decide +kernel) (by simp [leL, entA, isLong, mX6_isAxis]) (by simp [entA, isLong, mX6_isAxis]) ?_
  refine e_iload_n 0 (dec_at dX6_isAxis 0) rfl rfl ?_
  refine e_i2l (dec_at dX6_isAxis 1) (by omega) ?_
  refine e_lconst 0 (dec_at dX6_isAxis 2) rfl ?_
  refine e_ldc2 2 (dec_at dX6_isAxis 3) klX6_57 (by decide) ?_
  refine e_callSr (M' := mX6_in) (dec_at dX6_isAxis 4) mlX6_59 (m_in (a) (0) (2) (by omega) (by omega) (by omega)) oX6_in sX6_in rfl rfl (by decide) (by decide) (Nat.le_of_ble_eq_true rfl) ?_
  refine e_zreturn (dec_at dX6_isAxis 5) rfl (by first | exact Or.inl rfl | exact Or.inr rfl | exact b01_or) ?_
  exact ⟨rfl, rfl⟩

set_option maxRecDepth 100000 in
set_option maxHeartbeats 4000000 in
theorem m_meets {μ : Mm} (a : Int) (ha : inR a) : Mc mX6_meets 0 [vR 21 0, vI a] μ (Rt (some (vI (-10 - a))) (mset μ 21 0 0 a)) := by
  refine Mc.of (L := [some (vR 21 0), some (vI a)]) (by decide +kernel) (by simp [leL, entA, isLong, mX6_meets]) (by simp [entA, isLong, mX6_meets]) ?_
  refine e_aload_n 0 (dec_at dX6_meets 0) rfl rfl ?_
  refine e_iload_n 1 (dec_at dX6_meets 1) rfl rfl ?_
  refine e_put 0 0 (dec_at dX6_meets 2) flX6_54 fpX6_0 rfl rfl rfl (by omega) (fit_int _) ?_
  refine e_bipush (dec_at dX6_meets 3) (by decide) ?_
  refine e_iload_n 1 (dec_at dX6_meets 4) rfl rfl ?_
  refine e_isub (dec_at dX6_meets 5) ?_
  refine e_ireturn (dec_at dX6_meets 6) rfl ?_
  exact ⟨rfl, rfl⟩

set_option maxRecDepth 100000 in
set_option maxHeartbeats 4000000 in
theorem m_sizeOf {μ : Mm} {B : Net} (l f : Int) (h : MP μ l B) (f0 : 0 ≤ f) (f1 : f < B 0 1) : Mc mX6_sizeOf 0 [vR 21 0, vI l, vI f] μ (Rt (some (vI (B 2 (f + 1) - B 2 f))) μ) := by
  refine Mc.of (L := [some (vR 21 0), some (vI l), some (vI f)]) (by decide +kernel) (by simp [leL, entA, isLong, mX6_sizeOf]) (by simp [entA, isLong, mX6_sizeOf]) ?_
  have ha := h.at f0 f1
  refine e_aload_n 0 (dec_at dX6_sizeOf 0) rfl rfl ?_
  refine e_getr 12 (dec_at dX6_sizeOf 1) flX6_28 rfl rfl ?_
  refine e_sipush (dec_at dX6_sizeOf 2) (by decide) ?_
  refine e_iload_n 1 (dec_at dX6_sizeOf 3) rfl rfl ?_
  refine e_imul (dec_at dX6_sizeOf 4) ?_
  refine e_iload_n 2 (dec_at dX6_sizeOf 5) rfl rfl ?_
  refine e_iadd (dec_at dX6_sizeOf 6) ?_
  refine e_ialdv (B 2 (f + 1) - B 2 f) (dec_at dX6_sizeOf 7) rfl (by decide) (aLk_28 _) (by omega) (by exact (h.2.2.2.1 f f0 f1).2) (fun r11 => ?_)
  refine e_ireturn (dec_at dX6_sizeOf 8) rfl ?_
  exact ⟨rfl, rfl⟩

set_option maxRecDepth 100000 in
set_option maxHeartbeats 4000000 in
theorem m_cornerOf {μ : Mm} {B : Net} (l f k : Int) (h : MP μ l B) (f0 : 0 ≤ f) (f1 : f < B 0 1) (k0 : 0 ≤ k) (k1 : k < B 2 (f + 1) - B 2 f) : Mc mX6_cornerOf 0 [vR 21 0, vI l, vI f, vI k] μ (Rt (some (vI (B 3 (B 2 f + k)))) μ) := by
  refine Mc.of (L := [some (vR 21 0), some (vI l), some (vI f), some (vI k)]) (by decide +kernel) (by simp [leL, entA, isLong, mX6_cornerOf]) (by simp [entA, isLong, mX6_cornerOf]) ?_
  have ha := h.at f0 f1
  refine e_aload_n 0 (dec_at dX6_cornerOf 0) rfl rfl ?_
  refine e_getr 13 (dec_at dX6_cornerOf 1) flX6_31 rfl rfl ?_
  refine e_sipush (dec_at dX6_cornerOf 2) (by decide) ?_
  refine e_iload_n 1 (dec_at dX6_cornerOf 3) rfl rfl ?_
  refine e_imul (dec_at dX6_cornerOf 4) ?_
  refine e_aload_n 0 (dec_at dX6_cornerOf 5) rfl rfl ?_
  refine e_getr 11 (dec_at dX6_cornerOf 6) flX6_25 rfl rfl ?_
  refine e_sipush (dec_at dX6_cornerOf 7) (by decide) ?_
  refine e_iload_n 1 (dec_at dX6_cornerOf 8) rfl rfl ?_
  refine e_imul (dec_at dX6_cornerOf 9) ?_
  refine e_iload_n 2 (dec_at dX6_cornerOf 10) rfl rfl ?_
  refine e_iadd (dec_at dX6_cornerOf 11) ?_
  refine e_ialdv (B 2 f) (dec_at dX6_cornerOf 12) rfl (by decide) (aLk_27 _) (by omega) (by exact (h.2.2.2.1 f f0 f1).1) (fun r20 => ?_)
  refine e_iadd (dec_at dX6_cornerOf 13) ?_
  refine e_iload_n 3 (dec_at dX6_cornerOf 14) rfl rfl ?_
  refine e_iadd (dec_at dX6_cornerOf 15) ?_
  refine e_ialdv (B 3 (B 2 f + k)) (dec_at dX6_cornerOf 16) rfl (by decide) (aLk_29 _) (by omega) (by rw [show 700 * l + B 2 f + k = 700 * l + (B 2 f + k) by omega]; exact h.2.2.2.2 (B 2 f + k) (by omega) (by omega)) (fun r24 => ?_)
  refine e_ireturn (dec_at dX6_cornerOf 17) rfl ?_
  exact ⟨rfl, rfl⟩

set_option maxRecDepth 100000 in
set_option maxHeartbeats 4000000 in
theorem m_next {μ : Mm} {B : Net} (l f k : Int) (h : MP μ l B) (f0 : 0 ≤ f) (f1 : f < B 0 1) (k0 : 0 ≤ k) (k1 : k < B 2 (f + 1) - B 2 f) : Mc mX6_next 1 [vR 21 0, vI l, vI f, vI k] μ (Rt (some (vI (B 3 (nx B (B 2 f + k))))) μ) := by
  refine Mc.of (L := [some (vR 21 0), some (vI l), some (vI f), some (vI k)]) (by decide +kernel) (by simp [leL, entA, isLong, mX6_next]) (by simp [entA, isLong, mX6_next]) ?_
  have ha := h.at f0 f1
  have hm0 := Int.emod_nonneg (k + 1) (show B 2 (f + 1) - B 2 f ≠ 0 by omega)
  have hm1 := Int.emod_lt_of_pos (k + 1) (show 0 < B 2 (f + 1) - B 2 f by omega)
  refine e_aload_n 0 (dec_at dX6_next 0) rfl rfl ?_
  refine e_iload_n 1 (dec_at dX6_next 1) rfl rfl ?_
  refine e_iload_n 2 (dec_at dX6_next 2) rfl rfl ?_
  refine e_iload_n 3 (dec_at dX6_next 3) rfl rfl ?_
  refine e_iconst (dec_at dX6_next 4) ?_
  refine e_iadd (dec_at dX6_next 5) ?_
  refine e_aload_n 0 (dec_at dX6_next 6) rfl rfl ?_
  refine e_iload_n 1 (dec_at dX6_next 7) rfl rfl ?_
  refine e_iload_n 2 (dec_at dX6_next 8) rfl rfl ?_
  refine e_callVr (M' := mX6_sizeOf) (dec_at dX6_next 9) mlX6_70 (m_sizeOf (μ := μ) (B := B) l f h f0 f1) oX6_sizeOf iX6_sizeOf rfl rfl rfl rfl (by decide) (by decide) (Nat.le_of_ble_eq_true rfl) ?_
  refine e_irem (dec_at dX6_next 10) (by omega) (by omega) ?_
  refine e_callVr (M' := mX6_cornerOf) (dec_at dX6_next 11) mlX6_74 (m_cornerOf (μ := μ) (B := B) l f ((k + 1) % (B 2 (f + 1) - B 2 f)) h f0 f1 hm0 hm1) oX6_cornerOf iX6_cornerOf rfl rfl rfl rfl (by decide) (by decide) (Nat.le_of_ble_eq_true rfl) ?_
  refine e_ireturn (dec_at dX6_next 12) rfl ?_
  refine ⟨?_, rfl⟩
  rw [nx_at h.gp f0 f1 k0 k1]

set_option maxRecDepth 100000 in
set_option maxHeartbeats 4000000 in
theorem m_number {μ : Mm} (l c a : Int) (hl : 0 ≤ l ∧ l ≤ 3) (hc : 0 ≤ c ∧ c < 200) (ha : 0 ≤ a ∧ a < 3) : Mc mX6_number 0 [vR 21 0, vI l, vI c, vI a] μ (Rt (some (vI (gN μ l c a))) μ) := by
  refine Mc.of (L := [some (vR 21 0), some (vI l), some (vI c), some (vI a)]) (by decide +kernel) (by simp [leL, entA, isLong, mX6_number]) (by simp [entA, isLong, mX6_number]) ?_
  refine e_aload_n 0 (dec_at dX6_number 0) rfl rfl ?_
  refine e_getr 10 (dec_at dX6_number 1) flX6_22 rfl rfl ?_
  refine e_iconst (dec_at dX6_number 2) ?_
  refine e_sipush (dec_at dX6_number 3) (by decide) ?_
  refine e_iload_n 1 (dec_at dX6_number 4) rfl rfl ?_
  refine e_imul (dec_at dX6_number 5) ?_
  refine e_iload_n 2 (dec_at dX6_number 6) rfl rfl ?_
  refine e_iadd (dec_at dX6_number 7) ?_
  refine e_imul (dec_at dX6_number 8) ?_
  refine e_iload_n 3 (dec_at dX6_number 9) rfl rfl ?_
  refine e_iadd (dec_at dX6_number 10) ?_
  refine e_iald (dec_at dX6_number 11) rfl (by decide) (aLk_26 _) (by omega) (fun r15 => ?_)
  refine e_ireturn (dec_at dX6_number 12) rfl ?_
  exact ⟨rfl, rfl⟩

set_option maxRecDepth 100000 in
set_option maxHeartbeats 4000000 in
theorem m_square {μ : Mm} (a : Int) : Mc mX6_square 0 [vL a] μ (Rt (some (vL (a * a))) μ) := by
  refine Mc.of (L := [some (vL a), none]) (by decide +kernel) (by simp [leL, entA, isLong, mX6_square]) (by simp [entA, isLong, mX6_square]) ?_
  refine e_lload_n 0 (dec_at dX6_square 0) rfl rfl ?_
  refine e_lload_n 0 (dec_at dX6_square 1) rfl rfl ?_
  refine e_lmul (dec_at dX6_square 2) ?_
  refine e_lreturn (dec_at dX6_square 3) rfl ?_
  exact ⟨rfl, rfl⟩

set_option maxRecDepth 100000 in
set_option maxHeartbeats 4000000 in
theorem l_faceWith2 {μ : Mm} {B : Net} {l a b n : Int} (h : MP μ l B) (ha : inR a) (hb : inR b) (hn : 0 ≤ n ∧ n ≤ B 0 1) {f : Int} (f0 : 0 ≤ f) (f1 : f < n) (hf : ∀ s, 0 ≤ s → s < B 2 f → ¬ (B 3 s = a ∧ B 3 (nx B s) = b)) : ∀ (q : Nat) (k : Int), (B 2 (f + 1) - B 2 f - k).toNat = q → 0 ≤ k → k ≤ B 2 (f + 1) - B 2 f → (∀ s, 0 ≤ s → s < B 2 f + k → ¬ (B 3 s = a ∧ B 3 (nx B s) = b)) → ((∀ s, 0 ≤ s → s < B 2 (f + 1) → ¬ (B 3 s = a ∧ B 3 (nx B s) = b)) → Ev mX6_faceWith 2 66 [some (vR 21 0), some (vI l), some (vI a), some (vI b), some (vI n), some (vI f), none] [] μ (fun r ν => ∃ v, r = some (vI v) ∧ ((v = -1 ∧ ν = μ ∧ ∀ s, 0 ≤ s → s < B 2 n → ¬ (B 3 s = a ∧ B 3 (nx B s) = b)) ∨ ((0 ≤ v ∧ v < n) ∧ ∃ k, (0 ≤ k ∧ k < B 2 (v + 1) - B 2 v) ∧ ν = mset μ 21 0 16 k ∧ B 3 (B 2 v + k) = a ∧ B 3 (nx B (B 2 v + k)) = b)))) → Ev mX6_faceWith 2 13 [some (vR 21 0), some (vI l), some (vI a), some (vI b), some (vI n), some (vI f), some (vI k)] [] μ (fun r ν => ∃ v, r = some (vI v) ∧ ((v = -1 ∧ ν = μ ∧ ∀ s, 0 ≤ s → s < B 2 n → ¬ (B 3 s = a ∧ B 3 (nx B s) = b)) ∨ ((0 ≤ v ∧ v < n) ∧ ∃ k, (0 ≤ k ∧ k < B 2 (v + 1) - B 2 v) ∧ ν = mset μ 21 0 16 k ∧ B 3 (B 2 v + k) = a ∧ B 3 (nx B (B 2 v + k)) = b))) := by
  intro q
  induction q using Nat.strongRecOn with
  | _ q ih =>
  intro k hq k0 k1 hk K
  have hat := h.at f0 (by omega)
  refine e_iload (dec_at dX6_faceWith 7) rfl ?_
  refine e_aload_n 0 (dec_at dX6_faceWith 8) rfl rfl ?_
  refine e_iload_n 1 (dec_at dX6_faceWith 9) rfl rfl ?_
  refine e_iload (dec_at dX6_faceWith 10) rfl ?_
  refine e_callVr (M' := mX6_sizeOf) (dec_at dX6_faceWith 11) mlX6_70 (m_sizeOf (μ := μ) (B := B) l f h f0 (by omega)) oX6_sizeOf iX6_sizeOf rfl rfl rfl rfl (by decide) (by decide) (Nat.le_of_ble_eq_true rfl) ?_
  refine e_icmp_ge 66 (dec_at dX6_faceWith 12) (by decide) (by omega) (by omega) (fun h22 => ?_) (fun h22 => ?_)
  · refine e_le [some (vR 21 0), some (vI l), some (vI a), some (vI b), some (vI n), some (vI f), none] (by simp [leL]) (K (fun s s0 s1 => hk s s0 (by omega)))
  · have hrg := h.rg (s := B 2 f + k) (by omega) (by omega)
    refine e_aload_n 0 (dec_at dX6_faceWith 13) rfl rfl ?_
    refine e_iload_n 1 (dec_at dX6_faceWith 14) rfl rfl ?_
    refine e_iload (dec_at dX6_faceWith 15) rfl ?_
    refine e_iload (dec_at dX6_faceWith 16) rfl ?_
    refine e_callVr (M' := mX6_cornerOf) (dec_at dX6_faceWith 17) mlX6_74 (m_cornerOf (μ := μ) (B := B) l f k h f0 (by omega) k0 (by omega)) oX6_cornerOf iX6_cornerOf rfl rfl rfl rfl (by decide) (by decide) (Nat.le_of_ble_eq_true rfl) ?_
    refine e_iload_n 2 (dec_at dX6_faceWith 18) rfl rfl ?_
    refine e_icmp_ne 60 (dec_at dX6_faceWith 19) (by decide) (by omega) (by omega) (fun h35 => ?_) (fun h35 => ?_)
    · refine e_ii6 (dec_at dX6_faceWith 32) (by decide) rfl ?_
      refine e_goto 13 (dec_at dX6_faceWith 33) (by decide) ?_
      refine ih _ (by omega) (k + 1) rfl (by omega) (by omega) (fun s s0 s1 => ?_) K
      by_cases q : s = B 2 f + k
      · subst q; intro z; omega
      · exact hk s s0 (by omega)
    · refine e_aload_n 0 (dec_at dX6_faceWith 20) rfl rfl ?_
      refine e_iload_n 1 (dec_at dX6_faceWith 21) rfl rfl ?_
      refine e_iload (dec_at dX6_faceWith 22) rfl ?_
      refine e_iload (dec_at dX6_faceWith 23) rfl ?_
      refine e_callVr (M' := mX6_next) (dec_at dX6_faceWith 24) mlX6_89 (m_next (μ := μ) (B := B) l f k h f0 (by omega) k0 (by omega)) oX6_next iX6_next rfl rfl rfl rfl (by decide) (by decide) (Nat.le_of_ble_eq_true rfl) ?_
      refine e_iload_n 3 (dec_at dX6_faceWith 25) rfl rfl ?_
      refine e_icmp_ne 60 (dec_at dX6_faceWith 26) (by decide) (by omega) (by omega) (fun h48 => ?_) (fun h48 => ?_)
      · refine e_ii6 (dec_at dX6_faceWith 32) (by decide) rfl ?_
        refine e_goto 13 (dec_at dX6_faceWith 33) (by decide) ?_
        refine ih _ (by omega) (k + 1) rfl (by omega) (by omega) (fun s s0 s1 => ?_) K
        by_cases q : s = B 2 f + k
        · subst q; intro z; omega
        · exact hk s s0 (by omega)
      · refine e_aload_n 0 (dec_at dX6_faceWith 27) rfl rfl ?_
        refine e_iload (dec_at dX6_faceWith 28) rfl ?_
        refine e_put 16 16 (dec_at dX6_faceWith 29) flX6_92 fpX6_16 rfl rfl rfl (by omega) (fit_int _) ?_
        refine e_iload (dec_at dX6_faceWith 30) rfl ?_
        refine e_ireturn (dec_at dX6_faceWith 31) rfl ?_
        exact ⟨f, rfl, Or.inr ⟨by omega, k, by omega, rfl, by omega, by omega⟩⟩

set_option maxRecDepth 100000 in
set_option maxHeartbeats 4000000 in
theorem l_faceWith1 {μ : Mm} {B : Net} {l a b n : Int} (h : MP μ l B) (ha : inR a) (hb : inR b) (hn : 0 ≤ n ∧ n ≤ B 0 1) : ∀ (q : Nat) (f : Int), (n - f).toNat = q → 0 ≤ f → f ≤ n → (∀ s, 0 ≤ s → s < B 2 f → ¬ (B 3 s = a ∧ B 3 (nx B s) = b)) → Ev mX6_faceWith 2 3 [some (vR 21 0), some (vI l), some (vI a), some (vI b), some (vI n), some (vI f), none] [] μ (fun r ν => ∃ v, r = some (vI v) ∧ ((v = -1 ∧ ν = μ ∧ ∀ s, 0 ≤ s → s < B 2 n → ¬ (B 3 s = a ∧ B 3 (nx B s) = b)) ∨ ((0 ≤ v ∧ v < n) ∧ ∃ k, (0 ≤ k ∧ k < B 2 (v + 1) - B 2 v) ∧ ν = mset μ 21 0 16 k ∧ B 3 (B 2 v + k) = a ∧ B 3 (nx B (B 2 v + k)) = b))) := by
  intro q
  induction q using Nat.strongRecOn with
  | _ q ih =>
  intro f hq f0 f1 hf
  have hat := h.1.2.2.1
  refine e_iload (dec_at dX6_faceWith 2) rfl ?_
  refine e_iload (dec_at dX6_faceWith 3) rfl ?_
  refine e_icmp_ge 72 (dec_at dX6_faceWith 4) (by decide) (by omega) (by omega) (fun h7 => ?_) (fun h7 => ?_)
  · refine e_iconst (dec_at dX6_faceWith 36) ?_
    refine e_ireturn (dec_at dX6_faceWith 37) rfl ?_
    obtain rfl : f = n := by omega
    exact ⟨-1, rfl, Or.inl ⟨rfl, rfl, hf⟩⟩
  · refine e_iconst (dec_at dX6_faceWith 5) ?_
    refine e_is6 (dec_at dX6_faceWith 6) (by decide) rfl ?_
    refine l_faceWith2 h ha hb hn f0 (by omega) hf _ 0 rfl (by omega) (by have := h.at f0 (f := f) (by omega); omega) (fun s s0 s1 => hf s s0 (by omega)) (fun hk => ?_)
    refine e_ii5 (dec_at dX6_faceWith 34) (by decide) rfl ?_
    refine e_goto 3 (dec_at dX6_faceWith 35) (by decide) ?_
    exact ih _ (by omega) (f + 1) rfl (by omega) (by omega) hk

set_option maxRecDepth 100000 in
set_option maxHeartbeats 4000000 in
theorem m_faceWith {μ : Mm} {B : Net} (l a b n : Int) (h : MP μ l B) (ha : inR a) (hb : inR b) (hn : 0 ≤ n ∧ n ≤ B 0 1) : Mc mX6_faceWith 2 [vR 21 0, vI l, vI a, vI b, vI n] μ (fun r ν => ∃ v, r = some (vI v) ∧ ((v = -1 ∧ ν = μ ∧ ∀ s, 0 ≤ s → s < B 2 n → ¬ (B 3 s = a ∧ B 3 (nx B s) = b)) ∨ ((0 ≤ v ∧ v < n) ∧ ∃ k, (0 ≤ k ∧ k < B 2 (v + 1) - B 2 v) ∧ ν = mset μ 21 0 16 k ∧ B 3 (B 2 v + k) = a ∧ B 3 (nx B (B 2 v + k)) = b))) := by
  refine Mc.of (L := [some (vR 21 0), some (vI l), some (vI a), some (vI b), some (vI n), none, none]) (by decide +kernel) (by simp [leL, entA, isLong, mX6_faceWith]) (by simp [entA, isLong, mX6_faceWith]) ?_
  refine e_iconst (dec_at dX6_faceWith 0) ?_
  refine e_is5 (dec_at dX6_faceWith 1) (by decide) rfl ?_
  exact l_faceWith1 h ha hb hn _ 0 rfl (by omega) (by omega) (fun s s0 s1 => by have := h.gp.2.1; omega)
