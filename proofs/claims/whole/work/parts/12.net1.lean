/-- f at i, i + 1 .., n times -/
def fl {α : Type} (f : Int → α → α) : Int → Nat → α → α
  | _, 0, a => a
  | i, n + 1, a => fl f (i + 1) n (f i a)
/-- f at i .. e - 1 -/
def flo {α : Type} (f : Int → α → α) (i e : Int) (a : α) : α := fl f i (e - i).toNat a
theorem flo_stop {α : Type} {f : Int → α → α} {i e : Int} {a : α} (h : e ≤ i) : flo f i e a = a := by
  unfold flo
  rw [show (e - i).toNat = 0 by omega]
  rfl
theorem flo_step {α : Type} {f : Int → α → α} {i e : Int} {a : α} (h : i < e) : flo f i e a = flo f (i + 1) e (f i a) := by
  unfold flo
  rw [show (e - i).toNat = (e - (i + 1)).toNat + 1 by omega]
  rfl
theorem flo_cg {α : Type} {f g : Int → α → α} {e : Int} : ∀ (n : Nat) (i : Int) (a : α), (e - i).toNat = n → (∀ j b, i ≤ j → j < e → f j b = g j b) → flo f i e a = flo g i e a := by
  intro n
  induction n with
  | zero => intro i a hn h; rw [flo_stop (by omega), flo_stop (by omega)]
  | succ n ih =>
    intro i a hn h
    rw [flo_step (f := f) (by omega), flo_step (f := g) (by omega), h i a (by omega) (by omega)]
    exact ih (i + 1) _ (by omega) (fun j b h1 h2 => h j b (by omega) h2)
theorem flo_last {α : Type} {f : Int → α → α} {e : Int} : ∀ (n : Nat) (i : Int) (a : α), (e - i).toNat = n → i ≤ e → flo f i (e + 1) a = f e (flo f i e a) := by
  intro n
  induction n with
  | zero =>
    intro i a hn h
    obtain rfl : i = e := by omega
    rw [flo_step (by omega), flo_stop (by omega), flo_stop (by omega)]
  | succ n ih =>
    intro i a hn h
    rw [flo_step (by omega), flo_step (i := i) (e := e) (by omega)]
    exact ih (i + 1) _ (by omega) (by omega)
/-- the step behind s, ahead of s -/
def nxF (fst pl : Int → Int) (s : Int) : Int := if s + 1 < fst (pl s + 1) then s + 1 else fst (pl s)
def pvF (fst pl : Int → Int) (s : Int) : Int := if fst (pl s) < s then s - 1 else fst (pl s + 1) - 1
/-- a net's numbers are such as name something -/
def NB1 (μ : Mm) (l : Int) : Prop := (0 ≤ μ 11 l 0 ∧ μ 11 l 0 ≤ capC l) ∧ (0 ≤ μ 11 l 1 ∧ μ 11 l 1 ≤ capP l) ∧ (0 ≤ μ 13 l (μ 11 l 1) ∧ μ 13 l (μ 11 l 1) ≤ 2 * capE l) ∧ (∀ f, 0 ≤ f → f < μ 11 l 1 → 0 ≤ μ 13 l f ∧ μ 13 l f + 1 ≤ μ 13 l (f + 1) ∧ μ 13 l (f + 1) ≤ μ 13 l (μ 11 l 1)) ∧ (∀ s, 0 ≤ s → s < μ 13 l (μ 11 l 1) → (0 ≤ μ 14 l s ∧ μ 14 l s < μ 11 l 0) ∧ (0 ≤ μ 15 l s ∧ μ 15 l s < μ 11 l 1) ∧ μ 13 l (μ 15 l s) ≤ s ∧ s < μ 13 l (μ 15 l s + 1))
def NB2 (μ : Mm) (l : Int) : Prop := (0 ≤ μ 11 l 2 ∧ μ 11 l 2 ≤ capE l) ∧ (∀ e, 0 ≤ e → e < μ 11 l 2 → 0 ≤ μ 18 l e ∧ μ 18 l e < μ 13 l (μ 11 l 1))
theorem NB1.nx {μ : Mm} {l s : Int} (h : NB1 μ l) (h0 : 0 ≤ s) (h1 : s < μ 13 l (μ 11 l 1)) : 0 ≤ nxF (μ 13 l) (μ 15 l) s ∧ nxF (μ 13 l) (μ 15 l) s < μ 13 l (μ 11 l 1) := by
  have a := h.2.2.2.2 s h0 h1
  have b := h.2.2.2.1 (μ 15 l s) (by omega) (by omega)
  unfold nxF
  split <;> omega
theorem NB1.pv {μ : Mm} {l s : Int} (h : NB1 μ l) (h0 : 0 ≤ s) (h1 : s < μ 13 l (μ 11 l 1)) : 0 ≤ pvF (μ 13 l) (μ 15 l) s ∧ pvF (μ 13 l) (μ 15 l) s < μ 13 l (μ 11 l 1) := by
  have a := h.2.2.2.2 s h0 h1
  have b := h.2.2.2.1 (μ 15 l s) (by omega) (by omega)
  unfold pvF
  split <;> omega

set_option maxRecDepth 100000 in
set_option maxHeartbeats 4000000 in
theorem c_hasCorner {μ : Mm} (l : Int) (c : Int) (hc : inR c) : Mc mX2_hasCorner 0 [vR 11 l, vI c] μ (Rt (some (vI (b01 (0 ≤ c ∧ c < μ 11 l 0)))) μ) := by
  refine Mc.of (L := [some (vR 11 l), some (vI c)]) (by decide +kernel) (by simp [leL, entA, isLong, mX2_hasCorner]) (by simp [entA, isLong, mX2_hasCorner]) ?_
  have hCc := capC_in l
  have hCp := capP_in l
  have hCe := capE_in l
  refine e_iload_n 1 (dec_at dX2_hasCorner 0) rfl rfl ?_
  refine e_if_lt 16 (dec_at dX2_hasCorner 1) (by decide) (by omega) (fun h1 => ?_) (fun h1 => ?_)
  · refine e_iconst (dec_at dX2_hasCorner 8) ?_
    refine e_zreturn (dec_at dX2_hasCorner 9) rfl (by first | exact Or.inl rfl | exact Or.inr rfl | exact b01_or) ?_
    first | exact rt1 (by omega) | exact rt0 (by omega)
  · refine e_iload_n 1 (dec_at dX2_hasCorner 2) rfl rfl ?_
    refine e_aload_n 0 (dec_at dX2_hasCorner 3) rfl rfl ?_
    refine e_geti 0 0 (dec_at dX2_hasCorner 4) flX2_39 rfl rfl rfl (fun r6 => ?_)
    refine e_icmp_ge 16 (dec_at dX2_hasCorner 5) (by decide) (by omega) (by omega) (fun h9 => ?_) (fun h9 => ?_)
    · refine e_iconst (dec_at dX2_hasCorner 8) ?_
      refine e_zreturn (dec_at dX2_hasCorner 9) rfl (by first | exact Or.inl rfl | exact Or.inr rfl | exact b01_or) ?_
      first | exact rt1 (by omega) | exact rt0 (by omega)
    · refine e_iconst (dec_at dX2_hasCorner 6) ?_
      refine e_goto 17 (dec_at dX2_hasCorner 7) (by decide) ?_
      refine e_zreturn (dec_at dX2_hasCorner 9) rfl (by first | exact Or.inl rfl | exact Or.inr rfl | exact b01_or) ?_
      first | exact rt1 (by omega) | exact rt0 (by omega)

set_option maxRecDepth 100000 in
set_option maxHeartbeats 4000000 in
theorem c_hasPlate {μ : Mm} (l : Int) (c : Int) (hc : inR c) : Mc mX2_hasPlate 0 [vR 11 l, vI c] μ (Rt (some (vI (b01 (0 ≤ c ∧ c < μ 11 l 1)))) μ) := by
  refine Mc.of (L := [some (vR 11 l), some (vI c)]) (by decide +kernel) (by simp [leL, entA, isLong, mX2_hasPlate]) (by simp [entA, isLong, mX2_hasPlate]) ?_
  have hCc := capC_in l
  have hCp := capP_in l
  have hCe := capE_in l
  refine e_iload_n 1 (dec_at dX2_hasPlate 0) rfl rfl ?_
  refine e_if_lt 16 (dec_at dX2_hasPlate 1) (by decide) (by omega) (fun h1 => ?_) (fun h1 => ?_)
  · refine e_iconst (dec_at dX2_hasPlate 8) ?_
    refine e_zreturn (dec_at dX2_hasPlate 9) rfl (by first | exact Or.inl rfl | exact Or.inr rfl | exact b01_or) ?_
    first | exact rt1 (by omega) | exact rt0 (by omega)
  · refine e_iload_n 1 (dec_at dX2_hasPlate 2) rfl rfl ?_
    refine e_aload_n 0 (dec_at dX2_hasPlate 3) rfl rfl ?_
    refine e_geti 1 1 (dec_at dX2_hasPlate 4) flX2_43 rfl rfl rfl (fun r6 => ?_)
    refine e_icmp_ge 16 (dec_at dX2_hasPlate 5) (by decide) (by omega) (by omega) (fun h9 => ?_) (fun h9 => ?_)
    · refine e_iconst (dec_at dX2_hasPlate 8) ?_
      refine e_zreturn (dec_at dX2_hasPlate 9) rfl (by first | exact Or.inl rfl | exact Or.inr rfl | exact b01_or) ?_
      first | exact rt1 (by omega) | exact rt0 (by omega)
    · refine e_iconst (dec_at dX2_hasPlate 6) ?_
      refine e_goto 17 (dec_at dX2_hasPlate 7) (by decide) ?_
      refine e_zreturn (dec_at dX2_hasPlate 9) rfl (by first | exact Or.inl rfl | exact Or.inr rfl | exact b01_or) ?_
      first | exact rt1 (by omega) | exact rt0 (by omega)

set_option maxRecDepth 100000 in
set_option maxHeartbeats 4000000 in
theorem c_steps {μ : Mm} (l : Int) (h : 0 ≤ μ 11 l 1 ∧ μ 11 l 1 ≤ capP l) : Mc mX2_steps 0 [vR 11 l] μ (Rt (some (vI (μ 13 l (μ 11 l 1)))) μ) := by
  refine Mc.of (L := [some (vR 11 l)]) (by decide +kernel) (by simp [leL, entA, isLong, mX2_steps]) (by simp [entA, isLong, mX2_steps]) ?_
  have hCc := capC_in l
  have hCp := capP_in l
  have hCe := capE_in l
  refine e_aload_n 0 (dec_at dX2_steps 0) rfl rfl ?_
  refine e_getr 4 (dec_at dX2_steps 1) flX2_15 rfl rfl ?_
  refine e_aload_n 0 (dec_at dX2_steps 2) rfl rfl ?_
  refine e_geti 1 1 (dec_at dX2_steps 3) flX2_43 rfl rfl rfl (fun r5 => ?_)
  refine e_iald (dec_at dX2_steps 4) rfl (by decide) (aLk_13 _) (by omega) (fun r8 => ?_)
  refine e_ireturn (dec_at dX2_steps 5) rfl ?_
  exact ⟨rfl, rfl⟩

set_option maxRecDepth 100000 in
set_option maxHeartbeats 4000000 in
theorem c_sizeOf {μ : Mm} (l : Int) (f : Int) (h : 0 ≤ f ∧ f < capP l) : Mc mX2_sizeOf 0 [vR 11 l, vI f] μ (Rt (some (vI (μ 13 l (f + 1) - μ 13 l f))) μ) := by
  refine Mc.of (L := [some (vR 11 l), some (vI f)]) (by decide +kernel) (by simp [leL, entA, isLong, mX2_sizeOf]) (by simp [entA, isLong, mX2_sizeOf]) ?_
  have hCc := capC_in l
  have hCp := capP_in l
  have hCe := capE_in l
  refine e_aload_n 0 (dec_at dX2_sizeOf 0) rfl rfl ?_
  refine e_getr 4 (dec_at dX2_sizeOf 1) flX2_15 rfl rfl ?_
  refine e_iload_n 1 (dec_at dX2_sizeOf 2) rfl rfl ?_
  refine e_iconst (dec_at dX2_sizeOf 3) ?_
  refine e_iadd (dec_at dX2_sizeOf 4) ?_
  refine e_iald (dec_at dX2_sizeOf 5) rfl (by decide) (aLk_13 _) (by omega) (fun r7 => ?_)
  refine e_aload_n 0 (dec_at dX2_sizeOf 6) rfl rfl ?_
  refine e_getr 4 (dec_at dX2_sizeOf 7) flX2_15 rfl rfl ?_
  refine e_iload_n 1 (dec_at dX2_sizeOf 8) rfl rfl ?_
  refine e_iald (dec_at dX2_sizeOf 9) rfl (by decide) (aLk_13 _) (by omega) (fun r13 => ?_)
  refine e_isub (dec_at dX2_sizeOf 10) ?_
  refine e_ireturn (dec_at dX2_sizeOf 11) rfl ?_
  exact ⟨rfl, rfl⟩

set_option maxRecDepth 100000 in
set_option maxHeartbeats 4000000 in
theorem c_stepAfter {μ : Mm} (l : Int) (s : Int) (h : NB1 μ l) (h0 : 0 ≤ s) (h1 : s < μ 13 l (μ 11 l 1)) : Mc mX2_stepAfter 0 [vR 11 l, vI s] μ (Rt (some (vI (nxF (μ 13 l) (μ 15 l) s))) μ) := by
  refine Mc.of (L := [some (vR 11 l), some (vI s), none]) (by decide +kernel) (by simp [leL, entA, isLong, mX2_stepAfter]) (by simp [entA, isLong, mX2_stepAfter]) ?_
  have hCc := capC_in l
  have hCp := capP_in l
  have hCe := capE_in l
  have hs := h.2.2.2.2 s h0 h1
  have hn := h.2.2.1
  have hP := h.2.1
  have hC := h.1
  have hf := h.2.2.2.1 (μ 15 l s) (by omega) (by omega)
  refine e_aload_n 0 (dec_at dX2_stepAfter 0) rfl rfl ?_
  refine e_getr 6 (dec_at dX2_stepAfter 1) flX2_21 rfl rfl ?_
  refine e_iload_n 1 (dec_at dX2_stepAfter 2) rfl rfl ?_
  refine e_iald (dec_at dX2_stepAfter 3) rfl (by decide) (aLk_15 _) (by omega) (fun r5 => ?_)
  refine e_is2 (dec_at dX2_stepAfter 4) (by decide) rfl ?_
  refine e_iload_n 1 (dec_at dX2_stepAfter 5) rfl rfl ?_
  refine e_iconst (dec_at dX2_stepAfter 6) ?_
  refine e_iadd (dec_at dX2_stepAfter 7) ?_
  refine e_aload_n 0 (dec_at dX2_stepAfter 8) rfl rfl ?_
  refine e_getr 4 (dec_at dX2_stepAfter 9) flX2_15 rfl rfl ?_
  refine e_iload_n 2 (dec_at dX2_stepAfter 10) rfl rfl ?_
  refine e_iconst (dec_at dX2_stepAfter 11) ?_
  refine e_iadd (dec_at dX2_stepAfter 12) ?_
  refine e_iald (dec_at dX2_stepAfter 13) rfl (by decide) (aLk_13 _) (by omega) (fun r17 => ?_)
  refine e_icmp_ge 27 (dec_at dX2_stepAfter 14) (by decide) (by omega) (by omega) (fun h18 => ?_) (fun h18 => ?_)
  · refine e_aload_n 0 (dec_at dX2_stepAfter 19) rfl rfl ?_
    refine e_getr 4 (dec_at dX2_stepAfter 20) flX2_15 rfl rfl ?_
    refine e_iload_n 2 (dec_at dX2_stepAfter 21) rfl rfl ?_
    refine e_iald (dec_at dX2_stepAfter 22) rfl (by decide) (aLk_13 _) (by omega) (fun r32 => ?_)
    refine e_ireturn (dec_at dX2_stepAfter 23) rfl ?_
    refine ⟨?_, rfl⟩
    unfold nxF
    first | rw [if_pos (by omega)] | rw [if_neg (by omega)]
  · refine e_iload_n 1 (dec_at dX2_stepAfter 15) rfl rfl ?_
    refine e_iconst (dec_at dX2_stepAfter 16) ?_
    refine e_iadd (dec_at dX2_stepAfter 17) ?_
    refine e_goto 33 (dec_at dX2_stepAfter 18) (by decide) ?_
    refine e_ireturn (dec_at dX2_stepAfter 23) rfl ?_
    refine ⟨?_, rfl⟩
    unfold nxF
    first | rw [if_pos (by omega)] | rw [if_neg (by omega)]

set_option maxRecDepth 100000 in
set_option maxHeartbeats 4000000 in
theorem c_stepBefore {μ : Mm} (l : Int) (s : Int) (h : NB1 μ l) (h0 : 0 ≤ s) (h1 : s < μ 13 l (μ 11 l 1)) : Mc mX2_stepBefore 0 [vR 11 l, vI s] μ (Rt (some (vI (pvF (μ 13 l) (μ 15 l) s))) μ) := by
  refine Mc.of (L := [some (vR 11 l), some (vI s), none]) (by decide +kernel) (by simp [leL, entA, isLong, mX2_stepBefore]) (by simp [entA, isLong, mX2_stepBefore]) ?_
  have hCc := capC_in l
  have hCp := capP_in l
  have hCe := capE_in l
  have hs := h.2.2.2.2 s h0 h1
  have hn := h.2.2.1
  have hP := h.2.1
  have hC := h.1
  have hf := h.2.2.2.1 (μ 15 l s) (by omega) (by omega)
  refine e_aload_n 0 (dec_at dX2_stepBefore 0) rfl rfl ?_
  refine e_getr 6 (dec_at dX2_stepBefore 1) flX2_21 rfl rfl ?_
  refine e_iload_n 1 (dec_at dX2_stepBefore 2) rfl rfl ?_
  refine e_iald (dec_at dX2_stepBefore 3) rfl (by decide) (aLk_15 _) (by omega) (fun r5 => ?_)
  refine e_is2 (dec_at dX2_stepBefore 4) (by decide) rfl ?_
  refine e_iload_n 1 (dec_at dX2_stepBefore 5) rfl rfl ?_
  refine e_aload_n 0 (dec_at dX2_stepBefore 6) rfl rfl ?_
  refine e_getr 4 (dec_at dX2_stepBefore 7) flX2_15 rfl rfl ?_
  refine e_iload_n 2 (dec_at dX2_stepBefore 8) rfl rfl ?_
  refine e_iald (dec_at dX2_stepBefore 9) rfl (by decide) (aLk_13 _) (by omega) (fun r13 => ?_)
  refine e_icmp_le 23 (dec_at dX2_stepBefore 10) (by decide) (by omega) (by omega) (fun h14 => ?_) (fun h14 => ?_)
  · refine e_aload_n 0 (dec_at dX2_stepBefore 15) rfl rfl ?_
    refine e_getr 4 (dec_at dX2_stepBefore 16) flX2_15 rfl rfl ?_
    refine e_iload_n 2 (dec_at dX2_stepBefore 17) rfl rfl ?_
    refine e_iconst (dec_at dX2_stepBefore 18) ?_
    refine e_iadd (dec_at dX2_stepBefore 19) ?_
    refine e_iald (dec_at dX2_stepBefore 20) rfl (by decide) (aLk_13 _) (by omega) (fun r30 => ?_)
    refine e_iconst (dec_at dX2_stepBefore 21) ?_
    refine e_isub (dec_at dX2_stepBefore 22) ?_
    refine e_ireturn (dec_at dX2_stepBefore 23) rfl ?_
    refine ⟨?_, rfl⟩
    unfold pvF
    first | rw [if_pos (by omega)] | rw [if_neg (by omega)]
  · refine e_iload_n 1 (dec_at dX2_stepBefore 11) rfl rfl ?_
    refine e_iconst (dec_at dX2_stepBefore 12) ?_
    refine e_isub (dec_at dX2_stepBefore 13) ?_
    refine e_goto 33 (dec_at dX2_stepBefore 14) (by decide) ?_
    refine e_ireturn (dec_at dX2_stepBefore 23) rfl ?_
    refine ⟨?_, rfl⟩
    unfold pvF
    first | rw [if_pos (by omega)] | rw [if_neg (by omega)]

set_option maxRecDepth 100000 in
set_option maxHeartbeats 4000000 in
theorem c_stepTarget {μ : Mm} (l : Int) (s : Int) (h : NB1 μ l) (h0 : 0 ≤ s) (h1 : s < μ 13 l (μ 11 l 1)) : Mc mX2_stepTarget 1 [vR 11 l, vI s] μ (Rt (some (vI (μ 14 l (nxF (μ 13 l) (μ 15 l) s)))) μ) := by
  refine Mc.of (L := [some (vR 11 l), some (vI s)]) (by decide +kernel) (by simp [leL, entA, isLong, mX2_stepTarget]) (by simp [entA, isLong, mX2_stepTarget]) ?_
  have hCc := capC_in l
  have hCp := capP_in l
  have hCe := capE_in l
  have hs := h.2.2.2.2 s h0 h1
  have hn := h.2.2.1
  have hP := h.2.1
  have hC := h.1
  have hf := h.2.2.2.1 (μ 15 l s) (by omega) (by omega)
  have hx := h.nx h0 h1
  refine e_aload_n 0 (dec_at dX2_stepTarget 0) rfl rfl ?_
  refine e_getr 5 (dec_at dX2_stepTarget 1) flX2_18 rfl rfl ?_
  refine e_aload_n 0 (dec_at dX2_stepTarget 2) rfl rfl ?_
  refine e_iload_n 1 (dec_at dX2_stepTarget 3) rfl rfl ?_
  refine e_callVr (M' := mX2_stepAfter) (dec_at dX2_stepTarget 4) mlX2_46 (c_stepAfter l s h h0 h1) oX2_stepAfter iX2_stepAfter rfl rfl rfl rfl (by decide) (by decide) (Nat.le_of_ble_eq_true rfl) ?_
  refine e_iald (dec_at dX2_stepTarget 5) rfl (by decide) (aLk_14 _) (by omega) (fun r9 => ?_)
  refine e_ireturn (dec_at dX2_stepTarget 6) rfl ?_
  exact ⟨rfl, rfl⟩

set_option maxRecDepth 100000 in
set_option maxHeartbeats 4000000 in
theorem c_whence {μ : Mm} (l : Int) (e : Int) (h : NB1 μ l) (h2 : NB2 μ l) (h0 : 0 ≤ e) (h1 : e < μ 11 l 2) : Mc mX2_whence 0 [vR 11 l, vI e] μ (Rt (some (vI (μ 14 l (μ 18 l e)))) μ) := by
  refine Mc.of (L := [some (vR 11 l), some (vI e)]) (by decide +kernel) (by simp [leL, entA, isLong, mX2_whence]) (by simp [entA, isLong, mX2_whence]) ?_
  have hCc := capC_in l
  have hCp := capP_in l
  have hCe := capE_in l
  have he := h2.2 e h0 h1
  have hE := h2.1
  have hn := h.2.2.1
  refine e_aload_n 0 (dec_at dX2_whence 0) rfl rfl ?_
  refine e_getr 5 (dec_at dX2_whence 1) flX2_18 rfl rfl ?_
  refine e_aload_n 0 (dec_at dX2_whence 2) rfl rfl ?_
  refine e_getr 9 (dec_at dX2_whence 3) flX2_30 rfl rfl ?_
  refine e_iload_n 1 (dec_at dX2_whence 4) rfl rfl ?_
  refine e_iald (dec_at dX2_whence 5) rfl (by decide) (aLk_18 _) (by omega) (fun r9 => ?_)
  refine e_iald (dec_at dX2_whence 6) rfl (by decide) (aLk_14 _) (by omega) (fun r10 => ?_)
  refine e_ireturn (dec_at dX2_whence 7) rfl ?_
  exact ⟨rfl, rfl⟩

set_option maxRecDepth 100000 in
set_option maxHeartbeats 4000000 in
theorem c_whither {μ : Mm} (l : Int) (e : Int) (h : NB1 μ l) (h2 : NB2 μ l) (h0 : 0 ≤ e) (h1 : e < μ 11 l 2) : Mc mX2_whither 2 [vR 11 l, vI e] μ (Rt (some (vI (μ 14 l (nxF (μ 13 l) (μ 15 l) (μ 18 l e))))) μ) := by
  refine Mc.of (L := [some (vR 11 l), some (vI e)]) (by decide +kernel) (by simp [leL, entA, isLong, mX2_whither]) (by simp [entA, isLong, mX2_whither]) ?_
  have hCc := capC_in l
  have hCp := capP_in l
  have hCe := capE_in l
  have he := h2.2 e h0 h1
  have hE := h2.1
  have hn := h.2.2.1
  refine e_aload_n 0 (dec_at dX2_whither 0) rfl rfl ?_
  refine e_aload_n 0 (dec_at dX2_whither 1) rfl rfl ?_
  refine e_getr 9 (dec_at dX2_whither 2) flX2_30 rfl rfl ?_
  refine e_iload_n 1 (dec_at dX2_whither 3) rfl rfl ?_
  refine e_iald (dec_at dX2_whither 4) rfl (by decide) (aLk_18 _) (by omega) (fun r6 => ?_)
  refine e_callVr (M' := mX2_stepTarget) (dec_at dX2_whither 5) mlX2_50 (c_stepTarget l (μ 18 l e) h he.1 he.2) oX2_stepTarget iX2_stepTarget rfl rfl rfl rfl (by decide) (by decide) (Nat.le_of_ble_eq_true rfl) ?_
  refine e_ireturn (dec_at dX2_whither 6) rfl ?_
  exact ⟨rfl, rfl⟩

set_option maxRecDepth 100000 in
set_option maxHeartbeats 4000000 in
theorem l_sumOfPlate {μ : Mm} {l f axis : Int} (h : NB1 μ l) (hf0 : 0 ≤ f) (hf1 : f < μ 11 l 1) (ha : 0 ≤ axis ∧ axis < 3) : ∀ (q : Nat) (s : Int) (a : Int), (μ 13 l (f + 1) - s).toNat = q → 0 ≤ s → s ≤ μ 13 l (f + 1) → Ev mX2_sumOfPlate 0 10 [some (vR 11 l), some (vI f), some (vI axis), some (vI a), some (vI s)] [] μ (Rt (some (vI (flo (fun s a => a + μ 12 l (3 * μ 14 l s + axis)) s (μ 13 l (f + 1)) a))) μ) := by
  intro q
  induction q using Nat.strongRecOn with
  | _ q ih =>
  intro s a hq h0 h1
  have hCc := capC_in l
  have hCp := capP_in l
  have hCe := capE_in l
  have hf := h.2.2.2.1 f hf0 hf1
  have hn := h.2.2.1
  have hP := h.2.1
  have hC := h.1
  refine e_iload (dec_at dX2_sumOfPlate 7) rfl ?_
  refine e_aload_n 0 (dec_at dX2_sumOfPlate 8) rfl rfl ?_
  refine e_getr 4 (dec_at dX2_sumOfPlate 9) flX2_15 rfl rfl ?_
  refine e_iload_n 1 (dec_at dX2_sumOfPlate 10) rfl rfl ?_
  refine e_iconst (dec_at dX2_sumOfPlate 11) ?_
  refine e_iadd (dec_at dX2_sumOfPlate 12) ?_
  refine e_iald (dec_at dX2_sumOfPlate 13) rfl (by decide) (aLk_13 _) (by omega) (fun r19 => ?_)
  refine e_icmp_ge 48 (dec_at dX2_sumOfPlate 14) (by decide) (by omega) (by omega) (fun h20 => ?_) (fun h20 => ?_)
  · refine e_iload_n 3 (dec_at dX2_sumOfPlate 31) rfl rfl ?_
    refine e_ireturn (dec_at dX2_sumOfPlate 32) rfl ?_
    exact ⟨by rw [flo_stop (by omega)], rfl⟩
  · have hs := h.2.2.2.2 s h0 (by omega)
    refine e_iload_n 3 (dec_at dX2_sumOfPlate 15) rfl rfl ?_
    refine e_aload_n 0 (dec_at dX2_sumOfPlate 16) rfl rfl ?_
    refine e_getr 3 (dec_at dX2_sumOfPlate 17) flX2_9 rfl rfl ?_
    refine e_iconst (dec_at dX2_sumOfPlate 18) ?_
    refine e_aload_n 0 (dec_at dX2_sumOfPlate 19) rfl rfl ?_
    refine e_getr 5 (dec_at dX2_sumOfPlate 20) flX2_18 rfl rfl ?_
    refine e_iload (dec_at dX2_sumOfPlate 21) rfl ?_
    refine e_iald (dec_at dX2_sumOfPlate 22) rfl (by decide) (aLk_14 _) (by omega) (fun r35 => ?_)
    refine e_imul (dec_at dX2_sumOfPlate 23) ?_
    refine e_iload_n 2 (dec_at dX2_sumOfPlate 24) rfl rfl ?_
    refine e_iadd (dec_at dX2_sumOfPlate 25) ?_
    refine e_iald (dec_at dX2_sumOfPlate 26) rfl (by decide) (aLk_12 _) (by omega) (fun r39 => ?_)
    refine e_iadd (dec_at dX2_sumOfPlate 27) ?_
    refine e_is3 (dec_at dX2_sumOfPlate 28) (by decide) rfl ?_
    refine e_ii4 (dec_at dX2_sumOfPlate 29) (by decide) rfl ?_
    refine e_goto 10 (dec_at dX2_sumOfPlate 30) (by decide) ?_
    rw [flo_step (by omega)]
    exact ih _ (by omega) (s + 1) _ rfl (by omega) (by omega)

set_option maxRecDepth 100000 in
set_option maxHeartbeats 4000000 in
theorem c_sumOfPlate {μ : Mm} (l : Int) (f axis : Int) (h : NB1 μ l) (hf0 : 0 ≤ f) (hf1 : f < μ 11 l 1) (ha : 0 ≤ axis ∧ axis < 3) : Mc mX2_sumOfPlate 0 [vR 11 l, vI f, vI axis] μ (Rt (some (vI (flo (fun s a => a + μ 12 l (3 * μ 14 l s + axis)) (μ 13 l f) (μ 13 l (f + 1)) 0))) μ) := by
  refine Mc.of (L := [some (vR 11 l), some (vI f), some (vI axis), none, none]) (by decide +kernel) (by simp [leL, entA, isLong, mX2_sumOfPlate]) (by simp [entA, isLong, mX2_sumOfPlate]) ?_
  have hCc := capC_in l
  have hCp := capP_in l
  have hCe := capE_in l
  have hf := h.2.2.2.1 f hf0 hf1
  have hn := h.2.2.1
  have hP := h.2.1
  refine e_iconst (dec_at dX2_sumOfPlate 0) ?_
  refine e_is3 (dec_at dX2_sumOfPlate 1) (by decide) rfl ?_
  refine e_aload_n 0 (dec_at dX2_sumOfPlate 2) rfl rfl ?_
  refine e_getr 4 (dec_at dX2_sumOfPlate 3) flX2_15 rfl rfl ?_
  refine e_iload_n 1 (dec_at dX2_sumOfPlate 4) rfl rfl ?_
  refine e_iald (dec_at dX2_sumOfPlate 5) rfl (by decide) (aLk_13 _) (by omega) (fun r7 => ?_)
  refine e_is4 (dec_at dX2_sumOfPlate 6) (by decide) rfl ?_
  exact l_sumOfPlate h hf0 hf1 ha _ _ _ rfl (by omega) (by omega)

set_option maxRecDepth 100000 in
set_option maxHeartbeats 4000000 in
theorem l_least {μ : Mm} {l axis : Int} (h : 0 ≤ μ 11 l 0 ∧ μ 11 l 0 ≤ capC l) (ha : 0 ≤ axis ∧ axis < 3) : ∀ (q : Nat) (c : Int) (a : Int), (μ 11 l 0 - c).toNat = q → 0 ≤ c → c ≤ capC l → inR a → Ev mX2_least 1 9 [some (vR 11 l), some (vI axis), some (vI a), some (vI c)] [] μ (Rt (some (vI (flo (fun c a => min a (μ 12 l (3 * c + axis))) c (μ 11 l 0) a))) μ) := by
  intro q
  induction q using Nat.strongRecOn with
  | _ q ih =>
  intro c a hq h0 h1 hr
  have hCc := capC_in l
  have hCp := capP_in l
  have hCe := capE_in l
  refine e_iload_n 3 (dec_at dX2_least 7) rfl rfl ?_
  refine e_aload_n 0 (dec_at dX2_least 8) rfl rfl ?_
  refine e_geti 0 0 (dec_at dX2_least 9) flX2_39 rfl rfl rfl (fun r11 => ?_)
  refine e_icmp_ge 38 (dec_at dX2_least 10) (by decide) (by omega) (by omega) (fun h14 => ?_) (fun h14 => ?_)
  · refine e_iload_n 2 (dec_at dX2_least 24) rfl rfl ?_
    refine e_ireturn (dec_at dX2_least 25) rfl ?_
    exact ⟨by rw [flo_stop (by omega)], rfl⟩
  · refine e_iload_n 2 (dec_at dX2_least 11) rfl rfl ?_
    refine e_aload_n 0 (dec_at dX2_least 12) rfl rfl ?_
    refine e_getr 3 (dec_at dX2_least 13) flX2_9 rfl rfl ?_
    refine e_iconst (dec_at dX2_least 14) ?_
    refine e_iload_n 3 (dec_at dX2_least 15) rfl rfl ?_
    refine e_imul (dec_at dX2_least 16) ?_
    refine e_iload_n 1 (dec_at dX2_least 17) rfl rfl ?_
    refine e_iadd (dec_at dX2_least 18) ?_
    refine e_iald (dec_at dX2_least 19) rfl (by decide) (aLk_12 _) (by omega) (fun r27 => ?_)
    refine e_min (dec_at dX2_least 20) mjX2_90 mj_min (by decide) (Nat.le_of_ble_eq_true rfl) (by omega) (by omega) ?_
    refine e_is2 (dec_at dX2_least 21) (by decide) rfl ?_
    refine e_ii3 (dec_at dX2_least 22) (by decide) rfl ?_
    refine e_goto 9 (dec_at dX2_least 23) (by decide) ?_
    rw [flo_step (by omega)]
    exact ih _ (by omega) (c + 1) _ rfl (by omega) (by omega) (by omega)

set_option maxRecDepth 100000 in
set_option maxHeartbeats 4000000 in
theorem c_least {μ : Mm} (l : Int) (axis : Int) (h : 1 ≤ μ 11 l 0 ∧ μ 11 l 0 ≤ capC l) (ha : 0 ≤ axis ∧ axis < 3) : Mc mX2_least 1 [vR 11 l, vI axis] μ (Rt (some (vI (flo (fun c a => min a (μ 12 l (3 * c + axis))) 1 (μ 11 l 0) (μ 12 l axis)))) μ) := by
  refine Mc.of (L := [some (vR 11 l), some (vI axis), none, none]) (by decide +kernel) (by simp [leL, entA, isLong, mX2_least]) (by simp [entA, isLong, mX2_least]) ?_
  have hCc := capC_in l
  have hCp := capP_in l
  have hCe := capE_in l
  refine e_aload_n 0 (dec_at dX2_least 0) rfl rfl ?_
  refine e_getr 3 (dec_at dX2_least 1) flX2_9 rfl rfl ?_
  refine e_iload_n 1 (dec_at dX2_least 2) rfl rfl ?_
  refine e_iald (dec_at dX2_least 3) rfl (by decide) (aLk_12 _) (by omega) (fun r5 => ?_)
  refine e_is2 (dec_at dX2_least 4) (by decide) rfl ?_
  refine e_iconst (dec_at dX2_least 5) ?_
  refine e_is3 (dec_at dX2_least 6) (by decide) rfl ?_
  exact l_least (by omega) ha _ _ _ rfl (by omega) (by omega) r5

set_option maxRecDepth 100000 in
set_option maxHeartbeats 4000000 in
theorem l_greatest {μ : Mm} {l axis : Int} (h : 0 ≤ μ 11 l 0 ∧ μ 11 l 0 ≤ capC l) (ha : 0 ≤ axis ∧ axis < 3) : ∀ (q : Nat) (c : Int) (a : Int), (μ 11 l 0 - c).toNat = q → 0 ≤ c → c ≤ capC l → inR a → Ev mX2_greatest 1 9 [some (vR 11 l), some (vI axis), some (vI a), some (vI c)] [] μ (Rt (some (vI (flo (fun c a => max a (μ 12 l (3 * c + axis))) c (μ 11 l 0) a))) μ) := by
  intro q
  induction q using Nat.strongRecOn with
  | _ q ih =>
  intro c a hq h0 h1 hr
  have hCc := capC_in l
  have hCp := capP_in l
  have hCe := capE_in l
  refine e_iload_n 3 (dec_at dX2_greatest 7) rfl rfl ?_
  refine e_aload_n 0 (dec_at dX2_greatest 8) rfl rfl ?_
  refine e_geti 0 0 (dec_at dX2_greatest 9) flX2_39 rfl rfl rfl (fun r11 => ?_)
  refine e_icmp_ge 38 (dec_at dX2_greatest 10) (by decide) (by omega) (by omega) (fun h14 => ?_) (fun h14 => ?_)
  · refine e_iload_n 2 (dec_at dX2_greatest 24) rfl rfl ?_
    refine e_ireturn (dec_at dX2_greatest 25) rfl ?_
    exact ⟨by rw [flo_stop (by omega)], rfl⟩
  · refine e_iload_n 2 (dec_at dX2_greatest 11) rfl rfl ?_
    refine e_aload_n 0 (dec_at dX2_greatest 12) rfl rfl ?_
    refine e_getr 3 (dec_at dX2_greatest 13) flX2_9 rfl rfl ?_
    refine e_iconst (dec_at dX2_greatest 14) ?_
    refine e_iload_n 3 (dec_at dX2_greatest 15) rfl rfl ?_
    refine e_imul (dec_at dX2_greatest 16) ?_
    refine e_iload_n 1 (dec_at dX2_greatest 17) rfl rfl ?_
    refine e_iadd (dec_at dX2_greatest 18) ?_
    refine e_iald (dec_at dX2_greatest 19) rfl (by decide) (aLk_12 _) (by omega) (fun r27 => ?_)
    refine e_max (dec_at dX2_greatest 20) mjX2_96 mj_max (by decide) (Nat.le_of_ble_eq_true rfl) (by omega) (by omega) ?_
    refine e_is2 (dec_at dX2_greatest 21) (by decide) rfl ?_
    refine e_ii3 (dec_at dX2_greatest 22) (by decide) rfl ?_
    refine e_goto 9 (dec_at dX2_greatest 23) (by decide) ?_
    rw [flo_step (by omega)]
    exact ih _ (by omega) (c + 1) _ rfl (by omega) (by omega) (by omega)

set_option maxRecDepth 100000 in
set_option maxHeartbeats 4000000 in
theorem c_greatest {μ : Mm} (l : Int) (axis : Int) (h : 1 ≤ μ 11 l 0 ∧ μ 11 l 0 ≤ capC l) (ha : 0 ≤ axis ∧ axis < 3) : Mc mX2_greatest 1 [vR 11 l, vI axis] μ (Rt (some (vI (flo (fun c a => max a (μ 12 l (3 * c + axis))) 1 (μ 11 l 0) (μ 12 l axis)))) μ) := by
  refine Mc.of (L := [some (vR 11 l), some (vI axis), none, none]) (by decide +kernel) (by simp [leL, entA, isLong, mX2_greatest]) (by simp [entA, isLong, mX2_greatest]) ?_
  have hCc := capC_in l
  have hCp := capP_in l
  have hCe := capE_in l
  refine e_aload_n 0 (dec_at dX2_greatest 0) rfl rfl ?_
  refine e_getr 3 (dec_at dX2_greatest 1) flX2_9 rfl rfl ?_
  refine e_iload_n 1 (dec_at dX2_greatest 2) rfl rfl ?_
  refine e_iald (dec_at dX2_greatest 3) rfl (by decide) (aLk_12 _) (by omega) (fun r5 => ?_)
  refine e_is2 (dec_at dX2_greatest 4) (by decide) rfl ?_
  refine e_iconst (dec_at dX2_greatest 5) ?_
  refine e_is3 (dec_at dX2_greatest 6) (by decide) rfl ?_
  exact l_greatest (by omega) ha _ _ _ rfl (by omega) (by omega) r5

set_option maxRecDepth 100000 in
set_option maxHeartbeats 4000000 in
theorem l_oddCorners {μ : Mm} {l : Int} (h : 0 ≤ μ 11 l 0 ∧ μ 11 l 0 ≤ capC l) : ∀ (q : Nat) (c : Int) (a : Int), (μ 11 l 0 - c).toNat = q → 0 ≤ c → c ≤ μ 11 l 0 → Ev mX2_oddCorners 0 4 [some (vR 11 l), some (vI a), some (vI c)] [] μ (Rt (some (vI (flo (fun c a => if μ 19 l c = 4 then a else a + 1) c (μ 11 l 0) a))) μ) := by
  intro q
  induction q using Nat.strongRecOn with
  | _ q ih =>
  intro c a hq h0 h1
  have hCc := capC_in l
  have hCp := capP_in l
  have hCe := capE_in l
  refine e_iload_n 2 (dec_at dX2_oddCorners 4) rfl rfl ?_
  refine e_aload_n 0 (dec_at dX2_oddCorners 5) rfl rfl ?_
  refine e_geti 0 0 (dec_at dX2_oddCorners 6) flX2_39 rfl rfl rfl (fun r6 => ?_)
  refine e_icmp_ge 31 (dec_at dX2_oddCorners 7) (by decide) (by omega) (by omega) (fun h9 => ?_) (fun h9 => ?_)
  · refine e_iload_n 1 (dec_at dX2_oddCorners 17) rfl rfl ?_
    refine e_ireturn (dec_at dX2_oddCorners 18) rfl ?_
    exact ⟨by rw [flo_stop (by omega)], rfl⟩
  · refine e_aload_n 0 (dec_at dX2_oddCorners 8) rfl rfl ?_
    refine e_getr 10 (dec_at dX2_oddCorners 9) flX2_33 rfl rfl ?_
    refine e_iload_n 2 (dec_at dX2_oddCorners 10) rfl rfl ?_
    refine e_iald (dec_at dX2_oddCorners 11) rfl (by decide) (aLk_19 _) (by omega) (fun r17 => ?_)
    refine e_iconst (dec_at dX2_oddCorners 12) ?_
    refine e_icmp_eq 25 (dec_at dX2_oddCorners 13) (by decide) (by omega) (by omega) (fun h19 => ?_) (fun h19 => ?_)
    · rw [flo_step (by omega), if_pos h19]
      refine e_ii2 (dec_at dX2_oddCorners 15) (by decide) rfl ?_
      refine e_goto 4 (dec_at dX2_oddCorners 16) (by decide) ?_
      exact ih _ (by omega) (c + 1) _ rfl (by omega) (by omega)
    · rw [flo_step (by omega), if_neg h19]
      refine e_ii1 (dec_at dX2_oddCorners 14) (by decide) rfl ?_
      refine e_ii2 (dec_at dX2_oddCorners 15) (by decide) rfl ?_
      refine e_goto 4 (dec_at dX2_oddCorners 16) (by decide) ?_
      exact ih _ (by omega) (c + 1) _ rfl (by omega) (by omega)

set_option maxRecDepth 100000 in
set_option maxHeartbeats 4000000 in
theorem c_oddCorners {μ : Mm} (l : Int) (h : 0 ≤ μ 11 l 0 ∧ μ 11 l 0 ≤ capC l) : Mc mX2_oddCorners 0 [vR 11 l] μ (Rt (some (vI (flo (fun c a => if μ 19 l c = 4 then a else a + 1) 0 (μ 11 l 0) 0))) μ) := by
  refine Mc.of (L := [some (vR 11 l), none, none]) (by decide +kernel) (by simp [leL, entA, isLong, mX2_oddCorners]) (by simp [entA, isLong, mX2_oddCorners]) ?_
  have hCc := capC_in l
  have hCp := capP_in l
  have hCe := capE_in l
  refine e_iconst (dec_at dX2_oddCorners 0) ?_
  refine e_is1 (dec_at dX2_oddCorners 1) (by decide) rfl ?_
  refine e_iconst (dec_at dX2_oddCorners 2) ?_
  refine e_is2 (dec_at dX2_oddCorners 3) (by decide) rfl ?_
  exact l_oddCorners h _ _ _ rfl (by omega) (by omega)

set_option maxRecDepth 100000 in
set_option maxHeartbeats 4000000 in
theorem l_oddPlates {μ : Mm} {l : Int} (h : NB1 μ l) : ∀ (q : Nat) (f : Int) (a : Int), (μ 11 l 1 - f).toNat = q → 0 ≤ f → f ≤ μ 11 l 1 → Ev mX2_oddPlates 1 4 [some (vR 11 l), some (vI a), some (vI f)] [] μ (Rt (some (vI (flo (fun f a => if μ 13 l (f + 1) - μ 13 l f = 4 then a else a + 1) f (μ 11 l 1) a))) μ) := by
  intro q
  induction q using Nat.strongRecOn with
  | _ q ih =>
  intro f a hq h0 h1
  have hCc := capC_in l
  have hCp := capP_in l
  have hCe := capE_in l
  have hn := h.2.2.1
  have hP := h.2.1
  refine e_iload_n 2 (dec_at dX2_oddPlates 4) rfl rfl ?_
  refine e_aload_n 0 (dec_at dX2_oddPlates 5) rfl rfl ?_
  refine e_geti 1 1 (dec_at dX2_oddPlates 6) flX2_43 rfl rfl rfl (fun r6 => ?_)
  refine e_icmp_ge 30 (dec_at dX2_oddPlates 7) (by decide) (by omega) (by omega) (fun h9 => ?_) (fun h9 => ?_)
  · refine e_iload_n 1 (dec_at dX2_oddPlates 16) rfl rfl ?_
    refine e_ireturn (dec_at dX2_oddPlates 17) rfl ?_
    exact ⟨by rw [flo_stop (by omega)], rfl⟩
  · have hf := h.2.2.2.1 f h0 (by omega)
    refine e_aload_n 0 (dec_at dX2_oddPlates 8) rfl rfl ?_
    refine e_iload_n 2 (dec_at dX2_oddPlates 9) rfl rfl ?_
    refine e_callVr (M' := mX2_sizeOf) (dec_at dX2_oddPlates 10) mlX2_87 (c_sizeOf l f (by omega)) oX2_sizeOf iX2_sizeOf rfl rfl rfl rfl (by decide) (by decide) (Nat.le_of_ble_eq_true rfl) ?_
    refine e_iconst (dec_at dX2_oddPlates 11) ?_
    refine e_icmp_eq 24 (dec_at dX2_oddPlates 12) (by decide) (by omega) (by omega) (fun h18 => ?_) (fun h18 => ?_)
    · rw [flo_step (by omega), if_pos h18]
      refine e_ii2 (dec_at dX2_oddPlates 14) (by decide) rfl ?_
      refine e_goto 4 (dec_at dX2_oddPlates 15) (by decide) ?_
      exact ih _ (by omega) (f + 1) _ rfl (by omega) (by omega)
    · rw [flo_step (by omega), if_neg h18]
      refine e_ii1 (dec_at dX2_oddPlates 13) (by decide) rfl ?_
      refine e_ii2 (dec_at dX2_oddPlates 14) (by decide) rfl ?_
      refine e_goto 4 (dec_at dX2_oddPlates 15) (by decide) ?_
      exact ih _ (by omega) (f + 1) _ rfl (by omega) (by omega)

set_option maxRecDepth 100000 in
set_option maxHeartbeats 4000000 in
theorem c_oddPlates {μ : Mm} (l : Int) (h : NB1 μ l) : Mc mX2_oddPlates 1 [vR 11 l] μ (Rt (some (vI (flo (fun f a => if μ 13 l (f + 1) - μ 13 l f = 4 then a else a + 1) 0 (μ 11 l 1) 0))) μ) := by
  refine Mc.of (L := [some (vR 11 l), none, none]) (by decide +kernel) (by simp [leL, entA, isLong, mX2_oddPlates]) (by simp [entA, isLong, mX2_oddPlates]) ?_
  have hCc := capC_in l
  have hCp := capP_in l
  have hCe := capE_in l
  have hP := h.2.1
  refine e_iconst (dec_at dX2_oddPlates 0) ?_
  refine e_is1 (dec_at dX2_oddPlates 1) (by decide) rfl ?_
  refine e_iconst (dec_at dX2_oddPlates 2) ?_
  refine e_is2 (dec_at dX2_oddPlates 3) (by decide) rfl ?_
  exact l_oddPlates h _ _ _ rfl (by omega) (by omega)
