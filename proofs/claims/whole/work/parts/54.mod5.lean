/-! THE REFERENCE looks for what is wrong -/
def LK (A : Net) (q : Prop) (ν : Mm) : Prop := (ν 21 0 5 = 0 ∧ ν 21 0 6 = -1 ∧ q) ∨ (ν 21 0 5 ≠ 0 ∧ IsF A (ν 21 0 5) (ν 21 0 6))
def FL6 (μ ν : Mm) : Prop := ∀ k l1 i, ¬ (k = 21 ∧ l1 = 0 ∧ (i = 5 ∨ i = 6 ∨ i = 16)) → ν k l1 i = μ k l1 i
theorem FL6.mp {μ ν : Mm} {l : Int} {B : Net} (f : FL6 μ ν) (h : MP μ l B) : MP ν l B := h.fr0 (fun k i a b => f k 0 i (by omega))
theorem LK.mono {A : Net} {q q' : Prop} {ν : Mm} (h : LK A q ν) (g : q → q') : LK A q' ν := h.imp (fun a => ⟨a.1, a.2.1, g a.2.2⟩) id
theorem LK.fail {A : Net} {q : Prop} {ν : Mm} {k p : Int} (q' : Prop) (h : LK A q ν) (hk : k ≠ 0) (g : q → IsF A k p) : LK A q' (if ν 21 0 5 = 0 then mset (mset ν 21 0 5 k) 21 0 6 p else ν) := by
  rcases h with ⟨a, b, c⟩ | ⟨a, b⟩
  · rw [if_pos a]
    have e1 : mset (mset ν 21 0 5 k) 21 0 6 p 21 0 5 = k := by rw [mset_i (by decide)]; exact mset_eq
    have e2 : mset (mset ν 21 0 5 k) 21 0 6 p 21 0 6 = p := mset_eq
    exact Or.inr ⟨by rw [e1]; exact hk, by rw [e1, e2]; exact g c⟩
  · rw [if_neg a]; exact Or.inr ⟨a, b⟩
theorem FL6.fail {μ ν : Mm} {k p : Int} (f : FL6 μ ν) : FL6 μ (if ν 21 0 5 = 0 then mset (mset ν 21 0 5 k) 21 0 6 p else ν) := by
  by_cases q : ν 21 0 5 = 0
  · rw [if_pos q]; exact fr_set (fr_set f (by omega)) (by omega)
  · rw [if_neg q]; exact f
theorem LK.m16 {A : Net} {q : Prop} {ν : Mm} {k : Int} (h : LK A q ν) : LK A q (mset ν 21 0 16 k) := by
  unfold LK
  rw [mset_i (by decide), mset_i (by decide)]; exact h
theorem LK.out {A : Net} {q q' : Prop} {ν : Mm} (h : LK A q ν) (g : ν 21 0 5 ≠ 0) : LK A q' ν := Or.inr (h.resolve_left (fun a => g a.1))
theorem LK.got {A : Net} {q : Prop} {ν : Mm} (h : LK A q ν) (g : ν 21 0 5 = 0) : q := (h.resolve_right (fun a => a.1 g)).2.2
theorem LK.cg {A : Net} {q : Prop} {μ ν : Mm} (h : LK A q μ) (e5 : ν 21 0 5 = μ 21 0 5) (e6 : ν 21 0 6 = μ 21 0 6) : LK A q ν := by
  unfold LK
  rw [e5, e6]; exact h
abbrev L1 (A : Net) : Prop := A 0 1 ≠ 0
abbrev L2 (A : Net) : Prop := L1 A ∧ No (fTw A) (A 0 1)
abbrev L3 (A : Net) : Prop := L2 A ∧ No (fDb A) (A 0 1)
abbrev L4 (A : Net) : Prop := L3 A ∧ No (fOp A) (A 0 1)
abbrev L5 (A : Net) : Prop := L4 A ∧ No (fLo A) (A 0 0)
abbrev L6 (A : Net) : Prop := L5 A ∧ No (fPi A) (A 0 0)
theorem isf2 {A : Net} {p : Int} (h : L1 A) (f : Fi (fTw A) (A 0 1) p) : IsF A 2 p := Or.inr ⟨h, Or.inl ⟨rfl, f⟩⟩
theorem isf3 {A : Net} {p : Int} (h : L2 A) (f : Fi (fDb A) (A 0 1) p) : IsF A 3 p := Or.inr ⟨h.1, Or.inr ⟨h.2, Or.inl ⟨rfl, f⟩⟩⟩
theorem isf4 {A : Net} {p : Int} (h : L3 A) (f : Fi (fOp A) (A 0 1) p) : IsF A 4 p := Or.inr ⟨h.1.1, Or.inr ⟨h.1.2, Or.inr ⟨h.2, Or.inl ⟨rfl, f⟩⟩⟩⟩
theorem isf5 {A : Net} {p : Int} (h : L4 A) (f : Fi (fLo A) (A 0 0) p) : IsF A 5 p := Or.inr ⟨h.1.1.1, Or.inr ⟨h.1.1.2, Or.inr ⟨h.1.2, Or.inr ⟨h.2, Or.inl ⟨rfl, f⟩⟩⟩⟩⟩
theorem isf6 {A : Net} {p : Int} (h : L5 A) (f : Fi (fPi A) (A 0 0) p) : IsF A 6 p := Or.inr ⟨h.1.1.1.1, Or.inr ⟨h.1.1.1.2, Or.inr ⟨h.1.1.2, Or.inr ⟨h.1.2, Or.inr ⟨h.2, Or.inl ⟨rfl, f⟩⟩⟩⟩⟩⟩
theorem isf7 {A : Net} {p : Int} (h : L6 A) (f : Fi (fTh A) (A 0 0) p) : IsF A 7 p := Or.inr ⟨h.1.1.1.1.1, Or.inr ⟨h.1.1.1.1.2, Or.inr ⟨h.1.1.1.2, Or.inr ⟨h.1.1.2, Or.inr ⟨h.1.2, Or.inr ⟨h.2, Or.inl ⟨rfl, f⟩⟩⟩⟩⟩⟩⟩
theorem isf0 {A : Net} (h : L6 A) (f : No (fTh A) (A 0 0)) : IsF A 0 (-1) := Or.inr ⟨h.1.1.1.1.1, Or.inr ⟨h.1.1.1.1.2, Or.inr ⟨h.1.1.1.2, Or.inr ⟨h.1.1.2, Or.inr ⟨h.1.2, Or.inr ⟨h.2, Or.inr ⟨f, rfl, rfl⟩⟩⟩⟩⟩⟩⟩
theorem Fi_mk {p : Int → Prop} {n r : Int} (h0 : 0 ≤ r) (h1 : r < n) (hp : p r) (hn : ∀ g, 0 ≤ g → g < r → ¬ p g) : Fi p n r := ⟨⟨h0, h1⟩, hp, hn⟩
theorem bef_s {p : Int → Prop} {r : Int} (h : ∀ g, 0 ≤ g → g < r → ¬ p g) (hr : ¬ p r) : ∀ g, 0 ≤ g → g < r + 1 → ¬ p g := fun g a b => by
  by_cases q : g = r
  · subst q; exact hr
  · exact h g a (by omega)

set_option maxRecDepth 100000 in
set_option maxHeartbeats 4000000 in
theorem k_tw3 {μ : Mm} {A : Net} {Q : Option Vv → Mm → Prop} (h : MP μ 0 A) {f k : Int} (f0 : 0 ≤ f) (f1 : f < A 0 1) (k0 : 0 ≤ k) (k1 : k < A 2 (f + 1) - A 2 f) : ∀ (q : Nat) (i : Int) (ν : Mm), (k - i).toNat = q → 0 ≤ i → i ≤ k → FL6 μ ν → LK A (L1 A ∧ (∀ g, 0 ≤ g → g < f → ¬ fTw A g) ∧ ∀ s t, A 2 f ≤ t → t < s → (s < A 2 f + k ∨ s = A 2 f + k ∧ t < A 2 f + i) → A 3 s ≠ A 3 t) ν → (∀ ν : Mm, FL6 μ ν → LK A (L1 A ∧ (∀ g, 0 ≤ g → g < f → ¬ fTw A g) ∧ ∀ s t, A 2 f ≤ t → t < s → s < A 2 f + (k + 1) → A 3 s ≠ A 3 t) ν → Ev mX6_look 4 85 [some (vR 21 0), some (vI f), some (vI k), none] [] ν Q) → Ev mX6_look 4 51 [some (vR 21 0), some (vI f), some (vI k), some (vI i)] [] ν (Q) := by
  intro q
  induction q using Nat.strongRecOn with
  | _ q ih =>
  intro i ν hq i0 i1 fr hl K
  have hat := h.at f0 f1
  have hM := fr.mp h
  refine e_iload_n 3 (dec_at dX6_look 33) rfl rfl ?_
  refine e_iload_n 2 (dec_at dX6_look 34) rfl rfl ?_
  refine e_icmp_ge 85 (dec_at dX6_look 35) (by decide) (by omega) (by omega) (fun h53 => ?_) (fun h53 => ?_)
  · obtain rfl : i = k := by omega
    exact e_le [some (vR 21 0), some (vI f), some (vI i), none] (by simp [leL]) (K ν fr (hl.mono (fun q => ⟨q.1, q.2.1, fun s t a b c => q.2.2 s t a b (by omega)⟩)))
  · have hr1 := h.rg (s := A 2 f + i) (by omega) (by omega)
    have hr2 := h.rg (s := A 2 f + k) (by omega) (by omega)
    refine e_aload_n 0 (dec_at dX6_look 36) rfl rfl ?_
    refine e_iconst (dec_at dX6_look 37) ?_
    refine e_iload_n 1 (dec_at dX6_look 38) rfl rfl ?_
    refine e_iload_n 3 (dec_at dX6_look 39) rfl rfl ?_
    refine e_callVr (M' := mX6_cornerOf) (dec_at dX6_look 40) mlX6_74 (m_cornerOf (μ := ν) (B := A) 0 f i hM f0 f1 i0 (by omega)) oX6_cornerOf iX6_cornerOf rfl rfl rfl rfl (by decide) (by decide) (Nat.le_of_ble_eq_true rfl) ?_
    refine e_aload_n 0 (dec_at dX6_look 41) rfl rfl ?_
    refine e_iconst (dec_at dX6_look 42) ?_
    refine e_iload_n 1 (dec_at dX6_look 43) rfl rfl ?_
    refine e_iload_n 2 (dec_at dX6_look 44) rfl rfl ?_
    refine e_callVr (M' := mX6_cornerOf) (dec_at dX6_look 45) mlX6_74 (m_cornerOf (μ := ν) (B := A) 0 f k hM f0 f1 k0 k1) oX6_cornerOf iX6_cornerOf rfl rfl rfl rfl (by decide) (by decide) (Nat.le_of_ble_eq_true rfl) ?_
    refine e_icmp_ne 79 (dec_at dX6_look 46) (by decide) (by omega) (by omega) (fun h70 => ?_) (fun h70 => ?_)
    · refine e_ii3 (dec_at dX6_look 51) (by decide) rfl ?_
      refine e_goto 51 (dec_at dX6_look 52) (by decide) ?_
      refine ih _ (by omega) (i + 1) ν rfl (by omega) (by omega) fr (hl.mono (fun q => ⟨q.1, q.2.1, fun s t a b c => ?_⟩)) K
      by_cases e : s = A 2 f + k ∧ t = A 2 f + i
      · rw [e.1, e.2]; exact fun z => h70 z.symm
      · exact q.2.2 s t a b (by omega)
    · refine e_aload_n 0 (dec_at dX6_look 47) rfl rfl ?_
      refine e_iconst (dec_at dX6_look 48) ?_
      refine e_iload_n 1 (dec_at dX6_look 49) rfl rfl ?_
      refine e_callVv (M' := mX6_fails) (dec_at dX6_look 50) mlX6_105 (m_fails (μ := ν) 2 f (by decide) (by omega)) oX6_fails iX6_fails rfl rfl rfl rfl (by decide) (by decide) (Nat.le_of_ble_eq_true rfl) ?_
      refine e_ii3 (dec_at dX6_look 51) (by decide) rfl ?_
      refine e_goto 51 (dec_at dX6_look 52) (by decide) ?_
      refine ih _ (by omega) (i + 1) _ rfl (by omega) (by omega) fr.fail (hl.fail _ (by decide) (fun q => isf2 q.1 (Fi_mk f0 f1 ⟨A 2 f + k, A 2 f + i, by omega, by omega, by omega, h70.symm⟩ q.2.1))) K

set_option maxRecDepth 100000 in
set_option maxHeartbeats 4000000 in
theorem k_tw2 {μ : Mm} {A : Net} {Q : Option Vv → Mm → Prop} (h : MP μ 0 A) {f : Int} (f0 : 0 ≤ f) (f1 : f < A 0 1) : ∀ (q : Nat) (k : Int) (ν : Mm), (A 2 (f + 1) - A 2 f - k).toNat = q → 0 ≤ k → k ≤ A 2 (f + 1) - A 2 f → FL6 μ ν → LK A (L1 A ∧ (∀ g, 0 ≤ g → g < f → ¬ fTw A g) ∧ ∀ s t, A 2 f ≤ t → t < s → s < A 2 f + k → A 3 s ≠ A 3 t) ν → (∀ ν : Mm, FL6 μ ν → LK A (L1 A ∧ (∀ g, 0 ≤ g → g < f + 1 → ¬ fTw A g)) ν → Ev mX6_look 4 91 [some (vR 21 0), some (vI f), none, none] [] ν Q) → Ev mX6_look 4 39 [some (vR 21 0), some (vI f), some (vI k), none] [] ν (Q) := by
  intro q
  induction q using Nat.strongRecOn with
  | _ q ih =>
  intro k ν hq k0 k1 fr hl K
  have hat := h.at f0 f1
  have hM := fr.mp h
  refine e_iload_n 2 (dec_at dX6_look 25) rfl rfl ?_
  refine e_aload_n 0 (dec_at dX6_look 26) rfl rfl ?_
  refine e_iconst (dec_at dX6_look 27) ?_
  refine e_iload_n 1 (dec_at dX6_look 28) rfl rfl ?_
  refine e_callVr (M' := mX6_sizeOf) (dec_at dX6_look 29) mlX6_70 (m_sizeOf (μ := ν) (B := A) 0 f hM f0 f1) oX6_sizeOf iX6_sizeOf rfl rfl rfl rfl (by decide) (by decide) (Nat.le_of_ble_eq_true rfl) ?_
  refine e_icmp_ge 91 (dec_at dX6_look 30) (by decide) (by omega) (by omega) (fun h46 => ?_) (fun h46 => ?_)
  · obtain rfl : k = A 2 (f + 1) - A 2 f := by omega
    exact e_le [some (vR 21 0), some (vI f), none, none] (by simp [leL]) (K ν fr (hl.mono (fun q => ⟨q.1, bef_s q.2.1 (fun ⟨s, t, a, b, c, e⟩ => q.2.2 s t a b (by omega) e)⟩)))
  · refine e_iconst (dec_at dX6_look 31) ?_
    refine e_is3 (dec_at dX6_look 32) (by decide) rfl ?_
    refine k_tw3 h f0 f1 k0 (by omega) _ 0 ν rfl (by omega) (by omega) fr (hl.mono (fun q => ⟨q.1, q.2.1, fun s t a b c => q.2.2 s t a b (by omega)⟩)) (fun ν fr hl => ?_)
    refine e_ii2 (dec_at dX6_look 53) (by decide) rfl ?_
    refine e_goto 39 (dec_at dX6_look 54) (by decide) ?_
    exact ih _ (by omega) (k + 1) ν rfl (by omega) (by omega) fr hl K

set_option maxRecDepth 100000 in
set_option maxHeartbeats 4000000 in
theorem k_tw1 {μ : Mm} {A : Net} {Q : Option Vv → Mm → Prop} (h : MP μ 0 A) : ∀ (q : Nat) (f : Int) (ν : Mm), (A 0 1 - f).toNat = q → 0 ≤ f → f ≤ A 0 1 → FL6 μ ν → LK A (L1 A ∧ (∀ g, 0 ≤ g → g < f → ¬ fTw A g)) ν → (∀ ν : Mm, FL6 μ ν → LK A (L2 A) ν → Ev mX6_look 4 97 [some (vR 21 0), none, none, none] [] ν Q) → Ev mX6_look 4 27 [some (vR 21 0), some (vI f), none, none] [] ν (Q) := by
  intro q
  induction q using Nat.strongRecOn with
  | _ q ih =>
  intro f ν hq f0 f1 fr hl K
  have hM := fr.mp h
  have hP := h.1.2.2.1
  refine e_iload_n 1 (dec_at dX6_look 17) rfl rfl ?_
  refine e_aload_n 0 (dec_at dX6_look 18) rfl rfl ?_
  refine e_getr 8 (dec_at dX6_look 19) flX6_16 rfl rfl ?_
  refine e_iconst (dec_at dX6_look 20) ?_
  refine e_ialdv (A 0 1) (dec_at dX6_look 21) rfl (by decide) (aLk_24 _) (by omega) (by exact hM.2.2.1) (fun r33 => ?_)
  refine e_icmp_ge 97 (dec_at dX6_look 22) (by decide) (by omega) (by omega) (fun h34 => ?_) (fun h34 => ?_)
  · obtain rfl : f = A 0 1 := by omega
    exact e_le [some (vR 21 0), none, none, none] (by simp [leL]) (K ν fr hl)
  · refine e_iconst (dec_at dX6_look 23) ?_
    refine e_is2 (dec_at dX6_look 24) (by decide) rfl ?_
    refine k_tw2 h f0 (by omega) _ 0 ν rfl (by omega) (by have := h.at f0 (f := f) (by omega); omega) fr (hl.mono (fun q => ⟨q.1, q.2, fun s t a b c => by omega⟩)) (fun ν fr hl => ?_)
    refine e_ii1 (dec_at dX6_look 55) (by decide) rfl ?_
    refine e_goto 27 (dec_at dX6_look 56) (by decide) ?_
    exact ih _ (by omega) (f + 1) ν rfl (by omega) (by omega) fr hl K

set_option maxRecDepth 100000 in
set_option maxHeartbeats 4000000 in
theorem k_db2 {μ : Mm} {A : Net} {Q : Option Vv → Mm → Prop} (h : MP μ 0 A) {f : Int} (f0 : 0 ≤ f) (f1 : f < A 0 1) : ∀ (q : Nat) (k : Int) (ν : Mm), (A 2 (f + 1) - A 2 f - k).toNat = q → 0 ≤ k → k ≤ A 2 (f + 1) - A 2 f → FL6 μ ν → LK A (L2 A ∧ (∀ g, 0 ≤ g → g < f → ¬ fDb A g) ∧ ∀ s t, A 2 f ≤ s → s < A 2 f + k → 0 ≤ t → t < A 2 f → ¬ sst A s t) ν → (∀ ν : Mm, FL6 μ ν → LK A (L2 A ∧ (∀ g, 0 ≤ g → g < f + 1 → ¬ fDb A g)) ν → Ev mX6_look 4 157 [some (vR 21 0), some (vI f), none, none] [] ν Q) → Ev mX6_look 4 111 [some (vR 21 0), some (vI f), some (vI k), none] [] ν (Q) := by
  intro q
  induction q using Nat.strongRecOn with
  | _ q ih =>
  intro k ν hq k0 k1 fr hl K
  have hat := h.at f0 f1
  have hM := fr.mp h
  refine e_iload_n 2 (dec_at dX6_look 67) rfl rfl ?_
  refine e_aload_n 0 (dec_at dX6_look 68) rfl rfl ?_
  refine e_iconst (dec_at dX6_look 69) ?_
  refine e_iload_n 1 (dec_at dX6_look 70) rfl rfl ?_
  refine e_callVr (M' := mX6_sizeOf) (dec_at dX6_look 71) mlX6_70 (m_sizeOf (μ := ν) (B := A) 0 f hM f0 f1) oX6_sizeOf iX6_sizeOf rfl rfl rfl rfl (by decide) (by decide) (Nat.le_of_ble_eq_true rfl) ?_
  refine e_icmp_ge 157 (dec_at dX6_look 72) (by decide) (by omega) (by omega) (fun h118 => ?_) (fun h118 => ?_)
  · obtain rfl : k = A 2 (f + 1) - A 2 f := by omega
    refine e_le [some (vR 21 0), some (vI f), none, none] (by simp [leL]) (K ν fr (hl.mono (fun q => ⟨q.1, bef_s q.2.1 (fun ⟨s, t, a, b, c, e, w⟩ => ?_)⟩)))
    have z := h.gp.inp (by omega) c e
    by_cases t0 : t < A 2 f
    · exact q.2.2 s t z.2.1 (by omega) a t0 w
    · exact q.1.2 f f0 f1 ⟨s, t, by omega, b, z.2.2, w.1⟩
  · have hrg := h.rg (s := A 2 f + k) (by omega) (by omega)
    refine e_aload_n 0 (dec_at dX6_look 73) rfl rfl ?_
    refine e_iconst (dec_at dX6_look 74) ?_
    refine e_aload_n 0 (dec_at dX6_look 75) rfl rfl ?_
    refine e_iconst (dec_at dX6_look 76) ?_
    refine e_iload_n 1 (dec_at dX6_look 77) rfl rfl ?_
    refine e_iload_n 2 (dec_at dX6_look 78) rfl rfl ?_
    refine e_callVr (M' := mX6_cornerOf) (dec_at dX6_look 79) mlX6_74 (m_cornerOf (μ := ν) (B := A) 0 f k hM f0 f1 k0 (by omega)) oX6_cornerOf iX6_cornerOf rfl rfl rfl rfl (by decide) (by decide) (Nat.le_of_ble_eq_true rfl) ?_
    refine e_aload_n 0 (dec_at dX6_look 80) rfl rfl ?_
    refine e_iconst (dec_at dX6_look 81) ?_
    refine e_iload_n 1 (dec_at dX6_look 82) rfl rfl ?_
    refine e_iload_n 2 (dec_at dX6_look 83) rfl rfl ?_
    refine e_callVr (M' := mX6_next) (dec_at dX6_look 84) mlX6_89 (m_next (μ := ν) (B := A) 0 f k hM f0 f1 k0 (by omega)) oX6_next iX6_next rfl rfl rfl rfl (by decide) (by decide) (Nat.le_of_ble_eq_true rfl) ?_
    refine e_iload_n 1 (dec_at dX6_look 85) rfl rfl ?_
    refine e_callV (M' := mX6_faceWith) (dec_at dX6_look 86) mlX6_95 (m_faceWith (μ := ν) (B := A) 0 (A 3 (A 2 f + k)) (A 3 (nx A (A 2 f + k))) f hM (by omega) (by omega) (by omega)) oX6_faceWith iX6_faceWith rfl rfl rfl rfl (by decide) (by decide) (Nat.le_of_ble_eq_true rfl) (fun r ν2 hQ => ?_)
    obtain ⟨v, rfl, hor⟩ := hQ
    have hv : v = -1 ∨ (0 ≤ v ∧ v < f) := hor.imp (fun q => q.1) (fun q => q.1)
    have fr2 : FL6 μ ν2 := by
      rcases hor with ⟨_, rfl, _⟩ | ⟨_, k2, _, rfl, _⟩
      · exact fr
      · exact fr_set fr (by omega)
    have hl2 : LK A (L2 A ∧ (∀ g, 0 ≤ g → g < f → ¬ fDb A g) ∧ ∀ s t, A 2 f ≤ s → s < A 2 f + k → 0 ≤ t → t < A 2 f → ¬ sst A s t) ν2 := by
      rcases hor with ⟨_, rfl, _⟩ | ⟨_, k2, _, rfl, _⟩
      · exact hl
      · exact hl.m16
    show Ev mX6_look 4 141 _ [vI v] ν2 _
    refine e_iconst (dec_at dX6_look 87) ?_
    refine e_icmp_eq 151 (dec_at dX6_look 88) (by decide) (by omega) (by omega) (fun h142 => ?_) (fun h142 => ?_)
    · refine e_ii2 (dec_at dX6_look 93) (by decide) rfl ?_
      refine e_goto 111 (dec_at dX6_look 94) (by decide) ?_
      have hn := (hor.resolve_right (fun q => by have := q.1; omega)).2.2
      refine ih _ (by omega) (k + 1) ν2 rfl (by omega) (by omega) fr2 (hl2.mono (fun q => ⟨q.1, q.2.1, fun s t a b c e w => ?_⟩)) K
      by_cases e2 : s = A 2 f + k
      · subst e2; exact hn t c e ⟨w.1.symm, w.2.symm⟩
      · exact q.2.2 s t a (by omega) c e w
    · refine e_aload_n 0 (dec_at dX6_look 89) rfl rfl ?_
      refine e_iconst (dec_at dX6_look 90) ?_
      refine e_iload_n 1 (dec_at dX6_look 91) rfl rfl ?_
      refine e_callVv (M' := mX6_fails) (dec_at dX6_look 92) mlX6_105 (m_fails (μ := ν2) 3 f (by decide) (by omega)) oX6_fails iX6_fails rfl rfl rfl rfl (by decide) (by decide) (Nat.le_of_ble_eq_true rfl) ?_
      refine e_ii2 (dec_at dX6_look 93) (by decide) rfl ?_
      refine e_goto 111 (dec_at dX6_look 94) (by decide) ?_
      replace hor := hor.resolve_left (fun q => h142 q.1)
      obtain ⟨hv2, k2, hk2, _, wa, wb⟩ := hor
      refine ih _ (by omega) (k + 1) _ rfl (by omega) (by omega) fr2.fail (hl2.fail _ (by decide) (fun q => isf3 q.1 (Fi_mk f0 f1 ⟨A 2 f + k, A 2 v + k2, ?_, ?_, by omega, h.gp.pl f0 f1 (by omega) (by omega), wa.symm, wb.symm⟩ q.2.1))) K
      · have := h.at hv2.1 (f := v) (by omega); omega
      · have := h.gp.mono (f := v + 1) (g := f) (by omega) (by omega) (by omega); omega

set_option maxRecDepth 100000 in
set_option maxHeartbeats 4000000 in
theorem k_db1 {μ : Mm} {A : Net} {Q : Option Vv → Mm → Prop} (h : MP μ 0 A) : ∀ (q : Nat) (f : Int) (ν : Mm), (A 0 1 - f).toNat = q → 0 ≤ f → f ≤ A 0 1 → FL6 μ ν → LK A (L2 A ∧ (∀ g, 0 ≤ g → g < f → ¬ fDb A g)) ν → (∀ ν : Mm, FL6 μ ν → LK A (L3 A) ν → Ev mX6_look 4 163 [some (vR 21 0), none, none, none] [] ν Q) → Ev mX6_look 4 99 [some (vR 21 0), some (vI f), none, none] [] ν (Q) := by
  intro q
  induction q using Nat.strongRecOn with
  | _ q ih =>
  intro f ν hq f0 f1 fr hl K
  have hM := fr.mp h
  have hP := h.1.2.2.1
  refine e_iload_n 1 (dec_at dX6_look 59) rfl rfl ?_
  refine e_aload_n 0 (dec_at dX6_look 60) rfl rfl ?_
  refine e_getr 8 (dec_at dX6_look 61) flX6_16 rfl rfl ?_
  refine e_iconst (dec_at dX6_look 62) ?_
  refine e_ialdv (A 0 1) (dec_at dX6_look 63) rfl (by decide) (aLk_24 _) (by omega) (by exact hM.2.2.1) (fun r105 => ?_)
  refine e_icmp_ge 163 (dec_at dX6_look 64) (by decide) (by omega) (by omega) (fun h106 => ?_) (fun h106 => ?_)
  · obtain rfl : f = A 0 1 := by omega
    exact e_le [some (vR 21 0), none, none, none] (by simp [leL]) (K ν fr hl)
  · refine e_iconst (dec_at dX6_look 65) ?_
    refine e_is2 (dec_at dX6_look 66) (by decide) rfl ?_
    refine k_db2 h f0 (by omega) _ 0 ν rfl (by omega) (by have := h.at f0 (f := f) (by omega); omega) fr (hl.mono (fun q => ⟨q.1, q.2, fun s t a b c => by omega⟩)) (fun ν fr hl => ?_)
    refine e_ii1 (dec_at dX6_look 95) (by decide) rfl ?_
    refine e_goto 99 (dec_at dX6_look 96) (by decide) ?_
    exact ih _ (by omega) (f + 1) ν rfl (by omega) (by omega) fr hl K

set_option maxRecDepth 100000 in
set_option maxHeartbeats 4000000 in
theorem k_op2 {μ : Mm} {A : Net} {Q : Option Vv → Mm → Prop} (h : MP μ 0 A) {f : Int} (f0 : 0 ≤ f) (f1 : f < A 0 1) : ∀ (q : Nat) (k : Int) (ν : Mm), (A 2 (f + 1) - A 2 f - k).toNat = q → 0 ≤ k → k ≤ A 2 (f + 1) - A 2 f → FL6 μ ν → LK A (L3 A ∧ (∀ g, 0 ≤ g → g < f → ¬ fOp A g) ∧ ∀ s, A 2 f ≤ s → s < A 2 f + k → ∃ t, (0 ≤ t ∧ t < nN A) ∧ bks A s t) ν → (∀ ν : Mm, FL6 μ ν → LK A (L3 A ∧ (∀ g, 0 ≤ g → g < f + 1 → ¬ fOp A g)) ν → Ev mX6_look 4 228 [some (vR 21 0), some (vI f), none, none] [] ν Q) → Ev mX6_look 4 177 [some (vR 21 0), some (vI f), some (vI k), none] [] ν (Q) := by
  intro q
  induction q using Nat.strongRecOn with
  | _ q ih =>
  intro k ν hq k0 k1 fr hl K
  have hat := h.at f0 f1
  have hM := fr.mp h
  refine e_iload_n 2 (dec_at dX6_look 107) rfl rfl ?_
  refine e_aload_n 0 (dec_at dX6_look 108) rfl rfl ?_
  refine e_iconst (dec_at dX6_look 109) ?_
  refine e_iload_n 1 (dec_at dX6_look 110) rfl rfl ?_
  refine e_callVr (M' := mX6_sizeOf) (dec_at dX6_look 111) mlX6_70 (m_sizeOf (μ := ν) (B := A) 0 f hM f0 f1) oX6_sizeOf iX6_sizeOf rfl rfl rfl rfl (by decide) (by decide) (Nat.le_of_ble_eq_true rfl) ?_
  refine e_icmp_ge 228 (dec_at dX6_look 112) (by decide) (by omega) (by omega) (fun h184 => ?_) (fun h184 => ?_)
  · obtain rfl : k = A 2 (f + 1) - A 2 f := by omega
    refine e_le [some (vR 21 0), some (vI f), none, none] (by simp [leL]) (K ν fr (hl.mono (fun q => ⟨q.1, bef_s q.2.1 (fun ⟨s, a, b, c, w⟩ => ?_)⟩)))
    have z := h.gp.inp a b c
    obtain ⟨t, ht, hb⟩ := q.2.2 s z.2.1 (by omega)
    exact w t ht.1 ht.2 hb
  · have hrg := h.rg (s := A 2 f + k) (by omega) (by omega)
    refine e_aload_n 0 (dec_at dX6_look 113) rfl rfl ?_
    refine e_iconst (dec_at dX6_look 114) ?_
    refine e_aload_n 0 (dec_at dX6_look 115) rfl rfl ?_
    refine e_iconst (dec_at dX6_look 116) ?_
    refine e_iload_n 1 (dec_at dX6_look 117) rfl rfl ?_
    refine e_iload_n 2 (dec_at dX6_look 118) rfl rfl ?_
    refine e_callVr (M' := mX6_next) (dec_at dX6_look 119) mlX6_89 (m_next (μ := ν) (B := A) 0 f k hM f0 f1 k0 (by omega)) oX6_next iX6_next rfl rfl rfl rfl (by decide) (by decide) (Nat.le_of_ble_eq_true rfl) ?_
    refine e_aload_n 0 (dec_at dX6_look 120) rfl rfl ?_
    refine e_iconst (dec_at dX6_look 121) ?_
    refine e_iload_n 1 (dec_at dX6_look 122) rfl rfl ?_
    refine e_iload_n 2 (dec_at dX6_look 123) rfl rfl ?_
    refine e_callVr (M' := mX6_cornerOf) (dec_at dX6_look 124) mlX6_74 (m_cornerOf (μ := ν) (B := A) 0 f k hM f0 f1 k0 (by omega)) oX6_cornerOf iX6_cornerOf rfl rfl rfl rfl (by decide) (by decide) (Nat.le_of_ble_eq_true rfl) ?_
    refine e_aload_n 0 (dec_at dX6_look 125) rfl rfl ?_
    refine e_getr 8 (dec_at dX6_look 126) flX6_16 rfl rfl ?_
    refine e_iconst (dec_at dX6_look 127) ?_
    refine e_ialdv (A 0 1) (dec_at dX6_look 128) rfl (by decide) (aLk_24 _) (by omega) (by exact hM.2.2.1) (fun r208 => ?_)
    refine e_callV (M' := mX6_faceWith) (dec_at dX6_look 129) mlX6_95 (m_faceWith (μ := ν) (B := A) 0 (A 3 (nx A (A 2 f + k))) (A 3 (A 2 f + k)) (A 0 1) hM (by omega) (by omega) (by omega)) oX6_faceWith iX6_faceWith rfl rfl rfl rfl (by decide) (by decide) (Nat.le_of_ble_eq_true rfl) (fun r ν2 hQ => ?_)
    obtain ⟨v, rfl, hor⟩ := hQ
    have hP := h.1.2.2.1
    have hv : v = -1 ∨ (0 ≤ v ∧ v < A 0 1) := hor.imp (fun q => q.1) (fun q => q.1)
    have fr2 : FL6 μ ν2 := by
      rcases hor with ⟨_, rfl, _⟩ | ⟨_, k2, _, rfl, _⟩
      · exact fr
      · exact fr_set fr (by omega)
    have hl2 : LK A (L3 A ∧ (∀ g, 0 ≤ g → g < f → ¬ fOp A g) ∧ ∀ s, A 2 f ≤ s → s < A 2 f + k → ∃ t, (0 ≤ t ∧ t < nN A) ∧ bks A s t) ν2 := by
      rcases hor with ⟨_, rfl, _⟩ | ⟨_, k2, _, rfl, _⟩
      · exact hl
      · exact hl.m16
    show Ev mX6_look 4 212 _ [vI v] ν2 _
    refine e_iconst (dec_at dX6_look 130) ?_
    refine e_icmp_ne 222 (dec_at dX6_look 131) (by decide) (by omega) (by omega) (fun h213 => ?_) (fun h213 => ?_)
    · refine e_ii2 (dec_at dX6_look 136) (by decide) rfl ?_
      refine e_goto 177 (dec_at dX6_look 137) (by decide) ?_
      replace hor := hor.resolve_left (fun q => h213 q.1)
      obtain ⟨hv2, k2, hk2, _, wa, wb⟩ := hor
      have hav := h.at hv2.1 hv2.2
      refine ih _ (by omega) (k + 1) ν2 rfl (by omega) (by omega) fr2 (hl2.mono (fun q => ⟨q.1, q.2.1, fun s a b => ?_⟩)) K
      by_cases e2 : s = A 2 f + k
      · subst e2; exact ⟨A 2 v + k2, by omega, wa, wb⟩
      · exact q.2.2 s a (by omega)
    · refine e_aload_n 0 (dec_at dX6_look 132) rfl rfl ?_
      refine e_iconst (dec_at dX6_look 133) ?_
      refine e_iload_n 1 (dec_at dX6_look 134) rfl rfl ?_
      refine e_callVv (M' := mX6_fails) (dec_at dX6_look 135) mlX6_105 (m_fails (μ := ν2) 4 f (by decide) (by omega)) oX6_fails iX6_fails rfl rfl rfl rfl (by decide) (by decide) (Nat.le_of_ble_eq_true rfl) ?_
      refine e_ii2 (dec_at dX6_look 136) (by decide) rfl ?_
      refine e_goto 177 (dec_at dX6_look 137) (by decide) ?_
      have hn := (hor.resolve_right (fun q => by have := q.1; omega)).2.2
      refine ih _ (by omega) (k + 1) _ rfl (by omega) (by omega) fr2.fail (hl2.fail _ (by decide) (fun q => isf4 q.1 (Fi_mk f0 f1 ⟨A 2 f + k, by omega, by omega, h.gp.pl f0 f1 (by omega) (by omega), fun t t0 t1 w => hn t t0 t1 w⟩ q.2.1))) K

set_option maxRecDepth 100000 in
set_option maxHeartbeats 4000000 in
theorem k_op1 {μ : Mm} {A : Net} {Q : Option Vv → Mm → Prop} (h : MP μ 0 A) : ∀ (q : Nat) (f : Int) (ν : Mm), (A 0 1 - f).toNat = q → 0 ≤ f → f ≤ A 0 1 → FL6 μ ν → LK A (L3 A ∧ (∀ g, 0 ≤ g → g < f → ¬ fOp A g)) ν → (∀ ν : Mm, FL6 μ ν → LK A (L4 A) ν → Ev mX6_look 4 234 [some (vR 21 0), none, none, none] [] ν Q) → Ev mX6_look 4 165 [some (vR 21 0), some (vI f), none, none] [] ν (Q) := by
  intro q
  induction q using Nat.strongRecOn with
  | _ q ih =>
  intro f ν hq f0 f1 fr hl K
  have hM := fr.mp h
  have hP := h.1.2.2.1
  refine e_iload_n 1 (dec_at dX6_look 99) rfl rfl ?_
  refine e_aload_n 0 (dec_at dX6_look 100) rfl rfl ?_
  refine e_getr 8 (dec_at dX6_look 101) flX6_16 rfl rfl ?_
  refine e_iconst (dec_at dX6_look 102) ?_
  refine e_ialdv (A 0 1) (dec_at dX6_look 103) rfl (by decide) (aLk_24 _) (by omega) (by exact hM.2.2.1) (fun r171 => ?_)
  refine e_icmp_ge 234 (dec_at dX6_look 104) (by decide) (by omega) (by omega) (fun h172 => ?_) (fun h172 => ?_)
  · obtain rfl : f = A 0 1 := by omega
    exact e_le [some (vR 21 0), none, none, none] (by simp [leL]) (K ν fr hl)
  · refine e_iconst (dec_at dX6_look 105) ?_
    refine e_is2 (dec_at dX6_look 106) (by decide) rfl ?_
    refine k_op2 h f0 (by omega) _ 0 ν rfl (by omega) (by have := h.at f0 (f := f) (by omega); omega) fr (hl.mono (fun q => ⟨q.1, q.2, fun s a b => by omega⟩)) (fun ν fr hl => ?_)
    refine e_ii1 (dec_at dX6_look 138) (by decide) rfl ?_
    refine e_goto 165 (dec_at dX6_look 139) (by decide) ?_
    exact ih _ (by omega) (f + 1) ν rfl (by omega) (by omega) fr hl K

set_option maxRecDepth 100000 in
set_option maxHeartbeats 4000000 in
theorem k_lo {μ : Mm} {A : Net} {Q : Option Vv → Mm → Prop} (h : MP μ 0 A) : ∀ (q : Nat) (f : Int) (ν : Mm), (A 0 0 - f).toNat = q → 0 ≤ f → f ≤ A 0 0 → FL6 μ ν → LK A (L4 A ∧ (∀ g, 0 ≤ g → g < f → ¬ fLo A g)) ν → (∀ ν : Mm, FL6 μ ν → LK A (L5 A) ν → Ev mX6_look 4 266 [some (vR 21 0), none, none, none] [] ν Q) → Ev mX6_look 4 236 [some (vR 21 0), some (vI f), none, none] [] ν (Q) := by
  intro q
  induction q using Nat.strongRecOn with
  | _ q ih =>
  intro f ν hq f0 f1 fr hl K
  have hM := fr.mp h
  have hC := h.1.2.2.2.2
  have hn := ctz_in (p := fun s => A 3 s = f) (s := nN A) h.gp.n0
  have hn7 := h.1.2.2.2.1
  have hd : (deg A f : Int) = ctz (fun s => A 3 s = f) (nN A) := rfl
  refine e_iload_n 1 (dec_at dX6_look 142) rfl rfl ?_
  refine e_aload_n 0 (dec_at dX6_look 143) rfl rfl ?_
  refine e_getr 7 (dec_at dX6_look 144) flX6_13 rfl rfl ?_
  refine e_iconst (dec_at dX6_look 145) ?_
  refine e_ialdv (A 0 0) (dec_at dX6_look 146) rfl (by decide) (aLk_23 _) (by omega) (by exact hM.2.1) (fun r242 => ?_)
  refine e_icmp_ge 266 (dec_at dX6_look 147) (by decide) (by omega) (by omega) (fun h243 => ?_) (fun h243 => ?_)
  · obtain rfl : f = A 0 0 := by omega
    exact e_le [some (vR 21 0), none, none, none] (by simp [leL]) (K ν fr hl)
  · refine e_aload_n 0 (dec_at dX6_look 148) rfl rfl ?_
    refine e_iload_n 1 (dec_at dX6_look 149) rfl rfl ?_
    refine e_callVr (M' := mX6_facesOf) (dec_at dX6_look 150) mlX6_109 (m_facesOf (μ := ν) (B := A) f hM (by omega)) oX6_facesOf iX6_facesOf rfl rfl rfl rfl (by decide) (by decide) (Nat.le_of_ble_eq_true rfl) ?_
    refine e_if_ne 260 (dec_at dX6_look 151) (by decide) (by omega) (fun h251 => ?_) (fun h251 => ?_)
    · refine e_ii1 (dec_at dX6_look 156) (by decide) rfl ?_
      refine e_goto 236 (dec_at dX6_look 157) (by decide) ?_
      exact ih _ (by omega) (f + 1) ν rfl (by omega) (by omega) fr (hl.mono (fun q => ⟨q.1, bef_s q.2 (fun z => h251 (by unfold fLo at z; omega))⟩)) K
    · refine e_aload_n 0 (dec_at dX6_look 152) rfl rfl ?_
      refine e_iconst (dec_at dX6_look 153) ?_
      refine e_iload_n 1 (dec_at dX6_look 154) rfl rfl ?_
      refine e_callVv (M' := mX6_fails) (dec_at dX6_look 155) mlX6_105 (m_fails (μ := ν) 5 f (by decide) (by omega)) oX6_fails iX6_fails rfl rfl rfl rfl (by decide) (by decide) (Nat.le_of_ble_eq_true rfl) ?_
      refine e_ii1 (dec_at dX6_look 156) (by decide) rfl ?_
      refine e_goto 236 (dec_at dX6_look 157) (by decide) ?_
      exact ih _ (by omega) (f + 1) _ rfl (by omega) (by omega) fr.fail (hl.fail _ (by decide) (fun q => isf5 q.1 (Fi_mk f0 (by omega) (show deg A f = 0 by omega) q.2))) K

set_option maxRecDepth 100000 in
set_option maxHeartbeats 4000000 in
theorem k_pi {μ : Mm} {A : Net} {Q : Option Vv → Mm → Prop} (h : MP μ 0 A) : ∀ (q : Nat) (f : Int) (ν : Mm), (A 0 0 - f).toNat = q → 0 ≤ f → f ≤ A 0 0 → FL6 μ ν → LK A (L5 A ∧ (∀ g, 0 ≤ g → g < f → ¬ fPi A g)) ν → (∀ ν : Mm, FL6 μ ν → LK A (L6 A) ν → Ev mX6_look 4 311 [some (vR 21 0), none, none, none] [] ν Q) → Ev mX6_look 4 268 [some (vR 21 0), some (vI f), none, none] [] ν (Q) := by
  intro q
  induction q using Nat.strongRecOn with
  | _ q ih =>
  intro f ν hq f0 f1 fr hl K
  have hM := fr.mp h
  have hC := h.1.2.2.2.2
  have hn := ctz_in (p := fun s => A 3 s = f) (s := nN A) h.gp.n0
  have hn7 := h.1.2.2.2.1
  have hd : (deg A f : Int) = ctz (fun s => A 3 s = f) (nN A) := rfl
  refine e_iload_n 1 (dec_at dX6_look 160) rfl rfl ?_
  refine e_aload_n 0 (dec_at dX6_look 161) rfl rfl ?_
  refine e_getr 7 (dec_at dX6_look 162) flX6_13 rfl rfl ?_
  refine e_iconst (dec_at dX6_look 163) ?_
  refine e_ialdv (A 0 0) (dec_at dX6_look 164) rfl (by decide) (aLk_23 _) (by omega) (by exact hM.2.1) (fun r274 => ?_)
  refine e_icmp_ge 311 (dec_at dX6_look 165) (by decide) (by omega) (by omega) (fun h275 => ?_) (fun h275 => ?_)
  · obtain rfl : f = A 0 0 := by omega
    exact e_le [some (vR 21 0), none, none, none] (by simp [leL]) (K ν fr hl)
  · refine e_aload_n 0 (dec_at dX6_look 166) rfl rfl ?_
    refine e_geti 5 5 (dec_at dX6_look 167) flX6_99 rfl rfl rfl (fun r279 => ?_)
    refine e_if_ne 311 (dec_at dX6_look 168) (by decide) (by omega) (fun h282 => ?_) (fun h282 => ?_)
    · exact e_le [some (vR 21 0), none, none, none] (by simp [leL]) (K ν fr (hl.out h282))
    · have hq := hl.got h282
      refine e_aload_n 0 (dec_at dX6_look 169) rfl rfl ?_
      refine e_iload_n 1 (dec_at dX6_look 170) rfl rfl ?_
      refine e_callV (M' := mX6_ringOf) (dec_at dX6_look 171) mlX6_112 (m_ringOf (μ := ν) (B := A) f hM (by omega) hq.1.1.1.1.2 hq.1.1.1.2 hq.1.1.2 (hq.1.2 f f0 (by omega))) oX6_ringOf iX6_ringOf rfl rfl rfl rfl (by decide) (by decide) (Nat.le_of_ble_eq_true rfl) (fun r ν2 hQ => ?_)
      obtain ⟨g16, v, rfl, hv, hpi⟩ := hQ
      have fr2 : FL6 μ ν2 := fun k l1 i z => (g16 k l1 i (by omega)).trans (fr k l1 i z)
      have hM2 := fr2.mp h
      have hl2 := hl.cg (g16 21 0 5 (by omega)) (g16 21 0 6 (by omega))
      show Ev mX6_look 4 290 _ [vI v] ν2 _
      refine e_aload_n 0 (dec_at dX6_look 172) rfl rfl ?_
      refine e_iload_n 1 (dec_at dX6_look 173) rfl rfl ?_
      refine e_callVr (M' := mX6_facesOf) (dec_at dX6_look 174) mlX6_109 (m_facesOf (μ := ν2) (B := A) f hM2 (by omega)) oX6_facesOf iX6_facesOf rfl rfl rfl rfl (by decide) (by decide) (Nat.le_of_ble_eq_true rfl) ?_
      refine e_icmp_eq 305 (dec_at dX6_look 175) (by decide) (by omega) (by omega) (fun h295 => ?_) (fun h295 => ?_)
      · refine e_ii1 (dec_at dX6_look 180) (by decide) rfl ?_
        refine e_goto 268 (dec_at dX6_look 181) (by decide) ?_
        exact ih _ (by omega) (f + 1) ν2 rfl (by omega) (by omega) fr2 (hl2.mono (fun q => ⟨q.1, bef_s q.2 (fun z => hpi.2 z h295)⟩)) K
      · refine e_aload_n 0 (dec_at dX6_look 176) rfl rfl ?_
        refine e_bipush (dec_at dX6_look 177) (by decide) ?_
        refine e_iload_n 1 (dec_at dX6_look 178) rfl rfl ?_
        refine e_callVv (M' := mX6_fails) (dec_at dX6_look 179) mlX6_105 (m_fails (μ := ν2) 6 f (by decide) (by omega)) oX6_fails iX6_fails rfl rfl rfl rfl (by decide) (by decide) (Nat.le_of_ble_eq_true rfl) ?_
        refine e_ii1 (dec_at dX6_look 180) (by decide) rfl ?_
        refine e_goto 268 (dec_at dX6_look 181) (by decide) ?_
        exact ih _ (by omega) (f + 1) _ rfl (by omega) (by omega) fr2.fail (hl2.fail _ (by decide) (fun q => isf6 q.1 (Fi_mk f0 (by omega) (hpi.1 h295) q.2))) K

set_option maxRecDepth 100000 in
set_option maxHeartbeats 4000000 in
theorem k_th {μ : Mm} {A : Net} {Q : Option Vv → Mm → Prop} (h : MP μ 0 A) : ∀ (q : Nat) (f : Int) (ν : Mm), (A 0 0 - f).toNat = q → 0 ≤ f → f ≤ A 0 0 → FL6 μ ν → LK A (L6 A ∧ (∀ g, 0 ≤ g → g < f → ¬ fTh A g)) ν → (∀ ν : Mm, FL6 μ ν → LK A (L6 A ∧ No (fTh A) (A 0 0)) ν → Ev mX6_look 4 352 [some (vR 21 0), none, none, none] [] ν Q) → Ev mX6_look 4 313 [some (vR 21 0), some (vI f), none, none] [] ν (Q) := by
  intro q
  induction q using Nat.strongRecOn with
  | _ q ih =>
  intro f ν hq f0 f1 fr hl K
  have hM := fr.mp h
  have hC := h.1.2.2.2.2
  have hn := ctz_in (p := fun s => A 3 s = f) (s := nN A) h.gp.n0
  have hn7 := h.1.2.2.2.1
  have hd : (deg A f : Int) = ctz (fun s => A 3 s = f) (nN A) := rfl
  refine e_iload_n 1 (dec_at dX6_look 184) rfl rfl ?_
  refine e_aload_n 0 (dec_at dX6_look 185) rfl rfl ?_
  refine e_getr 7 (dec_at dX6_look 186) flX6_13 rfl rfl ?_
  refine e_iconst (dec_at dX6_look 187) ?_
  refine e_ialdv (A 0 0) (dec_at dX6_look 188) rfl (by decide) (aLk_23 _) (by omega) (by exact hM.2.1) (fun r319 => ?_)
  refine e_icmp_ge 352 (dec_at dX6_look 189) (by decide) (by omega) (by omega) (fun h320 => ?_) (fun h320 => ?_)
  · obtain rfl : f = A 0 0 := by omega
    exact e_le [some (vR 21 0), none, none, none] (by simp [leL]) (K ν fr hl)
  · refine e_aload_n 0 (dec_at dX6_look 190) rfl rfl ?_
    refine e_geti 5 5 (dec_at dX6_look 191) flX6_99 rfl rfl rfl (fun r324 => ?_)
    refine e_if_ne 352 (dec_at dX6_look 192) (by decide) (by omega) (fun h327 => ?_) (fun h327 => ?_)
    · exact e_le [some (vR 21 0), none, none, none] (by simp [leL]) (K ν fr (hl.out h327))
    · refine e_aload_n 0 (dec_at dX6_look 193) rfl rfl ?_
      refine e_iload_n 1 (dec_at dX6_look 194) rfl rfl ?_
      refine e_callVr (M' := mX6_facesOf) (dec_at dX6_look 195) mlX6_109 (m_facesOf (μ := ν) (B := A) f hM (by omega)) oX6_facesOf iX6_facesOf rfl rfl rfl rfl (by decide) (by decide) (Nat.le_of_ble_eq_true rfl) ?_
      refine e_iconst (dec_at dX6_look 196) ?_
      refine e_icmp_ne 346 (dec_at dX6_look 197) (by decide) (by omega) (by omega) (fun h336 => ?_) (fun h336 => ?_)
      · refine e_ii1 (dec_at dX6_look 202) (by decide) rfl ?_
        refine e_goto 313 (dec_at dX6_look 203) (by decide) ?_
        exact ih _ (by omega) (f + 1) ν rfl (by omega) (by omega) fr (hl.mono (fun q => ⟨q.1, bef_s q.2 (fun z => h336 (by unfold fTh at z; omega))⟩)) K
      · refine e_aload_n 0 (dec_at dX6_look 198) rfl rfl ?_
        refine e_bipush (dec_at dX6_look 199) (by decide) ?_
        refine e_iload_n 1 (dec_at dX6_look 200) rfl rfl ?_
        refine e_callVv (M' := mX6_fails) (dec_at dX6_look 201) mlX6_105 (m_fails (μ := ν) 7 f (by decide) (by omega)) oX6_fails iX6_fails rfl rfl rfl rfl (by decide) (by decide) (Nat.le_of_ble_eq_true rfl) ?_
        refine e_ii1 (dec_at dX6_look 202) (by decide) rfl ?_
        refine e_goto 313 (dec_at dX6_look 203) (by decide) ?_
        exact ih _ (by omega) (f + 1) _ rfl (by omega) (by omega) fr.fail (hl.fail _ (by decide) (fun q => isf7 q.1 (Fi_mk f0 (by omega) (show deg A f = 2 by omega) q.2))) K

set_option maxRecDepth 100000 in
set_option maxHeartbeats 4000000 in
theorem m_look {μ : Mm} {A : Net} (h : MP μ 0 A) : Mc mX6_look 4 [vR 21 0] μ (fun r ν => r = none ∧ FL6 μ ν ∧ IsF A (ν 21 0 5) (ν 21 0 6)) := by
  refine Mc.of (L := [some (vR 21 0), none, none, none]) (by decide +kernel) (by simp [leL, entA, isLong, mX6_look]) (by simp [entA, isLong, mX6_look]) ?_
  have hP := h.1.2.2.1
  have hP0 := h.gp.1
  have fr : FL6 μ (mset (mset μ 21 0 5 0) 21 0 6 (-1)) := fr_set (fr_set (fun _ _ _ _ => rfl) (by omega)) (by omega)
  have hl : ∀ q : Prop, q → LK A q (mset (mset μ 21 0 5 0) 21 0 6 (-1)) := fun q hq => Or.inl ⟨by rw [mset_i (by decide)]; exact mset_eq, mset_eq, hq⟩
  have K : ∀ ν : Mm, FL6 μ ν → LK A (L1 A) ν → Ev mX6_look 4 25 [some (vR 21 0), none, none, none] [] ν (fun r ν => r = none ∧ FL6 μ ν ∧ IsF A (ν 21 0 5) (ν 21 0 6)) := by
    intro ν fr hl
    refine e_iconst (dec_at dX6_look 15) ?_
    refine e_is1 (dec_at dX6_look 16) (by decide) rfl ?_
    refine k_tw1 h _ 0 ν rfl (by omega) hP0 fr (hl.mono (fun q => ⟨q, fun g a b => by omega⟩)) (fun ν fr hl => ?_)
    refine e_iconst (dec_at dX6_look 57) ?_
    refine e_is1 (dec_at dX6_look 58) (by decide) rfl ?_
    refine k_db1 h _ 0 ν rfl (by omega) hP0 fr (hl.mono (fun q => ⟨q, fun g a b => by omega⟩)) (fun ν fr hl => ?_)
    refine e_iconst (dec_at dX6_look 97) ?_
    refine e_is1 (dec_at dX6_look 98) (by decide) rfl ?_
    refine k_op1 h _ 0 ν rfl (by omega) hP0 fr (hl.mono (fun q => ⟨q, fun g a b => by omega⟩)) (fun ν fr hl => ?_)
    refine e_iconst (dec_at dX6_look 140) ?_
    refine e_is1 (dec_at dX6_look 141) (by decide) rfl ?_
    refine k_lo h _ 0 ν rfl (by omega) h.1.2.1.1 fr (hl.mono (fun q => ⟨q, fun g a b => by omega⟩)) (fun ν fr hl => ?_)
    refine e_iconst (dec_at dX6_look 158) ?_
    refine e_is1 (dec_at dX6_look 159) (by decide) rfl ?_
    refine k_pi h _ 0 ν rfl (by omega) h.1.2.1.1 fr (hl.mono (fun q => ⟨q, fun g a b => by omega⟩)) (fun ν fr hl => ?_)
    refine e_iconst (dec_at dX6_look 182) ?_
    refine e_is1 (dec_at dX6_look 183) (by decide) rfl ?_
    refine k_th h _ 0 ν rfl (by omega) h.1.2.1.1 fr (hl.mono (fun q => ⟨q, fun g a b => by omega⟩)) (fun ν fr hl => ?_)
    refine e_return (dec_at dX6_look 204) rfl ?_
    refine ⟨rfl, fr, ?_⟩
    rcases hl with ⟨a, b, c⟩ | ⟨a, b⟩
    · rw [a, b]; exact isf0 c.1 c.2
    · exact b
  refine e_aload_n 0 (dec_at dX6_look 0) rfl rfl ?_
  refine e_iconst (dec_at dX6_look 1) ?_
  refine e_put 5 5 (dec_at dX6_look 2) flX6_99 fpX6_5 rfl rfl rfl (by omega) (fit_int _) ?_
  refine e_aload_n 0 (dec_at dX6_look 3) rfl rfl ?_
  refine e_iconst (dec_at dX6_look 4) ?_
  refine e_put 6 6 (dec_at dX6_look 5) flX6_102 fpX6_6 rfl rfl rfl (by omega) (fit_int _) ?_
  refine e_aload_n 0 (dec_at dX6_look 6) rfl rfl ?_
  refine e_getr 8 (dec_at dX6_look 7) flX6_16 rfl rfl ?_
  refine e_iconst (dec_at dX6_look 8) ?_
  refine e_ialdv (A 0 1) (dec_at dX6_look 9) rfl (by decide) (aLk_24 _) (by omega) (by rw [mset_k (by decide), mset_k (by decide)]; exact h.2.2.1) (fun r15 => ?_)
  refine e_if_ne 25 (dec_at dX6_look 10) (by decide) (by omega) (fun h16 => ?_) (fun h16 => ?_)
  · exact K _ fr (hl _ h16)
  · refine e_aload_n 0 (dec_at dX6_look 11) rfl rfl ?_
    refine e_iconst (dec_at dX6_look 12) ?_
    refine e_iconst (dec_at dX6_look 13) ?_
    refine e_callVv (M' := mX6_fails) (dec_at dX6_look 14) mlX6_105 (m_fails 1 (-1) (by decide) (by decide)) oX6_fails iX6_fails rfl rfl rfl rfl (by decide) (by decide) (Nat.le_of_ble_eq_true rfl) ?_
    refine K _ fr.fail ((hl True trivial).fail _ (by decide) (fun _ => Or.inl ⟨by omega, rfl, rfl⟩))
