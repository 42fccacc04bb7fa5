/-- a net out of corners, plates, rings, and each step's plate and step back -/
noncomputable def fin (C P : Int) (fst rg pl bk : Int → Int) : Net := fun j i => match j with
  | 0 => if i = 0 then C else if i = 1 then P else cE bk (fst P)
  | 2 => fst i
  | 3 => rg i
  | 4 => pl i
  | 5 => bk i
  | 6 => if bk i < i then cE bk (bk i) else cE bk i
  | 7 => Classical.epsilon (fun s => (0 ≤ s ∧ s < fst P) ∧ fm bk s ∧ cE bk s = i)
  | 8 => (ct (fun s => rg s = i) (fst P).toNat : Int)
  | 9 => Classical.epsilon (fun s => (0 ≤ s ∧ s < fst P) ∧ rg s = i ∧ ∀ t, 0 ≤ t → t < fst P → rg t = i → (if bk s < s then cE bk (bk s) else cE bk s) ≤ (if bk t < t then cE bk (bk t) else cE bk t))
  | _ => 0
theorem least_of {p : Int → Prop} {f : Int → Int} (hf : ∀ s, p s → 0 ≤ f s) : ∀ (n : Nat) (s : Int), p s → (f s).toNat = n → ∃ s, p s ∧ ∀ t, p t → f s ≤ f t := by
  intro n
  induction n using Nat.strongRecOn with
  | _ n ih =>
  intro s hs hn
  by_cases h : ∃ t, p t ∧ f t < f s
  · obtain ⟨t, ht, hlt⟩ := h
    have := hf t ht
    have := hf s hs
    exact ih (f t).toNat (by omega) t ht rfl
  · refine ⟨s, hs, fun t ht => ?_⟩
    have : ¬ f t < f s := fun q => h ⟨t, ht, q⟩
    omega
theorem fin_good {C P : Int} {fst rg pl bk : Int → Int} (h : GC (fin C P fst rg pl bk)) : Good (fin C P fst rg pl bk) := by
  have hn : nN (fin C P fst rg pl bk) = fst P := rfl
  have e5 : (fin C P fst rg pl bk) 5 = bk := rfl
  refine ⟨h, ⟨rfl, fun s _ _ => rfl, fun s h0 h1 hs => ?_⟩, fun c h0 h1 => ?_⟩
  · have hx : ∃ t, (0 ≤ t ∧ t < fst P) ∧ fm bk t ∧ cE bk t = cE bk s := ⟨s, ⟨h0, h1⟩, hs, rfl⟩
    have a := Classical.epsilon_spec hx
    show Classical.epsilon (fun t => (0 ≤ t ∧ t < fst P) ∧ fm bk t ∧ cE bk t = cE bk s) = s
    exact cE_inj a.1.1 h0 a.2.1 hs a.2.2
  · obtain ⟨d3, x, hx, hxc, -⟩ := h.2.2.2 c h0 h1
    obtain ⟨s, hs, hmin⟩ := least_of (p := fun s => (0 ≤ s ∧ s < fst P) ∧ rg s = c) (f := fun s => if bk s < s then cE bk (bk s) else cE bk s) (fun s _ => by split <;> exact cE_0 _ _) _ x ⟨hx, hxc⟩ rfl
    have hx : ∃ s, (0 ≤ s ∧ s < fst P) ∧ rg s = c ∧ ∀ t, 0 ≤ t → t < fst P → rg t = c → (if bk s < s then cE bk (bk s) else cE bk s) ≤ (if bk t < t then cE bk (bk t) else cE bk t) := ⟨s, hs.1, hs.2, fun t a b q => hmin t ⟨⟨a, b⟩, q⟩⟩
    have a := Classical.epsilon_spec hx
    exact ⟨rfl, a.1, a.2.1, a.2.2⟩
section REF
variable {A : Net}
/-- where the plate of a corner begins -/
noncomputable def st (A : Net) (c : Int) : Int := nN A + (ct (fun s => A 3 s < c) (nN A).toNat : Int)
theorem st_0 (h : GC A) : st A 0 = nN A := by
  have hn := h.2.1.n0
  unfold st
  rw [(ct_zero (p := fun s => A 3 s < 0) _).mpr (fun i a b => by have := (h.b1 a (by omega)).1; omega)]
  omega
theorem st_s (h : GC A) (c : Int) : st A (c + 1) = st A c + (deg A c : Int) := by
  unfold st deg
  rw [ct_add (p := fun s => A 3 s < c) (q := fun s => A 3 s = c) (r := fun s => A 3 s < c + 1) _ (fun i _ _ => by constructor <;> omega)]
  omega
theorem st_C (h : GC A) : st A (A 0 0) = 2 * nN A := by
  have hn := h.2.1.n0
  unfold st
  rw [ct_full (p := fun s => A 3 s < A 0 0) _ (fun i a b => ((h.b1 a (by omega)).1).2)]
  omega
theorem st_mono (h : GC A) : ∀ (n : Nat) (c e : Int), (e - c).toNat = n → c ≤ e → st A c ≤ st A e := by
  intro n
  induction n with
  | zero => intro c e hn hc; obtain rfl : c = e := by omega
            omega
  | succ n ih =>
    intro c e hn hc
    have a := ih (c + 1) e (by omega) (by omega)
    have b := st_s h c
    omega
noncomputable def crn (A : Net) (s : Int) : Int := Classical.epsilon (fun c => (0 ≤ c ∧ c < A 0 0) ∧ st A c ≤ s ∧ s < st A (c + 1))
noncomputable def un (A : Net) (s : Int) : Int := it (rho A) (s - st A (crn A s)).toNat (A 9 (crn A s))
noncomputable def ps (A : Net) (u : Int) : Int := Classical.epsilon (fun t => ∃ k : Nat, k < deg A (A 3 u) ∧ it (rho A) k (A 9 (A 3 u)) = u ∧ t = st A (A 3 u) + k)
theorem crn_ex (h : GC A) : ∀ (n : Nat) (c s : Int), (A 0 0 - c).toNat = n → 0 ≤ c → c ≤ A 0 0 → st A c ≤ s → s < 2 * nN A → ∃ c, (0 ≤ c ∧ c < A 0 0) ∧ st A c ≤ s ∧ s < st A (c + 1) := by
  intro n
  induction n with
  | zero =>
    intro c s hn h0 hc h1 h2
    obtain rfl : c = A 0 0 := by omega
    rw [st_C h] at h1
    omega
  | succ n ih =>
    intro c s hn h0 hc h1 h2
    by_cases q : s < st A (c + 1)
    · exact ⟨c, by omega, h1, q⟩
    · exact ih (c + 1) s (by omega) (by omega) (by omega) (by omega) h2
theorem crn_s (h : GC A) {s : Int} (h0 : nN A ≤ s) (h1 : s < 2 * nN A) : (0 ≤ crn A s ∧ crn A s < A 0 0) ∧ st A (crn A s) ≤ s ∧ s < st A (crn A s + 1) :=
  Classical.epsilon_spec (crn_ex h _ 0 s rfl (by omega) h.1 (by rw [st_0 h]; exact h0) h1)
theorem crn_u (h : GC A) {c s : Int} (h0 : 0 ≤ c) (h1 : c < A 0 0) (h2 : st A c ≤ s) (h3 : s < st A (c + 1)) : crn A s = c := by
  have a : (0 ≤ crn A s ∧ crn A s < A 0 0) ∧ st A (crn A s) ≤ s ∧ s < st A (crn A s + 1) := Classical.epsilon_spec (p := fun c => (0 ≤ c ∧ c < A 0 0) ∧ st A c ≤ s ∧ s < st A (c + 1)) ⟨c, ⟨h0, h1⟩, h2, h3⟩
  rcases Int.lt_trichotomy (crn A s) c with q | q | q
  · have := st_mono h _ (crn A s + 1) c rfl (by omega); omega
  · exact q
  · have := st_mono h _ (c + 1) (crn A s) rfl (by omega); omega
/-- the k-th place of a corner's plate -/
theorem un_at (h : Good A) {c : Int} (h0 : 0 ≤ c) (h1 : c < A 0 0) {k : Nat} (hk : k < deg A c) : (nN A ≤ st A c + k ∧ st A c + k < 2 * nN A) ∧ crn A (st A c + k) = c ∧ un A (st A c + k) = it (rho A) k (A 9 c) := by
  have a := st_s h.1 c
  have b := st_mono h.1 _ 0 c rfl h0
  have d := st_mono h.1 _ (c + 1) (A 0 0) rfl (by omega)
  rw [st_0 h.1] at b
  rw [st_C h.1] at d
  have e := crn_u h.1 (s := st A c + k) h0 h1 (by omega) (by omega)
  refine ⟨by omega, e, ?_⟩
  unfold un
  rw [e, show (st A c + (k : Int) - st A c).toNat = k by omega]
theorem un_ex (h : Good A) {s : Int} (h0 : nN A ≤ s) (h1 : s < 2 * nN A) : ∃ (c : Int) (k : Nat), (0 ≤ c ∧ c < A 0 0) ∧ k < deg A c ∧ s = st A c + k ∧ un A s = it (rho A) k (A 9 c) := by
  have a := crn_s h.1 h0 h1
  have b := st_s h.1 (crn A s)
  exact ⟨crn A s, (s - st A (crn A s)).toNat, a.1, by omega, by omega, rfl⟩
theorem un_r (h : Good A) {s : Int} (h0 : nN A ≤ s) (h1 : s < 2 * nN A) : (0 ≤ un A s ∧ un A s < nN A) ∧ A 3 (un A s) = crn A s := by
  have a := crn_s h.1 h0 h1
  have b := h.door a.1.1 a.1.2
  have c := h.1.itr b.1.1 b.1.2 (s - st A (crn A s)).toNat
  exact ⟨c.1, c.2.trans b.2.1⟩
theorem ps_at (h : Good A) {u : Int} (h0 : 0 ≤ u) (h1 : u < nN A) : ∃ k : Nat, k < deg A (A 3 u) ∧ it (rho A) k (A 9 (A 3 u)) = u ∧ ps A u = st A (A 3 u) + k := by
  have a := h.1.b1 h0 h1
  have b := h.door a.1.1 a.1.2
  obtain ⟨k, hk, e⟩ := b.2.2.2.2.2.2 u h0 h1 rfl
  exact Classical.epsilon_spec (p := fun t => ∃ k : Nat, k < deg A (A 3 u) ∧ it (rho A) k (A 9 (A 3 u)) = u ∧ t = st A (A 3 u) + k) ⟨_, k, hk, e, rfl⟩
theorem un_ps (h : Good A) {u : Int} (h0 : 0 ≤ u) (h1 : u < nN A) : (nN A ≤ ps A u ∧ ps A u < 2 * nN A) ∧ un A (ps A u) = u := by
  have a := h.1.b1 h0 h1
  obtain ⟨k, hk, e, hp⟩ := ps_at h h0 h1
  have b := un_at h a.1.1 a.1.2 hk
  rw [hp]
  exact ⟨b.1, b.2.2.trans e⟩
theorem ps_un (h : Good A) {s : Int} (h0 : nN A ≤ s) (h1 : s < 2 * nN A) : ps A (un A s) = s := by
  obtain ⟨c, k, hc, hk, hs, hu⟩ := un_ex h h0 h1
  have a := un_r h h0 h1
  have b := h.door hc.1 hc.2
  have d := h.1.itr b.1.1 b.1.2 k
  have e3 : A 3 (un A s) = c := by rw [hu]; exact d.2.trans b.2.1
  obtain ⟨k', hk', e, hp⟩ := ps_at h a.1.1 a.1.2
  rw [e3] at hk' e hp
  rw [hu] at e
  have := h.1.apart b.1.1 b.1.2 b.2.2.2.2.1 k' k hk' hk e
  rw [hp, hs, this]
theorem rho_bk (h : GC A) {s : Int} (h0 : 0 ≤ s) (h1 : s < nN A) : rho A (nx A s) = A 5 s := by
  unfold rho
  rw [h.2.1.pvnx h0 h1]
end REF
