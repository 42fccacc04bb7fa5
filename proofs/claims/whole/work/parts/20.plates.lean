/-! NETS, without a machine. A net by its arrays: 0: how many corners, plates, edges; 2: first; 3: rings; 4: plateOf; 5: back; 6: edgeOf; 7: met; 8: degree; 9: door. -/
abbrev Net : Type := Nat → Int → Int
def nN (A : Net) : Int := A 2 (A 0 1)
def nx (A : Net) (s : Int) : Int := nxF (A 2) (A 4) s
def pv (A : Net) (s : Int) : Int := pvF (A 2) (A 4) s
/-- plates: rows of at least three, one behind the other; each step's plate -/
def GP (A : Net) : Prop := 0 ≤ A 0 1 ∧ A 2 0 = 0 ∧ (∀ f, 0 ≤ f → f < A 0 1 → A 2 f + 3 ≤ A 2 (f + 1)) ∧ (∀ s, 0 ≤ s → s < nN A → (0 ≤ A 4 s ∧ A 4 s < A 0 1) ∧ A 2 (A 4 s) ≤ s ∧ s < A 2 (A 4 s + 1))
theorem mono_fst {P : Int} {fst : Int → Int} (h : ∀ f, 0 ≤ f → f < P → fst f + 3 ≤ fst (f + 1)) : ∀ (n : Nat) (f g : Int), 0 ≤ f → (g - f).toNat = n → f ≤ g → g ≤ P → fst f + 3 * (g - f) ≤ fst g := by
  intro n
  induction n with
  | zero =>
    intro f g h0 hn h1 h2
    obtain rfl : f = g := by omega
    omega
  | succ n ih =>
    intro f g h0 hn h1 h2
    have a := h f h0 (by omega)
    have b := ih (f + 1) g (by omega) (by omega) (by omega) h2
    omega
theorem GP.mono {A : Net} (h : GP A) {f g : Int} (h0 : 0 ≤ f) (h1 : f ≤ g) (h2 : g ≤ A 0 1) : A 2 f + 3 * (g - f) ≤ A 2 g := mono_fst h.2.2.1 _ f g h0 rfl h1 h2
theorem GP.n0 {A : Net} (h : GP A) : 0 ≤ nN A := by
  have h0 := h.1
  have := h.mono (f := 0) (g := A 0 1) (by omega) h.1 (by omega)
  have := h.2.1
  unfold nN
  omega
theorem GP.le {A : Net} (h : GP A) {f : Int} (h0 : 0 ≤ f) (h1 : f ≤ A 0 1) : 0 ≤ A 2 f ∧ A 2 f ≤ nN A := by
  have a := h.mono (f := 0) (g := f) (by omega) h0 h1
  have b := h.mono (f := f) (g := A 0 1) h0 h1 (by omega)
  have := h.2.1
  unfold nN
  omega
/-- a step lies in one plate alone -/
theorem GP.pl {A : Net} (h : GP A) {f s : Int} (h0 : 0 ≤ f) (h1 : f < A 0 1) (h2 : A 2 f ≤ s) (h3 : s < A 2 (f + 1)) : A 4 s = f := by
  have a := h.le h0 (by omega)
  have b := h.le (f := f + 1) (by omega) (by omega)
  have c := h.2.2.2 s (by omega) (by omega)
  rcases Int.lt_trichotomy (A 4 s) f with q | q | q
  · have := h.mono (f := A 4 s + 1) (g := f) (by omega) (by omega) (by omega)
    omega
  · exact q
  · have := h.mono (f := f + 1) (g := A 4 s) (by omega) (by omega) (by omega)
    omega
theorem GP.nxr {A : Net} (h : GP A) {s : Int} (h0 : 0 ≤ s) (h1 : s < nN A) : (0 ≤ nx A s ∧ nx A s < nN A) ∧ A 4 (nx A s) = A 4 s ∧ nx A s ≠ s ∧ A 2 (A 4 s) ≤ nx A s ∧ nx A s < A 2 (A 4 s + 1) := by
  have c := h.2.2.2 s h0 h1
  have d := h.2.2.1 (A 4 s) c.1.1 c.1.2
  have a := h.le (f := A 4 s) c.1.1 (by omega)
  have b := h.le (f := A 4 s + 1) (by omega) (by omega)
  have key : A 2 (A 4 s) ≤ nx A s ∧ nx A s < A 2 (A 4 s + 1) ∧ nx A s ≠ s := by
    unfold nx nxF
    split <;> omega
  exact ⟨by omega, h.pl c.1.1 c.1.2 key.1 key.2.1, key.2.2, key.1, key.2.1⟩
theorem GP.pvr {A : Net} (h : GP A) {s : Int} (h0 : 0 ≤ s) (h1 : s < nN A) : (0 ≤ pv A s ∧ pv A s < nN A) ∧ A 4 (pv A s) = A 4 s ∧ A 2 (A 4 s) ≤ pv A s ∧ pv A s < A 2 (A 4 s + 1) := by
  have c := h.2.2.2 s h0 h1
  have d := h.2.2.1 (A 4 s) c.1.1 c.1.2
  have a := h.le (f := A 4 s) c.1.1 (by omega)
  have b := h.le (f := A 4 s + 1) (by omega) (by omega)
  have key : A 2 (A 4 s) ≤ pv A s ∧ pv A s < A 2 (A 4 s + 1) := by
    unfold pv pvF
    split <;> omega
  exact ⟨by omega, h.pl c.1.1 c.1.2 key.1 key.2, key.1, key.2⟩
theorem GP.nxpv {A : Net} (h : GP A) {s : Int} (h0 : 0 ≤ s) (h1 : s < nN A) : nx A (pv A s) = s := by
  have c := h.2.2.2 s h0 h1
  have d := h.2.2.1 (A 4 s) c.1.1 c.1.2
  have e := h.pvr h0 h1
  unfold nx nxF
  rw [e.2.1]
  generalize hp : pv A s = p at *
  unfold pv pvF at hp
  split at hp <;> split <;> omega
theorem GP.pvnx {A : Net} (h : GP A) {s : Int} (h0 : 0 ≤ s) (h1 : s < nN A) : pv A (nx A s) = s := by
  have c := h.2.2.2 s h0 h1
  have d := h.2.2.1 (A 4 s) c.1.1 c.1.2
  have e := h.nxr h0 h1
  unfold pv pvF
  rw [e.2.1]
  generalize hp : nx A s = p at *
  unfold nx nxF at hp
  split at hp <;> split <;> omega
theorem GP.nx2 {A : Net} (h : GP A) {s : Int} (h0 : 0 ≤ s) (h1 : s < nN A) : nx A (nx A s) ≠ s := by
  have c := h.2.2.2 s h0 h1
  have d := h.2.2.1 (A 4 s) c.1.1 c.1.2
  have e := h.nxr h0 h1
  intro q
  unfold nx nxF at q
  have e2 : A 4 (nxF (A 2) (A 4) s) = A 4 s := e.2.1
  unfold nxF at e2
  rw [e2] at q
  split at q
  · split at q <;> omega
  · split at q <;> omega
/-- counting -/
noncomputable def ct (p : Int → Prop) : Nat → Nat
  | 0 => 0
  | n + 1 => ct p n + @ite Nat (p (n : Int)) (Classical.propDecidable _) 1 0
theorem ct_t {p : Int → Prop} {n : Nat} (h : p (n : Int)) : ct p (n + 1) = ct p n + 1 := by rw [ct, if_pos h]
theorem ct_f {p : Int → Prop} {n : Nat} (h : ¬ p (n : Int)) : ct p (n + 1) = ct p n := by rw [ct, if_neg h, Nat.add_zero]
theorem ct_cg {p q : Int → Prop} : ∀ (n : Nat), (∀ i : Int, 0 ≤ i → i < n → (p i ↔ q i)) → ct p n = ct q n
  | 0, _ => rfl
  | n + 1, h => by
    have ih := ct_cg n (fun i a b => h i a (by omega))
    by_cases hp : p (n : Int)
    · rw [ct_t hp, ct_t ((h n (by omega) (by omega)).mp hp), ih]
    · rw [ct_f hp, ct_f (fun q => hp ((h n (by omega) (by omega)).mpr q)), ih]
theorem ct_mono {p : Int → Prop} : ∀ (n k : Nat), n ≤ k → ct p n ≤ ct p k
  | n, 0, h => by obtain rfl : n = 0 := by omega
                  omega
  | n, k + 1, h => by
    by_cases hk : n = k + 1
    · subst hk; omega
    · have ih := ct_mono (p := p) n k (by omega)
      rw [ct]
      omega
theorem ct_lt {p : Int → Prop} {n k : Nat} (h : n < k) (hp : p (n : Int)) : ct p n < ct p k := by
  have := ct_mono (p := p) (n + 1) k (by omega)
  rw [ct_t hp] at this
  omega
theorem ct_zero {p : Int → Prop} : ∀ (n : Nat), ct p n = 0 ↔ ∀ i : Int, 0 ≤ i → i < n → ¬ p i
  | 0 => by
    constructor
    · intro _ i a b; omega
    · intro _; rfl
  | n + 1 => by
    have ih := ct_zero (p := p) n
    constructor
    · intro h i a b
      by_cases hp : p (n : Int)
      · rw [ct_t hp] at h; omega
      · rw [ct_f hp] at h
        by_cases hi : i = n
        · subst hi; exact hp
        · exact ih.mp h i a (by omega)
    · intro h
      rw [ct_f (h n (by omega) (by omega))]
      exact ih.mpr (fun i a b => h i a (by omega))
theorem ct_le {p : Int → Prop} : ∀ (n : Nat), ct p n ≤ n
  | 0 => Nat.le_refl 0
  | n + 1 => by
    have := ct_le (p := p) n
    rw [ct]
    split <;> omega
/-- what is put apart into the places that count is at most so many -/
theorem ct_inj {p : Int → Prop} : ∀ (n m : Nat) (u : Nat → Int), (∀ i, i < m → (0 ≤ u i ∧ u i < n) ∧ p (u i)) → (∀ i j, i < m → j < m → u i = u j → i = j) → m ≤ ct p n
  | 0, m, u, h, _ => by
    cases m with
    | zero => omega
    | succ m => have := (h 0 (by omega)).1; omega
  | n + 1, m, u, h, hi => by
    by_cases hx : ∃ i, i < m ∧ u i = n
    · obtain ⟨i, him, hui⟩ := hx
      have hp : p (n : Int) := hui ▸ (h i him).2
      rw [ct_t hp]
      have hne : ∀ j, j < m → j ≠ i → u j < n := by
        intro j hj hji
        have h1 := (h j hj).1
        have h2 : u j ≠ n := fun q => hji (hi j i hj him (q.trans hui.symm))
        omega
      have := ct_inj n (m - 1) (fun j => if j = i then u (m - 1) else u j) (fun j hj => by
        show (0 ≤ (if j = i then u (m - 1) else u j) ∧ (if j = i then u (m - 1) else u j) < n) ∧ p (if j = i then u (m - 1) else u j)
        by_cases hji : j = i
        · rw [if_pos hji]
          have h1 := h (m - 1) (by omega)
          exact ⟨⟨h1.1.1, hne (m - 1) (by omega) (by omega)⟩, h1.2⟩
        · rw [if_neg hji]
          have h1 := h j (by omega)
          exact ⟨⟨h1.1.1, hne j (by omega) hji⟩, h1.2⟩) (fun a b ha hb hab => by
        have hab : (if a = i then u (m - 1) else u a) = (if b = i then u (m - 1) else u b) := hab
        by_cases h1 : a = i
        · by_cases h2 : b = i
          · omega
          · rw [if_pos h1, if_neg h2] at hab
            have := hi (m - 1) b (by omega) (by omega) hab
            omega
        · by_cases h2 : b = i
          · rw [if_neg h1, if_pos h2] at hab
            have := hi a (m - 1) (by omega) (by omega) hab
            omega
          · rw [if_neg h1, if_neg h2] at hab
            exact hi a b (by omega) (by omega) hab)
      omega
    · have := ct_inj (p := p) n m u (fun i hm => by
        have h1 := h i hm
        have h2 : u i ≠ n := fun q => hx ⟨i, hm, q⟩
        exact ⟨⟨h1.1.1, by omega⟩, h1.2⟩) hi
      have := ct_mono (p := p) n (n + 1) (by omega)
      omega
/-- as many put apart as there are: each is met -/
theorem ct_all {p : Int → Prop} {n m : Nat} {u : Nat → Int} (h : ∀ i, i < m → (0 ≤ u i ∧ u i < n) ∧ p (u i)) (hi : ∀ i j, i < m → j < m → u i = u j → i = j) (hm : ct p n ≤ m) {s : Int} (h0 : 0 ≤ s) (h1 : s < n) (hs : p s) : ∃ i, i < m ∧ u i = s := by
  apply Classical.byContradiction
  intro hx
  have := ct_inj (p := p) n (m + 1) (fun i => if i = m then s else u i) (fun i him => by
    show (0 ≤ (if i = m then s else u i) ∧ (if i = m then s else u i) < n) ∧ p (if i = m then s else u i)
    by_cases q : i = m
    · rw [if_pos q]; exact ⟨⟨h0, h1⟩, hs⟩
    · rw [if_neg q]; exact h i (by omega)) (fun a b ha hb hab => by
    have hab : (if a = m then s else u a) = (if b = m then s else u b) := hab
    by_cases q1 : a = m
    · by_cases q2 : b = m
      · omega
      · rw [if_pos q1, if_neg q2] at hab
        exact absurd ⟨b, by omega, hab.symm⟩ hx
    · by_cases q2 : b = m
      · rw [if_neg q1, if_pos q2] at hab
        exact absurd ⟨a, by omega, hab⟩ hx
      · rw [if_neg q1, if_neg q2] at hab
        exact hi a b (by omega) (by omega) hab)
  omega
/-- again and again -/
def it (f : Int → Int) : Nat → Int → Int
  | 0, x => x
  | n + 1, x => f (it f n x)
theorem it_s (f : Int → Int) : ∀ (n : Nat) (x : Int), it f (n + 1) x = it f n (f x)
  | 0, _ => rfl
  | n + 1, x => by
    show f (it f (n + 1) x) = f (it f n (f x))
    rw [it_s f n x]
theorem it_add (f : Int → Int) (a : Nat) (x : Int) : ∀ b : Nat, it f (b + a) x = it f b (it f a x)
  | 0 => by simp [it]
  | b + 1 => by
    rw [show b + 1 + a = (b + a) + 1 by omega]
    show f (it f (b + a) x) = f (it f b (it f a x))
    rw [it_add f a x b]
/-- first return: without it before m, all below m are apart -/
theorem it_apart {f : Int → Int} {D : Int → Prop} (hD : ∀ x, D x → D (f x)) (hf : ∀ x y, D x → D y → f x = f y → x = y) {x : Int} (hx : D x) {m : Nat} (hm : ∀ k, 0 < k → k < m → it f k x ≠ x) : ∀ i j, i < m → j < m → it f i x = it f j x → i = j := by
  have hd : ∀ k, D (it f k x) := by
    intro k
    induction k with
    | zero => exact hx
    | succ k ih => exact hD _ ih
  have key : ∀ i k, it f (i + k) x = it f i x → it f k x = x := by
    intro i
    induction i with
    | zero => intro k h; simpa [it] using h
    | succ i ih =>
      intro k h
      rw [show i + 1 + k = (i + k) + 1 by omega] at h
      exact ih k (hf _ _ (hd _) (hd _) h)
  intro i j hi hj h
  rcases Nat.lt_trichotomy i j with q | q | q
  · exfalso
    have := key i (j - i) (by rw [show i + (j - i) = j by omega]; exact h.symm)
    exact hm (j - i) (by omega) (by omega) this
  · exact q
  · exfalso
    have := key j (i - j) (by rw [show j + (i - j) = i by omega]; exact h)
    exact hm (i - j) (by omega) (by omega) this
/-- every number below the count is met -/
theorem ct_surj {p : Int → Prop} : ∀ (n e : Nat), e < ct p n → ∃ s : Nat, s < n ∧ p (s : Int) ∧ ct p s = e
  | 0, e, h => by simp [ct] at h
  | n + 1, e, h => by
    by_cases hp : p (n : Int)
    · rw [ct_t hp] at h
      by_cases he : e = ct p n
      · exact ⟨n, by omega, hp, he.symm⟩
      · obtain ⟨s, h1, h2, h3⟩ := ct_surj (p := p) n e (by omega)
        exact ⟨s, by omega, h2, h3⟩
    · rw [ct_f hp] at h
      obtain ⟨s, h1, h2, h3⟩ := ct_surj n e h
      exact ⟨s, by omega, h2, h3⟩
/-- what is listed is at least so many -/
theorem ct_cov {p : Int → Prop} : ∀ (n m : Nat) (u : Nat → Int), (∀ s : Int, 0 ≤ s → s < n → p s → ∃ i, i < m ∧ u i = s) → ct p n ≤ m
  | 0, m, u, _ => by simp [ct]
  | n + 1, m, u, h => by
    by_cases hp : p (n : Int)
    · rw [ct_t hp]
      obtain ⟨i, him, hui⟩ := h n (by omega) (by omega) hp
      have := ct_cov (p := p) n (m - 1) (fun j => if j = i then u (m - 1) else u j) (fun s a b hs => by
        obtain ⟨j, hj, hju⟩ := h s a (by omega) hs
        have hji : j ≠ i := fun q => by subst q; omega
        by_cases hjm : j = m - 1
        · exact ⟨i, by omega, by show (if i = i then u (m - 1) else u i) = s; rw [if_pos rfl, ← hjm]; exact hju⟩
        · exact ⟨j, by omega, by show (if j = i then u (m - 1) else u j) = s; rw [if_neg hji]; exact hju⟩)
      omega
    · rw [ct_f hp]
      exact ct_cov n m u (fun s a b hs => h s a (by omega) hs)
theorem ct_add {p q r : Int → Prop} : ∀ (n : Nat), (∀ i : Int, 0 ≤ i → i < n → (r i ↔ p i ∨ q i) ∧ ¬ (p i ∧ q i)) → ct r n = ct p n + ct q n
  | 0, _ => rfl
  | n + 1, h => by
    have ih := ct_add n (fun i a b => h i a (by omega))
    have hn := h n (by omega) (by omega)
    by_cases hp : p (n : Int)
    · have hq : ¬ q (n : Int) := fun z => hn.2 ⟨hp, z⟩
      rw [ct_t hp, ct_f hq, ct_t (hn.1.mpr (Or.inl hp)), ih]
      omega
    · by_cases hq : q (n : Int)
      · rw [ct_f hp, ct_t hq, ct_t (hn.1.mpr (Or.inr hq)), ih]
        omega
      · rw [ct_f hp, ct_f hq, ct_f (fun z => (hn.1.mp z).elim hp hq), ih]
theorem ct_full {p : Int → Prop} : ∀ (n : Nat), (∀ i : Int, 0 ≤ i → i < n → p i) → ct p n = n
  | 0, _ => rfl
  | n + 1, h => by rw [ct_t (h n (by omega) (by omega)), ct_full n (fun i a b => h i a (by omega))]
