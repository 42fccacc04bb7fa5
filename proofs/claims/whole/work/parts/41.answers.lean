/-! WHAT IS ANSWERED, by the base, the moves and the fault -/
noncomputable abbrev Lv (μ : Mm) (l : Int) : Net := lev (Nt μ 0) l.toNat
noncomputable abbrev Wn (μ : Mm) (l c a : Int) : Int := nm μ l.toNat c a
def wdA (w : Int → Int → Int) (p q r : Int) : Int := w p 0 * (w q 1 * w r 2 - w q 2 * w r 1) + w p 1 * (w q 2 * w r 0 - w q 0 * w r 2) + w p 2 * (w q 0 * w r 1 - w q 1 * w r 0)
def sqA (w : Int → Int → Int) (x y z c : Int) : Int := (w c 0 - x) * (w c 0 - x) + (w c 1 - y) * (w c 1 - y) + (w c 2 - z) * (w c 2 - z)
noncomputable def manyA (μ : Mm) (l w k : Int) : Int := if ¬ (0 ≤ l ∧ l < 4) then -101 else if ¬ (0 ≤ w ∧ w ≤ 5) then -102 else if k ≠ 0 then -103 else if w = 0 then Lv μ l 0 0 else if w = 1 then Lv μ l 0 2 else if w = 2 then Lv μ l 0 1 else if w = 3 then flo (fun c a => if Lv μ l 8 c = 4 then a else a + 1) 0 (Lv μ l 0 0) 0 else if w = 4 then flo (fun f a => if Lv μ l 2 (f + 1) - Lv μ l 2 f = 4 then a else a + 1) 0 (Lv μ l 0 1) 0 else Lv μ l 0 0 + Lv μ l 0 1 - Lv μ l 0 2
noncomputable def atA (μ : Mm) (l c a k : Int) : Int := if ¬ ((0 ≤ l ∧ l < 4) ∧ (0 ≤ a ∧ a < 3)) then -2000000001 else if k ≠ 0 then -2000000003 else if ¬ (0 ≤ c ∧ c < Lv μ l 0 0) then -2000000001 else Wn μ l c a
noncomputable def edgeA (μ : Mm) (l e s k : Int) : Int := if ¬ (0 ≤ l ∧ l < 4) then -101 else if ¬ (s = 0 ∨ s = 1) then -102 else if k ≠ 0 then -103 else if ¬ (0 ≤ e ∧ e < Lv μ l 0 2) then -101 else if s = 0 then Lv μ l 3 (Lv μ l 7 e) else Lv μ l 3 (nx (Lv μ l) (Lv μ l 7 e))
noncomputable def sizeA (μ : Mm) (l f k : Int) : Int := if ¬ (0 ≤ l ∧ l < 4) then -101 else if k ≠ 0 then -103 else if ¬ (0 ≤ f ∧ f < Lv μ l 0 1) then -101 else Lv μ l 2 (f + 1) - Lv μ l 2 f
noncomputable def ringA (μ : Mm) (l f j k : Int) : Int := if ¬ (0 ≤ l ∧ l < 4) then -101 else if k ≠ 0 then -103 else if ¬ (0 ≤ f ∧ f < Lv μ l 0 1) then -101 else if ¬ (0 ≤ j ∧ j < Lv μ l 2 (f + 1) - Lv μ l 2 f) then -1 else Lv μ l 3 (Lv μ l 2 f + j)
noncomputable def middleA (μ : Mm) (l f a k : Int) : Int := if ¬ ((0 ≤ l ∧ l < 4) ∧ (0 ≤ a ∧ a < 3)) then -2000000001 else if k ≠ 0 then -2000000003 else if ¬ (0 ≤ f ∧ f < Lv μ l 0 1) then -2000000001 else flo (fun s x => x + Wn μ l (Lv μ l 3 s) a) (Lv μ l 2 f) (Lv μ l 2 (f + 1)) 0
noncomputable def boxA (μ : Mm) (l a s k : Int) : Int := if ¬ ((0 ≤ l ∧ l < 4) ∧ (0 ≤ a ∧ a < 3)) then -2000000001 else if ¬ (s = 0 ∨ s = 1) then -2000000002 else if k ≠ 0 then -2000000003 else if s = 0 then flo (fun c x => min x (Wn μ l c a)) 1 (Lv μ l 0 0) (Wn μ l 0 a) else flo (fun c x => max x (Wn μ l c a)) 1 (Lv μ l 0 0) (Wn μ l 0 a)
noncomputable def roomA (μ : Mm) (l k : Int) : Int := if ¬ (0 ≤ l ∧ l < 4) then -101 else if k ≠ 0 then -103 else flo (fun f x => flo (fun s y => y + wdA (Wn μ l) (Lv μ l 3 (Lv μ l 2 f)) (Lv μ l 3 s) (Lv μ l 3 (s + 1))) (Lv μ l 2 f + 1) (Lv μ l 2 (f + 1) - 1) x) 0 (Lv μ l 0 1) 0
noncomputable def cutA (μ : Mm) (l a v k : Int) : Int := if ¬ ((0 ≤ l ∧ l < 4) ∧ (0 ≤ a ∧ a < 3)) then -101 else if k ≠ 0 then -103 else flo (fun e x => if (Wn μ l (Lv μ l 3 (Lv μ l 7 e)) a < v ↔ Wn μ l (Lv μ l 3 (nx (Lv μ l) (Lv μ l 7 e))) a < v) then x else x + 1) 0 (Lv μ l 0 2) 0
noncomputable def nearA (μ : Mm) (l x y z k : Int) : Int := if ¬ (0 ≤ l ∧ l < 4) then -101 else if ¬ ((-100000 ≤ x ∧ x ≤ 100000) ∧ (-100000 ≤ y ∧ y ≤ 100000) ∧ (-100000 ≤ z ∧ z ≤ 100000)) then -102 else if k ≠ 0 then -103 else (flo (fun c q => if sqA (Wn μ l) x y z c < q.2 then (c, sqA (Wn μ l) x y z c) else q) 1 (Lv μ l 0 0) (0, sqA (Wn μ l) x y z 0)).1
noncomputable def digestA (μ : Mm) (k : Int) : Int :=
  let h := 31 * flo (fun m a => 31 * (31 * (31 * (31 * a + μ 9 0 m) + μ 10 0 (3 * m + 0)) + μ 10 0 (3 * m + 1)) + μ 10 0 (3 * m + 2)) 0 (μ 7 0 3) (flo (fun f a => flo (fun s b => 31 * b + μ 14 0 s) (μ 13 0 f) (μ 13 0 (f + 1)) (31 * a + (μ 13 0 (f + 1) - μ 13 0 f))) 0 (μ 11 0 1) (flo (fun i a => 31 * a + μ 12 0 i) 0 (3 * μ 11 0 0) 149)) + k
  if k ≠ 0 then h else flo (fun i a => 31 * a + Wn μ 2 (i / 3) (i % 3)) 0 (3 * Lv μ 2 0 0) h
/-- the class's own state, right -/
def XI (μ : Mm) : Prop := XB μ ∧ XN μ ∧ Mv μ ∧ XC μ
/-- what a query may change of the class -/
def FX (μ ν : Mm) : Prop := ∀ (k : Nat) (l1 i : Int), ¬ (k = 3 ∨ k = 5 ∨ k = 6 ∨ (11 ≤ k ∧ k ≤ 20 ∧ ¬ (l1 = 0 ∧ k ≤ 15 ∧ ¬ (k = 11 ∧ i = 2)))) → ν k l1 i = μ k l1 i
theorem FX.sb {μ ν : Mm} (h : FX μ ν) : SB μ ν := fun k l i z => h k l i (by omega)
theorem FX.rf {μ : Mm} : FX μ μ := fun _ _ _ _ => rfl
theorem XI.go {μ ν : Mm} (h : XI μ) (f : FX μ ν) (hx : XC ν) : XI ν := ⟨f.sb.xb h.1, f.sb.xn h.2.1, f.sb.mv h.2.2.1, hx⟩
/-- a query's end: the answer by whatever the fault is -/
abbrev QQ (μ : Mm) (f : Int → Vv) : Option Vv → Mm → Prop := fun r μ' => FX μ μ' ∧ XI μ' ∧ ∀ k p, IsF (Nt μ 0) k p → r = some (f k)
theorem lev_pos {A : Net} (g : Good (bN A)) (hP : A 0 1 ≠ 0) : ∀ l, 0 < nN (lev A l)
  | 0 => by
    have a := g.1.2.1
    have b := a.mono (f := 0) (g := bN A 0 1) (by omega) a.1 (by omega)
    have c : bN A 0 1 = A 0 1 := rfl
    have d : bN A 2 0 = 0 := a.2.1
    have e : nN (bN A) = bN A 2 (bN A 0 1) := rfl
    have f := a.1
    show 0 < nN (bN A)
    omega
  | l + 1 => by
    have := lev_pos g hP l
    show 0 < nN (rfA (lev A l))
    rw [rf_n (lev_good g l).1]
    omega
theorem Good.c1 {A : Net} (g : Good A) (h : 0 < nN A) : 1 ≤ A 0 0 := by
  have := (g.1.b1 (s := 0) (by omega) h).1
  omega
/-- what is known of a level that is reached -/
theorem XL {μ ν : Mm} {v : Int} (hI : XI μ) (f : FX μ ν) (hx : XC ν) (h4 : ν 3 0 4 = 1) (h5 : ν 5 0 1 = 0) (hv : 0 ≤ v ∧ v < 4) (h6 : v ≤ ν 3 0 6) :
    NB1 ν v ∧ NB2 ν v ∧ NS ν v ∧ 1 ≤ ν 11 v 0 ∧ Good (Lv μ v) ∧ Agr (Lv μ v) (Nt ν v) ∧ (∀ c a, 0 ≤ c → c < ν 11 v 0 → 0 ≤ a → a < 3 → ν 12 v (3 * c + a) = Wn μ v c a) ∧ IsF (Nt μ 0) 0 (ν 5 0 2) := by
  have S := f.sb
  have hxr := hx.resolve_left (fun q => by omega)
  have hF : IsF (Nt ν 0) 0 (ν 5 0 2) := by have z := hxr.2.1; rw [h5] at z; exact z
  have hXb := S.xb hI.1
  have hg := IsF.good hXb.1 hF
  obtain ⟨j, hj⟩ : ∃ j : Nat, v = (j : Int) := ⟨v.toNat, by omega⟩
  have hr := hxr.2.2.1
  have aA := (hxr.2.2.2.2 h5).1 j (by omega)
  have hNm := (hxr.2.2.2.2 h5).2 j (by omega)
  have gA := lev_good hg.1 j
  have gB := aA.good gA
  have cp := lev_cap hg.1 hXb.2 j (by omega)
  have q0 : lev (Nt ν 0) j 0 0 = ν 11 (j : Int) 0 := aA.1.1
  have q1 : lev (Nt ν 0) j 0 1 = ν 11 (j : Int) 1 := aA.1.2.1
  have q2 : lev (Nt ν 0) j 0 2 = ν 11 (j : Int) 2 := aA.2.1
  have qn : nN (lev (Nt ν 0) j) = ν 13 (j : Int) (ν 11 (j : Int) 1) := aA.n gA.1.2.1.1
  obtain ⟨cp1, cp2, cp3, cp4⟩ := cp
  rw [q0] at cp1
  rw [q1] at cp2
  rw [qn] at cp3
  rw [q2] at cp4
  have nb := gB.nb cp1 cp2 cp3 cp4
  have hl : v.toNat = j := by omega
  have e1 : Lv μ v = lev (Nt ν 0) j := by show lev (Nt μ 0) v.toNat = _; rw [hl, S.leve]
  have e2 : ∀ c a, Wn μ v c a = nm ν j c a := fun c a => by show nm μ v.toNat c a = _; rw [hl, S.nme]
  have hb := bnd_le j (by omega)
  have c1 := gA.c1 (lev_pos hg.1 hg.2 j)
  rw [e1]
  subst hj
  refine ⟨nb.1, nb.2, fun i i0 i1 => ?_, by rw [← q0]; exact c1, gA, aA, fun c a c0 c1 a0 a1 => by rw [e2]; exact hNm c a c0 c1 a0 a1, IsF_cg S.bse hF⟩
  have z := hNm (i / 3) (i % 3) (by omega) (by omega) (by omega) (by omega)
  rw [show 3 * (i / 3) + i % 3 = i by omega] at z
  have w := nm_in (S.xn hI.2.1) (S.mv hI.2.2.1) hg.1 j (i / 3) (i % 3) (by omega) (by rw [q0]; omega) (by omega) (by omega)
  omega
theorem Fi_ex {p : Int → Prop} {N : Int} : ∀ (n : Nat) (i : Int), 0 ≤ i → (N - i).toNat = n → (∀ j, 0 ≤ j → j < i → ¬ p j) → No p N ∨ ∃ r, Fi p N r := by
  intro n
  induction n with
  | zero => intro i h0 hn hi; exact Or.inl (fun j a b => hi j a (by omega))
  | succ n ih =>
    intro i h0 hn hi
    by_cases q : p i
    · exact Or.inr ⟨i, ⟨h0, by omega⟩, q, hi⟩
    · refine ih (i + 1) (by omega) (by omega) (fun j a b => ?_)
      by_cases w : j = i
      · subst w; exact q
      · exact hi j a (by omega)
theorem No_or (p : Int → Prop) (N : Int) : No p N ∨ ∃ r, Fi p N r := Fi_ex _ 0 (by omega) rfl (fun j a b => by omega)
theorem IsF_ex (A : Net) : ∃ k p, IsF A k p := by
  by_cases q : A 0 1 = 0
  · exact ⟨1, -1, Or.inl ⟨q, rfl, rfl⟩⟩
  rcases No_or (fTw A) (A 0 1) with n2 | ⟨r, h⟩
  rcases No_or (fDb A) (A 0 1) with n3 | ⟨r, h⟩
  rcases No_or (fOp A) (A 0 1) with n4 | ⟨r, h⟩
  rcases No_or (fLo A) (A 0 0) with n5 | ⟨r, h⟩
  rcases No_or (fPi A) (A 0 0) with n6 | ⟨r, h⟩
  rcases No_or (fTh A) (A 0 0) with n7 | ⟨r, h⟩
  · exact ⟨0, -1, Or.inr ⟨q, Or.inr ⟨n2, Or.inr ⟨n3, Or.inr ⟨n4, Or.inr ⟨n5, Or.inr ⟨n6, Or.inr ⟨n7, rfl, rfl⟩⟩⟩⟩⟩⟩⟩⟩
  · exact ⟨7, r, Or.inr ⟨q, Or.inr ⟨n2, Or.inr ⟨n3, Or.inr ⟨n4, Or.inr ⟨n5, Or.inr ⟨n6, Or.inl ⟨rfl, h⟩⟩⟩⟩⟩⟩⟩⟩
  · exact ⟨6, r, Or.inr ⟨q, Or.inr ⟨n2, Or.inr ⟨n3, Or.inr ⟨n4, Or.inr ⟨n5, Or.inl ⟨rfl, h⟩⟩⟩⟩⟩⟩⟩
  · exact ⟨5, r, Or.inr ⟨q, Or.inr ⟨n2, Or.inr ⟨n3, Or.inr ⟨n4, Or.inl ⟨rfl, h⟩⟩⟩⟩⟩⟩
  · exact ⟨4, r, Or.inr ⟨q, Or.inr ⟨n2, Or.inr ⟨n3, Or.inl ⟨rfl, h⟩⟩⟩⟩⟩
  · exact ⟨3, r, Or.inr ⟨q, Or.inr ⟨n2, Or.inl ⟨rfl, h⟩⟩⟩⟩
  · exact ⟨2, r, Or.inr ⟨q, Or.inl ⟨rfl, h⟩⟩⟩
theorem flo_eq {α : Type} {f g : Int → α → α} {i e i' e' : Int} {a a' : α} (hi : i = i') (he : e = e') (ha : a = a') (h : ∀ j b, i ≤ j → j < e → f j b = g j b) : flo f i e a = flo g i' e' a' := by
  subst hi; subst he; subst ha
  exact flo_cg _ i a rfl h
