/-! THE SMALL MACHINE. A value: an int or a long as an integer (the machine's number is its remainder), a cell by its kind and number, null. The memory: kind, number, place -> integer. Everything that the class and the reference make is made once: the cells are known. -/
abbrev Vv : Type := Int ⊕ (Int ⊕ Option (Nat × Int))
abbrev vI (a : Int) : Vv := .inl a
abbrev vL (a : Int) : Vv := .inr (.inl a)
abbrev vR (k : Nat) (l : Int) : Vv := .inr (.inr (some (k, l)))
abbrev vN : Vv := .inr (.inr none)
abbrev Mm : Type := Nat → Int → Int → Int
abbrev inR (a : Int) : Prop := -2147483648 ≤ a ∧ a < 2147483648
abbrev inL (a : Int) : Prop := -9223372036854775808 ≤ a ∧ a < 9223372036854775808
def mset (μ : Mm) (k : Nat) (l i v : Int) : Mm := fun k' l' i' => if k' = k ∧ l' = l ∧ i' = i then v else μ k' l' i'
theorem mset_eq {μ : Mm} {k : Nat} {l i v : Int} : mset μ k l i v k l i = v := by simp [mset]
theorem mset_ne {μ : Mm} {k k' : Nat} {l l' i i' v : Int} (h : ¬ (k' = k ∧ l' = l ∧ i' = i)) : mset μ k l i v k' l' i' = μ k' l' i' := by simp only [mset, if_neg h]
theorem mset_i {μ : Mm} {k : Nat} {l i i' v : Int} (h : i' ≠ i) : mset μ k l i v k l i' = μ k l i' := mset_ne (fun q => h q.2.2)
theorem mset_k {μ : Mm} {k k' : Nat} {l l' i i' v : Int} (h : k' ≠ k) : mset μ k l i v k' l' i' = μ k' l' i' := mset_ne (fun q => h q.1)
theorem mset_l {μ : Mm} {k k' : Nat} {l l' i i' v : Int} (h : l' ≠ l) : mset μ k l i v k' l' i' = μ k' l' i' := mset_ne (fun q => h q.2.1)
/-- the memory holds ints -/
def Can (μ : Mm) : Prop := ∀ k l i, inR (μ k l i)
theorem Can.st {μ : Mm} (h : Can μ) {k : Nat} {l i v : Int} (hv : inR v) : Can (mset μ k l i v) := by
  intro k' l' i'
  unfold mset
  split
  · exact hv
  · exact h k' l' i'
def capC (l : Int) : Int := if l = 0 then 14 else if l = 1 then 42 else if l = 2 then 84 else 168
def capP (l : Int) : Int := if l = 0 then 14 else if l = 1 then 28 else if l = 2 then 70 else 154
def capE (l : Int) : Int := if l = 0 then 42 else if l = 1 then 84 else if l = 2 then 168 else 336
theorem capC_in (l : Int) : 14 ≤ capC l ∧ capC l ≤ 168 := by
  unfold capC
  repeat' split
  all_goals omega
theorem capP_in (l : Int) : 14 ≤ capP l ∧ capP l ≤ 154 := by
  unfold capP
  repeat' split
  all_goals omega
theorem capE_in (l : Int) : 42 ≤ capE l ∧ capE l ≤ 336 := by
  unfold capE
  repeat' split
  all_goals omega
/-- the kinds of objects: the class's number, its fields (none: an int; some k: the cell of kind k of the same number) -/
def oS : Nat → Option (Nat × List (Option Nat))
  | 0 => some (5, [some 1, some 3, none])
  | 1 => some (3, [some 2, none, none])
  | 3 => some (4, [some 4, some 11, some 5, some 7, none, none, none])
  | 5 => some (0, [some 6, none, none])
  | 7 => some (1, [some 8, some 9, some 10, none])
  | 11 => some (2, [none, none, none, some 12, some 13, some 14, some 15, some 16, some 17, some 18, some 19, some 20])
  | 21 => some (6, [none, none, none, some 22, none, none, none, some 23, some 24, some 25, some 26, some 27, some 28, some 29, some 30, some 31, none, none, none, some 32, some 33])
  | _ => none
/-- the lengths of the arrays -/
def aL : Nat → Int → Int
  | 2, _ => 8
  | 4, _ => 4
  | 6, _ => 196
  | 8, _ => 40
  | 9, _ => 40
  | 10, _ => 120
  | 12, l => 3 * capC l
  | 13, l => capP l + 1
  | 14, l => 2 * capE l
  | 15, l => 2 * capE l
  | 16, l => 2 * capE l
  | 17, l => 2 * capE l
  | 18, l => capE l
  | 19, l => capC l
  | 20, l => capC l
  | 22, _ => 8
  | 23, _ => 4
  | 24, _ => 4
  | 25, _ => 4
  | 26, _ => 2400
  | 27, _ => 640
  | 28, _ => 640
  | 29, _ => 2800
  | 30, _ => 1400
  | 31, _ => 1400
  | 32, _ => 40
  | 33, _ => 120
  | _, _ => 0
theorem aL_in (k : Nat) (l : Int) : 0 ≤ aL k l ∧ aL k l < 2147483648 := by
  have h1 := capC_in l
  have h2 := capP_in l
  have h3 := capE_in l
  unfold aL
  split <;> omega
def cellsL : List (Nat × Int) := [(0, 0), (1, 0), (2, 0), (3, 0), (4, 0), (5, 0), (6, 0), (7, 0), (8, 0), (9, 0), (10, 0), (11, 0), (12, 0), (13, 0), (14, 0), (15, 0), (16, 0), (17, 0), (18, 0), (19, 0), (20, 0), (11, 1), (12, 1), (13, 1), (14, 1), (15, 1), (16, 1), (17, 1), (18, 1), (19, 1), (20, 1), (11, 2), (12, 2), (13, 2), (14, 2), (15, 2), (16, 2), (17, 2), (18, 2), (19, 2), (20, 2), (11, 3), (12, 3), (13, 3), (14, 3), (15, 3), (16, 3), (17, 3), (18, 3), (19, 3), (20, 3), (21, 0), (22, 0), (23, 0), (24, 0), (25, 0), (26, 0), (27, 0), (28, 0), (29, 0), (30, 0), (31, 0), (32, 0), (33, 0)]
def okV : Vv → Prop
  | .inr (.inr (some q)) => q ∈ cellsL
  | _ => True
def okO : Option Vv → Prop
  | some v => okV v
  | none => True
def okS (S : List Vv) : Prop := ∀ v ∈ S, okV v
def okL (L : List (Option Vv)) : Prop := ∀ v ∈ L, okO v
theorem okS.tl {v : Vv} {S : List Vv} (h : okS (v :: S)) : okS S := fun x hx => h x (List.mem_cons_of_mem _ hx)
theorem okS.hd {v : Vv} {S : List Vv} (h : okS (v :: S)) : okV v := h v List.mem_cons_self
theorem okS.cons {v : Vv} {S : List Vv} (h : okS S) (hv : okV v) : okS (v :: S) := fun x hx => (List.mem_cons.mp hx).elim (fun e => e ▸ hv) (h x)
theorem okS.nil : okS [] := fun _ h => absurd h List.not_mem_nil
theorem cells_closed : cellsL.all (fun q => match oS q.1 with | some x => x.2.all (fun f => match f with | some k => decide ((k, q.2) ∈ cellsL) | none => true) | none => true) = true := by decide +kernel
theorem okV_field {k : Nat} {l : Int} {ci j k' : Nat} {fs : List (Option Nat)} (h : okV (vR k l)) (ho : oS k = some (ci, fs)) (hj : fs[j]? = some (some k')) : okV (vR k' l) := by
  have h1 := List.all_eq_true.mp cells_closed (k, l) h
  simp only [ho] at h1
  have h2 := List.all_eq_true.mp h1 (some k') (List.mem_of_getElem? hj)
  exact (by simpa using h2 : (k', l) ∈ cellsL)
def eV (ad : Nat → Int → Nat) : Vv → Value
  | .inl a => .int (Int32.ofInt a)
  | .inr (.inl a) => .long (Int64.ofInt a)
  | .inr (.inr (some q)) => .ref (ad q.1 q.2)
  | .inr (.inr none) => .null
def fV (ad : Nat → Int → Nat) (f : Int → Int) (l : Int) (i : Nat) : Option Nat → Value
  | none => .int (Int32.ofInt (f (i : Int)))
  | some k => .ref (ad k l)
def eE (ad : Nat → Int → Nat) (cI cN : ClassId) (k : Nat) (l : Int) (f : Int → Int) : va_E := match oS k with
  | some o => .inr (o.1, o.2.mapIdx (fV ad f l))
  | none => if k = 4 then .inl (cN, 4, .inr (.inr (.inr (.inr (fun j => some (ad 11 (j : Int))))))) else .inl (cI, (aL k l).toNat, .inl (fun j => Int32.ofInt (f (j : Int))))
def eW (ad : Nat → Int → Nat) (cI cN : ClassId) (μ : Mm) : va_W := cellsL.map (fun q => (ad q.1 q.2, eE ad cI cN q.1 q.2 (μ q.1 q.2)))
/-- the addresses of the cells -/
def Aq (ad : Nat → Int → Nat) : Nat → Prop := fun q => ∃ x ∈ cellsL, q = ad x.1 x.2
theorem eW_at {ad : Nat → Int → Nat} {cI cN : ClassId} {k : Nat} {l : Int} (h : okV (vR k l)) : ∃ i : Nat, cellsL[i]? = some (k, l) ∧ ∀ μ : Mm, (eW ad cI cN μ)[i]? = some (ad k l, eE ad cI cN k l (μ k l)) := by
  obtain ⟨i, hi⟩ := List.getElem?_of_mem (show (k, l) ∈ cellsL from h)
  exact ⟨i, hi, fun μ => by simp [eW, hi]⟩
theorem eW_set {ad : Nat → Int → Nat} {cI cN : ClassId} {k : Nat} {l : Int} {i : Nat} {A : Nat → Prop} {μ μ' : Mm} (hi : cellsL[i]? = some (k, l)) (hD : va_D A (eW ad cI cN μ)) (hμ : ∀ (k' : Nat) (l' : Int), ¬ (k' = k ∧ l' = l) → μ' k' l' = μ k' l') {x : va_E} (hx : x = eE ad cI cN k l (μ' k l)) : (eW ad cI cN μ).set i (ad k l, x) = eW ad cI cN μ' := by
  subst hx
  have hlen : i < (eW ad cI cN μ).length := by
    have := (List.getElem?_eq_some_iff.mp hi).1
    simpa [eW] using this
  apply List.ext_getElem?
  intro j
  by_cases hj : j = i
  · subst hj
    rw [List.getElem?_set_self hlen]
    simp [eW, hi]
  · rw [List.getElem?_set_ne (Ne.symm hj)]
    cases hq : cellsL[j]? with
    | none => simp [eW, hq]
    | some q =>
      have e1 : (eW ad cI cN μ)[j]? = some (ad q.1 q.2, eE ad cI cN q.1 q.2 (μ q.1 q.2)) := by simp [eW, hq]
      have e2 : (eW ad cI cN μ)[i]? = some (ad k l, eE ad cI cN k l (μ k l)) := by simp [eW, hi]
      have hne : ¬ (q.1 = k ∧ q.2 = l) := fun h => hj (hD.1 j i _ _ e1 e2 (by rw [h.1, h.2]))
      rw [e1]
      simp only [eW, List.getElem?_map, hq, Option.map_some, hμ q.1 q.2 hne]
theorem eE_put {ad : Nat → Int → Nat} {cI cN : ClassId} {k : Nat} {l : Int} {ci j : Nat} {fs : List (Option Nat)} {f : Int → Int} {v : Int} (ho : oS k = some (ci, fs)) (hj : fs[j]? = some none) : (Sum.inr (ci, (fs.mapIdx (fV ad f l)).set j (.int (Int32.ofInt v))) : va_E) = eE ad cI cN k l (fun i => if i = (j : Int) then v else f i) := by
  unfold eE
  simp only [ho]
  congr 2
  apply List.ext_getElem?
  intro n
  have hl := (List.getElem?_eq_some_iff.mp hj).1
  by_cases hn : n = j
  · subst hn
    rw [List.getElem?_set_self (by simpa using hl)]
    simp [hj, fV]
  · rw [List.getElem?_set_ne (Ne.symm hn)]
    simp only [List.getElem?_mapIdx]
    cases hq : fs[n]? with
    | none => rfl
    | some q =>
      simp only [Option.map_some]
      cases q with
      | none =>
        have hn2 : ¬ (n : Int) = (j : Int) := by omega
        simp [fV, hn2]
      | some k' => simp [fV]
theorem nat_ofInt {a : Int} (h0 : 0 ≤ a) (h : a < 2147483648) : (Int32.ofInt a).toNatClampNeg = a.toNat := Int32.toNatClampNeg_ofInt_of_le (by omega) (by omega)
theorem vp_in_ofInt {a n : Int} (h0 : 0 ≤ a) (h : a < n) (hn : n < 2147483648) : vp_in (Int32.ofInt a) n.toNat := by
  unfold vp_in
  rw [nat_ofInt h0 (by omega), Int32.lt_iff_toInt_lt, Int32.toInt_ofInt_of_le (by omega) (by omega)]
  simp
  omega
theorem i_lt {a b : Int} (ha : inR a) (hb : inR b) : Int32.ofInt a < Int32.ofInt b ↔ a < b := by
  rw [Int32.lt_iff_toInt_lt, Int32.toInt_ofInt_of_le (by omega) (by omega), Int32.toInt_ofInt_of_le (by omega) (by omega)]
theorem i_le {a b : Int} (ha : inR a) (hb : inR b) : Int32.ofInt a ≤ Int32.ofInt b ↔ a ≤ b := by
  rw [Int32.le_iff_toInt_le, Int32.toInt_ofInt_of_le (by omega) (by omega), Int32.toInt_ofInt_of_le (by omega) (by omega)]
theorem i_eq {a b : Int} (ha : inR a) (hb : inR b) : Int32.ofInt a = Int32.ofInt b ↔ a = b := by
  rw [← Int32.toInt_inj, Int32.toInt_ofInt_of_le (by omega) (by omega), Int32.toInt_ofInt_of_le (by omega) (by omega)]
theorem l_lt {a b : Int} (ha : inL a) (hb : inL b) : Int64.ofInt a < Int64.ofInt b ↔ a < b := by
  rw [Int64.lt_iff_toInt_lt, Int64.toInt_ofInt_of_le (by omega) (by omega), Int64.toInt_ofInt_of_le (by omega) (by omega)]
theorem l_eq {a b : Int} (ha : inL a) (hb : inL b) : Int64.ofInt a = Int64.ofInt b ↔ a = b := by
  rw [← Int64.toInt_inj, Int64.toInt_ofInt_of_le (by omega) (by omega), Int64.toInt_ofInt_of_le (by omega) (by omega)]
theorem i_0 : Int32.ofInt 0 = 0 := by decide
/-- two words that no list of good words holds: the nest's private method, called from two classes -/
def nw1 : Cond := .methodLinkNest RX2 110 yX5_mix "MidSkins"
def nw2 : Cond := .methodLinkNest RX1 43 yX5_mix "MidSkins"
def Nw (s : State) : Prop := va_Nw nw1 s ∧ va_Nw nw2 s
theorem Nw.warm {s U : State} (hW : s.WarmedH U.vm) (h : Nw s) : Nw U := ⟨va_Nw.warmM hW h.1, va_Nw.warmM hW h.2⟩
theorem Nw.call {U : State} {g : JFrame} {mk : MethodId} {a : Array Value} (h : Nw U) : Nw (U.calling g mk a) := ⟨va_Nw.same rfl rfl h.1, va_Nw.same rfl rfl h.2⟩
abbrev tyL (cI cN : ClassId) : List (ClassId × FieldType) := [(cI, .int), (cN, .object RX2)]
/-- the room of a method that calls at most d deep -/
def Rm (d : Nat) : Room := { frames := d, cells := 0, slots := 0, locals := 45 * d }
/-- what is known while a method runs -/
def Cx (M : MI) (p : Program) (s : State) (m : MethodId) (args : Array Value) (meth : Method) (c : Code) (G : va_G) (cI cN : ClassId) : Prop :=
  p.tables.exec = Jvm.exec ∧ c.code = M.2.1 ∧ meth.sig.returnType = M.2.2.2 ∧ c.maxLocals = M.2.2.1 ∧ s.vm.findClass M.1.cls = some m.cls ∧ (∀ w ∈ Gw, w.before args s = true) ∧ meth.locks = false ∧ va_K G vwCl (tyL cI cN) s ∧ Nw s
def Wo (ad : Nat → Int → Nat) (G : va_G) (cI cN : ClassId) (μ : Mm) (H0 H : Heap) (locs : List Loc) : Prop := va_P G vwCl (eW ad cI cN μ) H ∧ va_D (Aq ad) (eW ad cI cN μ) ∧ va_S (Aq ad) H0 H locs
def Qm (G : va_G) (ad : Nat → Int → Nat) (cI cN : ClassId) (Q : Option Vv → Mm → Prop) : Array Value → State → Outcome → State → Prop := fun _ st oc t =>
  ∃ (r : Option Vv) (μ' : Mm), oc = .returned (r.map (eV ad)) ∧ okO r ∧ Can μ' ∧ Q r μ' ∧ va_P G vwCl (eW ad cI cN μ') t.heap ∧ va_D (Aq ad) (eW ad cI cN μ') ∧ va_F (Aq ad) st t
/-- the locals hold what is listed -/
def Lh (ad : Nat → Int → Nat) (ls : Array Slot) (n : Nat) (L : List (Option Vv)) : Prop := ls.size = n ∧ lv_wf ls ∧ ∀ (i : Nat) (v : Vv), L[i]? = some (some v) → ls[i]? = some (.val (eV ad v))
/-- THE SMALL MACHINE's judgement: method M, at pc, with these locals, this stack and this memory, comes to its end with Q -/
def Ev (M : MI) (d pc : Nat) (L : List (Option Vv)) (S : List Vv) (μ : Mm) (Q : Option Vv → Mm → Prop) : Prop :=
  ∀ (p : Program) (l : Launch) (e : Env) (s : State) (m : MethodId) (args : Array Value) (below : List Frame) (meth : Method) (c : Code) (H : Heap) (locs : List Loc) (ad : Nat → Int → Nat) (G : va_G) (cI cN : ClassId) (ls : Array Slot),
    Cx M p s m args meth c G cI cN → Can μ → okL L → okS S → Lh ad ls M.2.2.1 L → Wo ad G cI cN μ s.heap H locs →
    W p l e (Rm d) s m args below meth c H locs 0 0 (MQ below (Qm G ad cI cN Q) args s 0 0 (Aq ad)) (F0 m pc ls (S.map (eV ad)))
/-- its contract, as callers have it -/
def Mc (M : MI) (d : Nat) (as : List Vv) (μ : Mm) (Q : Option Vv → Mm → Prop) : Prop :=
  ∀ (l : Launch) (ad : Nat → Int → Nat) (G : va_G) (cI cN : ClassId), okS as → Can μ → Met l M.1 (.code M.1 M.2.1 M.2.2.1 M.2.2.2 :: Gw) (Rm d) (va_Pc (as.map (eV ad)) (fun U => va_P G vwCl (eW ad cI cN μ) U.heap ∧ va_D (Aq ad) (eW ad cI cN μ) ∧ va_K G vwCl (tyL cI cN) U ∧ Nw U)) (Qm G ad cI cN Q) 0 0 (Aq ad)
/-- an answer and a memory, known -/
abbrev Rt (r : Option Vv) (μ' : Mm) : Option Vv → Mm → Prop := fun r' μ'' => r' = r ∧ μ'' = μ'
section EV
variable {M : MI} {d pc : Nat} {L : List (Option Vv)} {S : List Vv} {μ : Mm} {Q : Option Vv → Mm → Prop}
theorem e_iadd {a b : Int} (hd : decode M.2.1 pc = .ok (.iadd, 1)) (k : Ev M d (pc + 1) L (vI (a + b) :: S) μ Q) : Ev M d pc L (vI b :: vI a :: S) μ Q := by
  intro p la e s m args below meth c H locs ad G cI cN ls hC hc hL hS hl hW
  refine lv_iadd hC.1 hC.2.1 hd ?_
  rw [← Int32.ofInt_add]
  exact k p la e s m args below meth c H locs ad G cI cN ls hC hc hL (hS.tl.tl.cons trivial) hl hW
theorem e_isub {a b : Int} (hd : decode M.2.1 pc = .ok (.isub, 1)) (k : Ev M d (pc + 1) L (vI (a - b) :: S) μ Q) : Ev M d pc L (vI b :: vI a :: S) μ Q := by
  intro p la e s m args below meth c H locs ad G cI cN ls hC hc hL hS hl hW
  refine lv_isub hC.1 hC.2.1 hd ?_
  rw [← Int32.ofInt_sub]
  exact k p la e s m args below meth c H locs ad G cI cN ls hC hc hL (hS.tl.tl.cons trivial) hl hW
theorem e_imul {a b : Int} (hd : decode M.2.1 pc = .ok (.imul, 1)) (k : Ev M d (pc + 1) L (vI (a * b) :: S) μ Q) : Ev M d pc L (vI b :: vI a :: S) μ Q := by
  intro p la e s m args below meth c H locs ad G cI cN ls hC hc hL hS hl hW
  refine lv_imul hC.1 hC.2.1 hd ?_
  rw [← Int32.ofInt_mul]
  exact k p la e s m args below meth c H locs ad G cI cN ls hC hc hL (hS.tl.tl.cons trivial) hl hW
theorem e_ladd {a b : Int} (hd : decode M.2.1 pc = .ok (.ladd, 1)) (k : Ev M d (pc + 1) L (vL (a + b) :: S) μ Q) : Ev M d pc L (vL b :: vL a :: S) μ Q := by
  intro p la e s m args below meth c H locs ad G cI cN ls hC hc hL hS hl hW
  refine lv_ladd hC.1 hC.2.1 hd ?_
  rw [← Int64.ofInt_add]
  exact k p la e s m args below meth c H locs ad G cI cN ls hC hc hL (hS.tl.tl.cons trivial) hl hW
theorem e_lsub {a b : Int} (hd : decode M.2.1 pc = .ok (.lsub, 1)) (k : Ev M d (pc + 1) L (vL (a - b) :: S) μ Q) : Ev M d pc L (vL b :: vL a :: S) μ Q := by
  intro p la e s m args below meth c H locs ad G cI cN ls hC hc hL hS hl hW
  refine lv_lsub hC.1 hC.2.1 hd ?_
  rw [← Int64.ofInt_sub]
  exact k p la e s m args below meth c H locs ad G cI cN ls hC hc hL (hS.tl.tl.cons trivial) hl hW
theorem e_lmul {a b : Int} (hd : decode M.2.1 pc = .ok (.lmul, 1)) (k : Ev M d (pc + 1) L (vL (a * b) :: S) μ Q) : Ev M d pc L (vL b :: vL a :: S) μ Q := by
  intro p la e s m args below meth c H locs ad G cI cN ls hC hc hL hS hl hW
  refine lv_lmul hC.1 hC.2.1 hd ?_
  rw [← Int64.ofInt_mul]
  exact k p la e s m args below meth c H locs ad G cI cN ls hC hc hL (hS.tl.tl.cons trivial) hl hW
theorem e_ineg {a : Int} (hd : decode M.2.1 pc = .ok (.ineg, 1)) (k : Ev M d (pc + 1) L (vI (-a) :: S) μ Q) : Ev M d pc L (vI a :: S) μ Q := by
  intro p la e s m args below meth c H locs ad G cI cN ls hC hc hL hS hl hW
  refine lv_ineg hC.1 hC.2.1 hd ?_
  have k2 := k p la e s m args below meth c H locs ad G cI cN ls hC hc hL (hS.tl.cons trivial) hl hW
  simpa [eV, Int32.ofInt_neg] using k2
theorem e_irem {a b : Int} (hd : decode M.2.1 pc = .ok (.irem, 1)) (ha : 0 ≤ a ∧ a < 2147483648) (hb : 0 < b ∧ b < 2147483648) (k : Ev M d (pc + 1) L (vI (a % b) :: S) μ Q) : Ev M d pc L (vI b :: vI a :: S) μ Q := by
  intro p la e s m args below meth c H locs ad G cI cN ls hC hc hL hS hl hW
  have e1 : Int32.ofInt a = nI a.toNat := by rw [nI, ← Int32.ofInt_eq_ofNat]; congr 1; omega
  have e2 : Int32.ofInt b = nI b.toNat := by rw [nI, ← Int32.ofInt_eq_ofNat]; congr 1; omega
  have e3 : Int32.ofInt (a % b) = nI (a.toNat % b.toNat) := by
    rw [nI, ← Int32.ofInt_eq_ofNat]; congr 1
    rw [Int.natCast_emod, Int.toNat_of_nonneg ha.1, Int.toNat_of_nonneg (by omega)]
  refine lv_irem hC.1 hC.2.1 hd ?_ ?_
  · rw [← i_0, i_eq (by omega) (by omega)]; omega
  · have k2 := k p la e s m args below meth c H locs ad G cI cN ls hC hc hL (hS.tl.tl.cons trivial) hl hW
    rw [e1, e2, pk_rem (by omega) (by omega) (by omega), ← e3]
    exact k2
theorem e_i2b {a : Int} (hd : decode M.2.1 pc = .ok (.i2b, 1)) (k : Ev M d (pc + 1) L (vI (a.bmod 256) :: S) μ Q) : Ev M d pc L (vI a :: S) μ Q := by
  intro p la e s m args below meth c H locs ad G cI cN ls hC hc hL hS hl hW
  refine lv_i2b (v := Int32.ofInt (a.bmod 256)) hC.1 hC.2.1 hd ?_ ?_
  · rw [Int32.toInt8_ofInt, ← Int32.ofInt_int8ToInt, Int8.toInt_ofInt]
  · exact k p la e s m args below meth c H locs ad G cI cN ls hC hc hL (hS.tl.cons trivial) hl hW
theorem e_i2s {a : Int} (hd : decode M.2.1 pc = .ok (.i2s, 1)) (k : Ev M d (pc + 1) L (vI (a.bmod 65536) :: S) μ Q) : Ev M d pc L (vI a :: S) μ Q := by
  intro p la e s m args below meth c H locs ad G cI cN ls hC hc hL hS hl hW
  refine lv_i2s (v := Int32.ofInt (a.bmod 65536)) hC.1 hC.2.1 hd ?_ ?_
  · rw [Int32.toInt16_ofInt, ← Int32.ofInt_int16ToInt, Int16.toInt_ofInt]
  · exact k p la e s m args below meth c H locs ad G cI cN ls hC hc hL (hS.tl.cons trivial) hl hW
theorem e_i2l {a : Int} (hd : decode M.2.1 pc = .ok (.i2l, 1)) (ha : inR a) (k : Ev M d (pc + 1) L (vL a :: S) μ Q) : Ev M d pc L (vI a :: S) μ Q := by
  intro p la e s m args below meth c H locs ad G cI cN ls hC hc hL hS hl hW
  refine lv_i2l (v := Int64.ofInt a) hC.1 hC.2.1 hd ?_ ?_
  · rw [← Int64.ofInt_int32ToInt, Int32.toInt_ofInt_of_le (by omega) (by omega)]
  · exact k p la e s m args below meth c H locs ad G cI cN ls hC hc hL (hS.tl.cons trivial) hl hW
theorem e_iconst {n : Int} (hd : decode M.2.1 pc = .ok (.iconst n, 1)) (k : Ev M d (pc + 1) L (vI n :: S) μ Q) : Ev M d pc L S μ Q := by
  intro p la e s m args below meth c H locs ad G cI cN ls hC hc hL hS hl hW
  refine lv_iconst (v := Int32.ofInt n) hC.1 hC.2.1 hd rfl ?_
  exact k p la e s m args below meth c H locs ad G cI cN ls hC hc hL (hS.cons trivial) hl hW
theorem e_bipush {n : Int} (hd : decode M.2.1 pc = .ok (.bipush n, 2)) (hn : -128 ≤ n ∧ n < 128) (k : Ev M d (pc + 2) L (vI n :: S) μ Q) : Ev M d pc L S μ Q := by
  intro p la e s m args below meth c H locs ad G cI cN ls hC hc hL hS hl hW
  refine lv_bipush (v := Int32.ofInt n) hC.1 hC.2.1 hd (by rw [← Int32.ofInt_int8ToInt, Int8.toInt_ofInt_of_le (by omega) (by omega)]) ?_
  exact k p la e s m args below meth c H locs ad G cI cN ls hC hc hL (hS.cons trivial) hl hW
theorem e_sipush {n : Int} (hd : decode M.2.1 pc = .ok (.sipush n, 3)) (hn : -32768 ≤ n ∧ n < 32768) (k : Ev M d (pc + 3) L (vI n :: S) μ Q) : Ev M d pc L S μ Q := by
  intro p la e s m args below meth c H locs ad G cI cN ls hC hc hL hS hl hW
  refine lv_sipush (v := Int32.ofInt n) hC.1 hC.2.1 hd (by rw [← Int32.ofInt_int16ToInt, Int16.toInt_ofInt_of_le (by omega) (by omega)]) ?_
  exact k p la e s m args below meth c H locs ad G cI cN ls hC hc hL (hS.cons trivial) hl hW
theorem e_lconst {n : Fin 2} (v : Int) (hd : decode M.2.1 pc = .ok (.lconst n, 1)) (hv : ((n : Nat) : Int) = v) (k : Ev M d (pc + 1) L (vL v :: S) μ Q) : Ev M d pc L S μ Q := by
  intro p la e s m args below meth c H locs ad G cI cN ls hC hc hL hS hl hW
  refine lv_lconst (v := Int64.ofInt v) hC.1 hC.2.1 hd (by rw [← hv, Int64.ofInt_eq_ofNat]) ?_
  exact k p la e s m args below meth c H locs ad G cI cN ls hC hc hL (hS.cons trivial) hl hW
theorem e_ldc {idx : Nat} {v : Int32} (n : Int) (hd : decode M.2.1 pc = .ok (.ldc idx, 2)) (hw : Cond.constant M.1.cls idx v ∈ Gw) (hv : Int32.ofInt n = v) (k : Ev M d (pc + 2) L (vI n :: S) μ Q) : Ev M d pc L S μ Q := by
  intro p la e s m args below meth c H locs ad G cI cN ls hC hc hL hS hl hW
  subst hv
  refine lv_ldc hC.1 hC.2.1 hC.2.2.2.2.1 (hC.2.2.2.2.2.1 _ hw) hd ?_
  exact k p la e s m args below meth c H locs ad G cI cN ls hC hc hL (hS.cons trivial) hl hW
theorem e_ldc2 {idx : Nat} {v : Int64} (n : Int) (hd : decode M.2.1 pc = .ok (.ldc2_w idx, 3)) (hw : Cond.constantLong M.1.cls idx v ∈ Gw) (hv : Int64.ofInt n = v) (k : Ev M d (pc + 3) L (vL n :: S) μ Q) : Ev M d pc L S μ Q := by
  intro p la e s m args below meth c H locs ad G cI cN ls hC hc hL hS hl hW
  subst hv
  refine lv_ldc2 hC.1 hC.2.1 hC.2.2.2.2.1 (hC.2.2.2.2.2.1 _ hw) hd ?_
  exact k p la e s m args below meth c H locs ad G cI cN ls hC hc hL (hS.cons trivial) hl hW
theorem okL.at {i : Nat} {v : Vv} (h : okL L) (hi : L[i]? = some (some v)) : okV v := h (some v) (List.mem_of_getElem? hi)
theorem e_null (hd : decode M.2.1 pc = .ok (.aconst_null, 1)) (k : Ev M d (pc + 1) L (vN :: S) μ Q) : Ev M d pc L S μ Q := by
  intro p la e s m args below meth c H locs ad G cI cN ls hC hc hL hS hl hW
  refine lv_null hC.1 hC.2.1 hd ?_
  exact k p la e s m args below meth c H locs ad G cI cN ls hC hc hL (hS.cons trivial) hl hW
theorem e_iload {i : Nat} {a : Int} (hd : decode M.2.1 pc = .ok (.iload i, 2)) (hi : L[i]? = some (some (vI a))) (k : Ev M d (pc + 2) L (vI a :: S) μ Q) : Ev M d pc L S μ Q := by
  intro p la e s m args below meth c H locs ad G cI cN ls hC hc hL hS hl hW
  refine lv_iload hC.1 hC.2.1 hd (hl.2.2 i _ hi) ?_
  exact k p la e s m args below meth c H locs ad G cI cN ls hC hc hL (hS.cons trivial) hl hW
theorem e_iload_n {n : Fin 4} (i : Nat) {a : Int} (hd : decode M.2.1 pc = .ok (.iload_n n, 1)) (hn : (n : Nat) = i) (hi : L[i]? = some (some (vI a))) (k : Ev M d (pc + 1) L (vI a :: S) μ Q) : Ev M d pc L S μ Q := by
  intro p la e s m args below meth c H locs ad G cI cN ls hC hc hL hS hl hW
  refine lv_iload_n hC.1 hC.2.1 hd hn (hl.2.2 i _ hi) ?_
  exact k p la e s m args below meth c H locs ad G cI cN ls hC hc hL (hS.cons trivial) hl hW
theorem e_lload {i : Nat} {a : Int} (hd : decode M.2.1 pc = .ok (.lload i, 2)) (hi : L[i]? = some (some (vL a))) (k : Ev M d (pc + 2) L (vL a :: S) μ Q) : Ev M d pc L S μ Q := by
  intro p la e s m args below meth c H locs ad G cI cN ls hC hc hL hS hl hW
  refine lv_lload hC.1 hC.2.1 hd (hl.2.2 i _ hi) ?_
  exact k p la e s m args below meth c H locs ad G cI cN ls hC hc hL (hS.cons trivial) hl hW
theorem e_lload_n {n : Fin 4} (i : Nat) {a : Int} (hd : decode M.2.1 pc = .ok (.lload_n n, 1)) (hn : (n : Nat) = i) (hi : L[i]? = some (some (vL a))) (k : Ev M d (pc + 1) L (vL a :: S) μ Q) : Ev M d pc L S μ Q := by
  intro p la e s m args below meth c H locs ad G cI cN ls hC hc hL hS hl hW
  refine lv_lload_n hC.1 hC.2.1 hd hn (hl.2.2 i _ hi) ?_
  exact k p la e s m args below meth c H locs ad G cI cN ls hC hc hL (hS.cons trivial) hl hW
theorem e_aload {i : Nat} {r : Option (Nat × Int)} (hd : decode M.2.1 pc = .ok (.aload i, 2)) (hi : L[i]? = some (some (.inr (.inr r)))) (k : Ev M d (pc + 2) L (.inr (.inr r) :: S) μ Q) : Ev M d pc L S μ Q := by
  intro p la e s m args below meth c H locs ad G cI cN ls hC hc hL hS hl hW
  have k2 := k p la e s m args below meth c H locs ad G cI cN ls hC hc hL (hS.cons (hL.at hi)) hl hW
  cases r with
  | none => exact lv_aloadN hC.1 hC.2.1 hd (hl.2.2 i _ hi) k2
  | some q => exact lv_aload hC.1 hC.2.1 hd (hl.2.2 i _ hi) k2
theorem e_aload_n {n : Fin 4} (i : Nat) {r : Option (Nat × Int)} (hd : decode M.2.1 pc = .ok (.aload_n n, 1)) (hn : (n : Nat) = i) (hi : L[i]? = some (some (.inr (.inr r)))) (k : Ev M d (pc + 1) L (.inr (.inr r) :: S) μ Q) : Ev M d pc L S μ Q := by
  intro p la e s m args below meth c H locs ad G cI cN ls hC hc hL hS hl hW
  have k2 := k p la e s m args below meth c H locs ad G cI cN ls hC hc hL (hS.cons (hL.at hi)) hl hW
  cases r with
  | none => exact lv_aload_nN hC.1 hC.2.1 hd hn (hl.2.2 i _ hi) k2
  | some q => exact lv_aload_n hC.1 hC.2.1 hd hn (hl.2.2 i _ hi) k2
/-- the locals as the kit lists them -/
def lvL (ad : Nat → Int → Nat) : Nat → List (Option Vv) → List (Nat × Value)
  | _, [] => []
  | i, none :: t => lvL ad (i + 1) t
  | i, some v :: t => (i, eV ad v) :: lvL ad (i + 1) t
theorem lvL_mem {ad : Nat → Int → Nat} : ∀ (L : List (Option Vv)) (i0 : Nat) (q : Nat × Value), q ∈ lvL ad i0 L ↔ ∃ (j : Nat) (v : Vv), q = (i0 + j, eV ad v) ∧ L[j]? = some (some v)
  | [], i0, q => by simp [lvL]
  | none :: t, i0, q => by
    rw [lvL, lvL_mem t (i0 + 1) q]
    constructor
    · rintro ⟨j, v, h1, h2⟩
      exact ⟨j + 1, v, by rw [h1]; congr 1; omega, by simpa using h2⟩
    · rintro ⟨j, v, h1, h2⟩
      cases j with
      | zero => simp at h2
      | succ j => exact ⟨j, v, by rw [h1]; congr 1; omega, by simpa using h2⟩
  | some u :: t, i0, q => by
    rw [lvL, List.mem_cons, lvL_mem t (i0 + 1) q]
    constructor
    · rintro (h | ⟨j, v, h1, h2⟩)
      · exact ⟨0, u, by simpa using h, by simp⟩
      · exact ⟨j + 1, v, by rw [h1]; congr 1; omega, by simpa using h2⟩
    · rintro ⟨j, v, h1, h2⟩
      cases j with
      | zero => simp at h2; subst h2; exact Or.inl (by simpa using h1)
      | succ j => exact Or.inr ⟨j, v, by rw [h1]; congr 1; omega, by simpa using h2⟩
theorem Lh.has {ad : Nat → Int → Nat} {ls : Array Slot} {n : Nat} (h : Lh ad ls n L) : lv_has ls n (lvL ad 0 L) := by
  refine ⟨h.1, h.2.1, fun q hq => ?_⟩
  obtain ⟨j, v, rfl, h2⟩ := (lvL_mem L 0 q).mp hq
  simpa using h.2.2 j v h2
def isLong : Option Vv → Bool
  | some (.inr (.inl _)) => true
  | _ => false
theorem eV_cat {ad : Nat → Int → Nat} (v : Vv) : ((eV ad v).category == 2) = isLong (some v) := by
  rcases v with a | a | r
  · rfl
  · rfl
  · cases r <;> rfl
/-- a value of one slot is stored at i: what is listed but there, and but a long just below, stays -/
theorem Lh.st1 {ad : Nat → Int → Nat} {ls' : Array Slot} {n i : Nat} {v : Vv} {L' : List (Option Vv)} (h : lv_has ls' n ((i, eV ad v) :: (lvL ad 0 L).filter (fun q => !(q.1 == i) && !(q.1 + 1 == i && q.2.category == 2)))) (h1 : ∀ u, L'[i]? = some (some u) → u = v) (h2 : ∀ (j : Nat) (u : Vv), j ≠ i → L'[j]? = some (some u) → L[j]? = some (some u)) (h3 : ∀ (j : Nat) (u : Vv), j + 1 = i → L'[j]? = some (some u) → isLong (some u) = false) : Lh ad ls' n L' := by
  refine ⟨h.1, h.2.1, fun j u hu => ?_⟩
  by_cases hj : j = i
  · subst hj
    rw [h1 u hu]
    exact h.2.2 _ List.mem_cons_self
  · refine h.2.2 (j, eV ad u) (List.mem_cons_of_mem _ (List.mem_filter.mpr ⟨(lvL_mem L 0 _).mpr ⟨j, u, by simp, h2 j u hj hu⟩, ?_⟩))
    simp only [eV_cat]
    by_cases h4 : j + 1 = i
    · simp [hj, h3 j u h4 hu]
    · simp [hj, h4]
theorem Lh.st2 {ad : Nat → Int → Nat} {ls' : Array Slot} {n i : Nat} {v : Vv} {L' : List (Option Vv)} (h : lv_has ls' n ((i, eV ad v) :: (lvL ad 0 L).filter (fun q => !(q.1 == i) && (!(q.1 == i + 1) && !(q.1 + 1 == i && q.2.category == 2))))) (h1 : ∀ u, L'[i]? = some (some u) → u = v) (h2 : ∀ (j : Nat) (u : Vv), j ≠ i → L'[j]? = some (some u) → L[j]? = some (some u)) (h3 : ∀ (j : Nat) (u : Vv), j + 1 = i → L'[j]? = some (some u) → isLong (some u) = false) (h4 : ∀ u, L'[i + 1]? ≠ some (some u)) : Lh ad ls' n L' := by
  refine ⟨h.1, h.2.1, fun j u hu => ?_⟩
  by_cases hj : j = i
  · subst hj
    rw [h1 u hu]
    exact h.2.2 _ List.mem_cons_self
  · have hj2 : ¬ j = i + 1 := fun q => h4 u (q ▸ hu)
    refine h.2.2 (j, eV ad u) (List.mem_cons_of_mem _ (List.mem_filter.mpr ⟨(lvL_mem L 0 _).mpr ⟨j, u, by simp, h2 j u hj hu⟩, ?_⟩))
    simp only [eV_cat]
    by_cases h4 : j + 1 = i
    · simp [hj, hj2, h3 j u h4 hu]
    · simp [hj, hj2, h4]
/-- the list of locals behind a store of one slot -/
def stL (L : List (Option Vv)) (i : Nat) (v : Vv) : List (Option Vv) := L.set i (some v)
theorem stL_1 {i : Nat} {v : Vv} : ∀ u, (L.set i (some v))[i]? = some (some u) → u = v := by
  intro u hu
  by_cases h : i < L.length
  · rw [List.getElem?_set_self h] at hu
    cases hu; rfl
  · rw [List.getElem?_eq_none (by simp; omega)] at hu
    cases hu
theorem stL_2 {i : Nat} {v : Option Vv} : ∀ (j : Nat) (u : Vv), j ≠ i → (L.set i v)[j]? = some (some u) → L[j]? = some (some u) := by
  intro j u hj hu
  rwa [List.getElem?_set_ne (Ne.symm hj)] at hu
theorem okL.set {i : Nat} {v : Option Vv} (h : okL L) (hv : okO v) : okL (L.set i v) := fun x hx => (List.mem_or_eq_of_mem_set hx).elim (h x) (fun e => e ▸ hv)
/-- nothing just below i is a long -/
def nlb (L : List (Option Vv)) : Nat → Bool
  | 0 => true
  | i + 1 => match L[i]? with
    | some x => !isLong x
    | none => true
theorem nlb_3 {i : Nat} {v : Option Vv} (h : nlb L i = true) : ∀ (j : Nat) (u : Vv), j + 1 = i → (L.set i v)[j]? = some (some u) → isLong (some u) = false := by
  intro j u hj hu
  rw [List.getElem?_set_ne (by omega)] at hu
  subst hj
  simpa [nlb, hu] using h
theorem e_istore {i : Nat} {a : Int} (hd : decode M.2.1 pc = .ok (.istore i, 2)) (hi : i < M.2.2.1) (hn : nlb L i = true) (k : Ev M d (pc + 2) (L.set i (some (vI a))) S μ Q) : Ev M d pc L (vI a :: S) μ Q := by
  intro p la e s m args below meth c H locs ad G cI cN ls hC hc hL hS hl hW
  refine lv_istore hC.1 hC.2.1 hd hl.has hi rfl (fun ls' h' => ?_)
  exact k p la e s m args below meth c H locs ad G cI cN ls' hC hc (hL.set (v := some (vI a)) trivial) hS.tl (Lh.st1 (v := vI a) h' stL_1 stL_2 (nlb_3 hn)) hW
theorem e_istore_n {n : Fin 4} {i : Nat} {a : Int} (hd : decode M.2.1 pc = .ok (.istore_n n, 1)) (hni : (n : Nat) = i) (hi : i < M.2.2.1) (hn : nlb L i = true) (k : Ev M d (pc + 1) (L.set i (some (vI a))) S μ Q) : Ev M d pc L (vI a :: S) μ Q := by
  intro p la e s m args below meth c H locs ad G cI cN ls hC hc hL hS hl hW
  refine lv_istore_n hC.1 hC.2.1 hd hni hl.has hi rfl (fun ls' h' => ?_)
  exact k p la e s m args below meth c H locs ad G cI cN ls' hC hc (hL.set (v := some (vI a)) trivial) hS.tl (Lh.st1 (v := vI a) h' stL_1 stL_2 (nlb_3 hn)) hW
theorem e_astore {i : Nat} {r : Option (Nat × Int)} (hd : decode M.2.1 pc = .ok (.astore i, 2)) (hi : i < M.2.2.1) (hn : nlb L i = true) (k : Ev M d (pc + 2) (L.set i (some (.inr (.inr r)))) S μ Q) : Ev M d pc L (.inr (.inr r) :: S) μ Q := by
  intro p la e s m args below meth c H locs ad G cI cN ls hC hc hL hS hl hW
  cases r with
  | none =>
    refine lv_astoreN hC.1 hC.2.1 hd hl.has hi rfl (fun ls' h' => ?_)
    exact k p la e s m args below meth c H locs ad G cI cN ls' hC hc (hL.set (v := some vN) trivial) hS.tl (Lh.st1 (v := vN) h' stL_1 stL_2 (nlb_3 hn)) hW
  | some q =>
    refine lv_astore hC.1 hC.2.1 hd hl.has hi rfl (fun ls' h' => ?_)
    exact k p la e s m args below meth c H locs ad G cI cN ls' hC hc (hL.set (v := some (vR q.1 q.2)) hS.hd) hS.tl (Lh.st1 (v := vR q.1 q.2) h' stL_1 stL_2 (nlb_3 hn)) hW
theorem e_astore_n {n : Fin 4} {i : Nat} {r : Option (Nat × Int)} (hd : decode M.2.1 pc = .ok (.astore_n n, 1)) (hni : (n : Nat) = i) (hi : i < M.2.2.1) (hn : nlb L i = true) (k : Ev M d (pc + 1) (L.set i (some (.inr (.inr r)))) S μ Q) : Ev M d pc L (.inr (.inr r) :: S) μ Q := by
  intro p la e s m args below meth c H locs ad G cI cN ls hC hc hL hS hl hW
  cases r with
  | none =>
    refine lv_astore_nN hC.1 hC.2.1 hd hni hl.has hi rfl (fun ls' h' => ?_)
    exact k p la e s m args below meth c H locs ad G cI cN ls' hC hc (hL.set (v := some vN) trivial) hS.tl (Lh.st1 (v := vN) h' stL_1 stL_2 (nlb_3 hn)) hW
  | some q =>
    refine lv_astore_n hC.1 hC.2.1 hd hni hl.has hi rfl (fun ls' h' => ?_)
    exact k p la e s m args below meth c H locs ad G cI cN ls' hC hc (hL.set (v := some (vR q.1 q.2)) hS.hd) hS.tl (Lh.st1 (v := vR q.1 q.2) h' stL_1 stL_2 (nlb_3 hn)) hW
theorem stL_22 {i : Nat} {v : Vv} : ∀ (j : Nat) (u : Vv), j ≠ i → ((L.set i (some v)).set (i + 1) none)[j]? = some (some u) → L[j]? = some (some u) := by
  intro j u hj hu
  by_cases h : j = i + 1
  · subst h
    by_cases h2 : i + 1 < L.length
    · rw [List.getElem?_set_self (by simpa using h2)] at hu; cases hu
    · rw [List.getElem?_eq_none (by simp; omega)] at hu; cases hu
  · rw [List.getElem?_set_ne (Ne.symm h), List.getElem?_set_ne (Ne.symm hj)] at hu
    exact hu
theorem stL_24 {i : Nat} {v : Vv} : ∀ u : Vv, ((L.set i (some v)).set (i + 1) none)[i + 1]? ≠ some (some u) := by
  intro u hu
  by_cases h2 : i + 1 < L.length
  · rw [List.getElem?_set_self (by simpa using h2)] at hu; cases hu
  · rw [List.getElem?_eq_none (by simp; omega)] at hu; cases hu
theorem nlb_32 {i : Nat} {v : Option Vv} (h : nlb L i = true) : ∀ (j : Nat) (u : Vv), j + 1 = i → ((L.set i v).set (i + 1) none)[j]? = some (some u) → isLong (some u) = false := by
  intro j u hj hu
  rw [List.getElem?_set_ne (by omega)] at hu
  exact nlb_3 h j u hj hu
theorem stL_21 {i : Nat} {v : Vv} : ∀ u, ((L.set i (some v)).set (i + 1) none)[i]? = some (some u) → u = v := by
  intro u hu
  rw [List.getElem?_set_ne (by omega)] at hu
  exact stL_1 u hu
theorem e_lstore {i : Nat} {a : Int} (hd : decode M.2.1 pc = .ok (.lstore i, 2)) (hi : i + 1 < M.2.2.1) (hn : nlb L i = true) (k : Ev M d (pc + 2) ((L.set i (some (vL a))).set (i + 1) none) S μ Q) : Ev M d pc L (vL a :: S) μ Q := by
  intro p la e s m args below meth c H locs ad G cI cN ls hC hc hL hS hl hW
  refine lv_lstore hC.1 hC.2.1 hd hl.has hi rfl (fun ls' h' => ?_)
  exact k p la e s m args below meth c H locs ad G cI cN ls' hC hc ((hL.set (v := some (vL a)) trivial).set (v := none) trivial) hS.tl (Lh.st2 (v := vL a) h' stL_21 stL_22 (nlb_32 hn) stL_24) hW
theorem e_lstore_n {n : Fin 4} {i : Nat} {a : Int} (hd : decode M.2.1 pc = .ok (.lstore_n n, 1)) (hni : (n : Nat) = i) (hi : i + 1 < M.2.2.1) (hn : nlb L i = true) (k : Ev M d (pc + 1) ((L.set i (some (vL a))).set (i + 1) none) S μ Q) : Ev M d pc L (vL a :: S) μ Q := by
  intro p la e s m args below meth c H locs ad G cI cN ls hC hc hL hS hl hW
  refine lv_lstore_n hC.1 hC.2.1 hd hni hl.has hi rfl (fun ls' h' => ?_)
  exact k p la e s m args below meth c H locs ad G cI cN ls' hC hc ((hL.set (v := some (vL a)) trivial).set (v := none) trivial) hS.tl (Lh.st2 (v := vL a) h' stL_21 stL_22 (nlb_32 hn) stL_24) hW
theorem e_iinc {i : Nat} {n a : Int} (hd : decode M.2.1 pc = .ok (.iinc i n, 3)) (hi : i < M.2.2.1) (hn : nlb L i = true) (ha : L[i]? = some (some (vI a))) (k : Ev M d (pc + 3) (L.set i (some (vI (a + n)))) S μ Q) : Ev M d pc L S μ Q := by
  intro p la e s m args below meth c H locs ad G cI cN ls hC hc hL hS hl hW
  have hm : (i, eV ad (vI a)) ∈ lvL ad 0 L := (lvL_mem L 0 _).mpr ⟨i, vI a, by simp, ha⟩
  obtain ⟨j, hj⟩ := List.getElem?_of_mem hm
  refine lv_iinc (v := Int32.ofInt (a + n)) hC.1 hC.2.1 hd hl.has (k := j) hj (by rw [Int32.ofInt_add]) hi rfl (fun ls' h' => ?_)
  exact k p la e s m args below meth c H locs ad G cI cN ls' hC hc (hL.set (v := some (vI (a + n))) trivial) hS (Lh.st1 (v := vI (a + n)) h' stL_1 stL_2 (nlb_3 hn)) hW
/-- fewer locals are known -/
theorem e_wk (L' : List (Option Vv)) (h : ∀ (j : Nat) (u : Vv), L'[j]? = some (some u) → L[j]? = some (some u)) (k : Ev M d pc L' S μ Q) : Ev M d pc L S μ Q := by
  intro p la e s m args below meth c H locs ad G cI cN ls hC hc hL hS hl hW
  refine k p la e s m args below meth c H locs ad G cI cN ls hC hc ?_ hS ⟨hl.1, hl.2.1, fun i v hv => hl.2.2 i v (h i v hv)⟩ hW
  intro x hx
  cases x with
  | none => trivial
  | some v =>
    obtain ⟨i, hi⟩ := List.getElem?_of_mem hx
    exact hL.at (h i v hi)
def leL : List (Option Vv) → List (Option Vv) → Prop
  | [], _ => True
  | none :: t, _ :: t' => leL t t'
  | some v :: t, w :: t' => w = some v ∧ leL t t'
  | none :: t, [] => leL t []
  | some _ :: _, [] => False
theorem leL_at : ∀ (L' L : List (Option Vv)), leL L' L → ∀ (j : Nat) (u : Vv), L'[j]? = some (some u) → L[j]? = some (some u)
  | [], _, _, j, u, h => by simp at h
  | none :: t, [], hl, j, u, h => by
    cases j with
    | zero => simp at h
    | succ j => have := leL_at t [] hl j u (by simpa using h); simp at this
  | none :: t, w :: t', hl, j, u, h => by
    cases j with
    | zero => simp at h
    | succ j => simpa using leL_at t t' hl j u (by simpa using h)
  | some v :: t, w :: t', hl, j, u, h => by
    cases j with
    | zero => simp at h; subst h; simpa using hl.1
    | succ j => simpa using leL_at t t' hl.2 j u (by simpa using h)
  | some _ :: _, [], hl, _, _, _ => absurd hl (by simp [leL])
theorem e_le (L' : List (Option Vv)) (h : leL L' L) (k : Ev M d pc L' S μ Q) : Ev M d pc L S μ Q := e_wk L' (leL_at L' L h) k
theorem e_dup {v : Vv} (hd : decode M.2.1 pc = .ok (.dup, 1)) (hv : isLong (some v) = false) (k : Ev M d (pc + 1) L (v :: v :: S) μ Q) : Ev M d pc L (v :: S) μ Q := by
  intro p la e s m args below meth c H locs ad G cI cN ls hC hc hL hS hl hW
  refine lv_dup hC.1 hC.2.1 hd ?_ ?_
  · rcases v with a | a | r
    · rfl
    · cases hv
    · cases r <;> rfl
  · exact k p la e s m args below meth c H locs ad G cI cN ls hC hc hL (hS.cons hS.hd) hl hW
theorem cat1 {ad : Nat → Int → Nat} {v : Vv} (hv : isLong (some v) = false) : (eV ad v).category = 1 := by
  rcases v with a | a | r
  · rfl
  · cases hv
  · cases r <;> rfl
theorem e_pop {v : Vv} (hd : decode M.2.1 pc = .ok (.pop, 1)) (hv : isLong (some v) = false) (k : Ev M d (pc + 1) L S μ Q) : Ev M d pc L (v :: S) μ Q := by
  intro p la e s m args below meth c H locs ad G cI cN ls hC hc hL hS hl hW
  refine lv_pop hC.1 hC.2.1 hd (cat1 hv) ?_
  exact k p la e s m args below meth c H locs ad G cI cN ls hC hc hL hS.tl hl hW
theorem e_dup2 {v u : Vv} (hd : decode M.2.1 pc = .ok (.dup2, 1)) (hv : isLong (some v) = false) (hu : isLong (some u) = false) (k : Ev M d (pc + 1) L (v :: u :: v :: u :: S) μ Q) : Ev M d pc L (v :: u :: S) μ Q := by
  intro p la e s m args below meth c H locs ad G cI cN ls hC hc hL hS hl hW
  refine lv_dup2_11 hC.1 hC.2.1 hd (cat1 hv) (cat1 hu) ?_
  exact k p la e s m args below meth c H locs ad G cI cN ls hC hc hL ((hS.cons hS.tl.hd).cons hS.hd) hl hW
theorem e_goto {off : Int} (tgt : Nat) (hd : decode M.2.1 pc = .ok (.goto off, 3)) (ht : (pc : Int) + off = (tgt : Int)) (k : Ev M d tgt L S μ Q) : Ev M d pc L S μ Q := by
  intro p la e s m args below meth c H locs ad G cI cN ls hC hc hL hS hl hW
  refine lv_goto hC.1 hC.2.1 hd ht ?_
  exact k p la e s m args below meth c H locs ad G cI cN ls hC hc hL hS hl hW
theorem e_ifnull {off : Int} {r : Option (Nat × Int)} (tgt : Nat) (hd : decode M.2.1 pc = .ok (.ifnull off, 3)) (ht : (pc : Int) + off = (tgt : Int)) (k1 : r = none → Ev M d tgt L S μ Q) (k2 : r ≠ none → Ev M d (pc + 3) L S μ Q) : Ev M d pc L (.inr (.inr r) :: S) μ Q := by
  intro p la e s m args below meth c H locs ad G cI cN ls hC hc hL hS hl hW
  cases r with
  | none => exact lv_ifnullN hC.1 hC.2.1 hd ht (k1 rfl p la e s m args below meth c H locs ad G cI cN ls hC hc hL hS.tl hl hW)
  | some q => exact lv_ifnull hC.1 hC.2.1 hd (k2 (fun h => by cases h) p la e s m args below meth c H locs ad G cI cN ls hC hc hL hS.tl hl hW)
theorem e_ifnonnull {off : Int} {r : Option (Nat × Int)} (tgt : Nat) (hd : decode M.2.1 pc = .ok (.ifnonnull off, 3)) (ht : (pc : Int) + off = (tgt : Int)) (k1 : r ≠ none → Ev M d tgt L S μ Q) (k2 : r = none → Ev M d (pc + 3) L S μ Q) : Ev M d pc L (.inr (.inr r) :: S) μ Q := by
  intro p la e s m args below meth c H locs ad G cI cN ls hC hc hL hS hl hW
  cases r with
  | none => exact lv_ifnonnullN hC.1 hC.2.1 hd (k2 rfl p la e s m args below meth c H locs ad G cI cN ls hC hc hL hS.tl hl hW)
  | some q => exact lv_ifnonnull hC.1 hC.2.1 hd ht (k1 (fun h => by cases h) p la e s m args below meth c H locs ad G cI cN ls hC hc hL hS.tl hl hW)
theorem e_icmp_eq {a b off : Int} (tgt : Nat) (hd : decode M.2.1 pc = .ok (.if_icmp .eq off, 3)) (ht : (pc : Int) + off = (tgt : Int)) (ha : inR a) (hb : inR b) (k1 : a = b → Ev M d tgt L S μ Q) (k2 : ¬ a = b → Ev M d (pc + 3) L S μ Q) : Ev M d pc L (vI b :: vI a :: S) μ Q := by
  intro p la e s m args below meth c H locs ad G cI cN ls hC hc hL hS hl hW
  refine lv_icmp_eq hC.1 hC.2.1 hd ht (fun h => ?_) (fun h => ?_)
  · exact k1 ((i_eq ha hb).mp h) p la e s m args below meth c H locs ad G cI cN ls hC hc hL hS.tl.tl hl hW
  · exact k2 (fun q => h ((i_eq ha hb).mpr q)) p la e s m args below meth c H locs ad G cI cN ls hC hc hL hS.tl.tl hl hW
theorem e_if_eq {a off : Int} (tgt : Nat) (hd : decode M.2.1 pc = .ok (.ifCond .eq off, 3)) (ht : (pc : Int) + off = (tgt : Int)) (ha : inR a) (k1 : a = 0 → Ev M d tgt L S μ Q) (k2 : ¬ a = 0 → Ev M d (pc + 3) L S μ Q) : Ev M d pc L (vI a :: S) μ Q := by
  intro p la e s m args below meth c H locs ad G cI cN ls hC hc hL hS hl hW
  have hz : inR 0 := by omega
  refine lv_if_eq hC.1 hC.2.1 hd ht (fun h => ?_) (fun h => ?_)
  · rw [← i_0] at h
    exact k1 ((i_eq ha hz).mp h) p la e s m args below meth c H locs ad G cI cN ls hC hc hL hS.tl hl hW
  · rw [← i_0] at h
    exact k2 (fun q => h ((i_eq ha hz).mpr q)) p la e s m args below meth c H locs ad G cI cN ls hC hc hL hS.tl hl hW
theorem e_icmp_ne {a b off : Int} (tgt : Nat) (hd : decode M.2.1 pc = .ok (.if_icmp .ne off, 3)) (ht : (pc : Int) + off = (tgt : Int)) (ha : inR a) (hb : inR b) (k1 : ¬ a = b → Ev M d tgt L S μ Q) (k2 : a = b → Ev M d (pc + 3) L S μ Q) : Ev M d pc L (vI b :: vI a :: S) μ Q := by
  intro p la e s m args below meth c H locs ad G cI cN ls hC hc hL hS hl hW
  refine lv_icmp_ne hC.1 hC.2.1 hd ht (fun h => ?_) (fun h => ?_)
  · exact k1 (fun q => h ((i_eq ha hb).mpr q)) p la e s m args below meth c H locs ad G cI cN ls hC hc hL hS.tl.tl hl hW
  · exact k2 ((i_eq ha hb).mp h) p la e s m args below meth c H locs ad G cI cN ls hC hc hL hS.tl.tl hl hW
theorem e_if_ne {a off : Int} (tgt : Nat) (hd : decode M.2.1 pc = .ok (.ifCond .ne off, 3)) (ht : (pc : Int) + off = (tgt : Int)) (ha : inR a) (k1 : ¬ a = 0 → Ev M d tgt L S μ Q) (k2 : a = 0 → Ev M d (pc + 3) L S μ Q) : Ev M d pc L (vI a :: S) μ Q := by
  intro p la e s m args below meth c H locs ad G cI cN ls hC hc hL hS hl hW
  have hz : inR 0 := by omega
  refine lv_if_ne hC.1 hC.2.1 hd ht (fun h => ?_) (fun h => ?_)
  · rw [← i_0] at h
    exact k1 (fun q => h ((i_eq ha hz).mpr q)) p la e s m args below meth c H locs ad G cI cN ls hC hc hL hS.tl hl hW
  · rw [← i_0] at h
    exact k2 ((i_eq ha hz).mp h) p la e s m args below meth c H locs ad G cI cN ls hC hc hL hS.tl hl hW
theorem e_icmp_lt {a b off : Int} (tgt : Nat) (hd : decode M.2.1 pc = .ok (.if_icmp .lt off, 3)) (ht : (pc : Int) + off = (tgt : Int)) (ha : inR a) (hb : inR b) (k1 : a < b → Ev M d tgt L S μ Q) (k2 : ¬ a < b → Ev M d (pc + 3) L S μ Q) : Ev M d pc L (vI b :: vI a :: S) μ Q := by
  intro p la e s m args below meth c H locs ad G cI cN ls hC hc hL hS hl hW
  refine lv_icmp_lt hC.1 hC.2.1 hd ht (fun h => ?_) (fun h => ?_)
  · exact k1 ((i_lt ha hb).mp h) p la e s m args below meth c H locs ad G cI cN ls hC hc hL hS.tl.tl hl hW
  · exact k2 (fun q => h ((i_lt ha hb).mpr q)) p la e s m args below meth c H locs ad G cI cN ls hC hc hL hS.tl.tl hl hW
theorem e_if_lt {a off : Int} (tgt : Nat) (hd : decode M.2.1 pc = .ok (.ifCond .lt off, 3)) (ht : (pc : Int) + off = (tgt : Int)) (ha : inR a) (k1 : a < 0 → Ev M d tgt L S μ Q) (k2 : ¬ a < 0 → Ev M d (pc + 3) L S μ Q) : Ev M d pc L (vI a :: S) μ Q := by
  intro p la e s m args below meth c H locs ad G cI cN ls hC hc hL hS hl hW
  have hz : inR 0 := by omega
  refine lv_if_lt hC.1 hC.2.1 hd ht (fun h => ?_) (fun h => ?_)
  · rw [← i_0] at h
    exact k1 ((i_lt ha hz).mp h) p la e s m args below meth c H locs ad G cI cN ls hC hc hL hS.tl hl hW
  · rw [← i_0] at h
    exact k2 (fun q => h ((i_lt ha hz).mpr q)) p la e s m args below meth c H locs ad G cI cN ls hC hc hL hS.tl hl hW
theorem e_icmp_ge {a b off : Int} (tgt : Nat) (hd : decode M.2.1 pc = .ok (.if_icmp .ge off, 3)) (ht : (pc : Int) + off = (tgt : Int)) (ha : inR a) (hb : inR b) (k1 : b ≤ a → Ev M d tgt L S μ Q) (k2 : ¬ b ≤ a → Ev M d (pc + 3) L S μ Q) : Ev M d pc L (vI b :: vI a :: S) μ Q := by
  intro p la e s m args below meth c H locs ad G cI cN ls hC hc hL hS hl hW
  refine lv_icmp_ge hC.1 hC.2.1 hd ht (fun h => ?_) (fun h => ?_)
  · exact k1 ((i_le hb ha).mp h) p la e s m args below meth c H locs ad G cI cN ls hC hc hL hS.tl.tl hl hW
  · exact k2 (fun q => h ((i_le hb ha).mpr q)) p la e s m args below meth c H locs ad G cI cN ls hC hc hL hS.tl.tl hl hW
theorem e_if_ge {a off : Int} (tgt : Nat) (hd : decode M.2.1 pc = .ok (.ifCond .ge off, 3)) (ht : (pc : Int) + off = (tgt : Int)) (ha : inR a) (k1 : 0 ≤ a → Ev M d tgt L S μ Q) (k2 : ¬ 0 ≤ a → Ev M d (pc + 3) L S μ Q) : Ev M d pc L (vI a :: S) μ Q := by
  intro p la e s m args below meth c H locs ad G cI cN ls hC hc hL hS hl hW
  have hz : inR 0 := by omega
  refine lv_if_ge hC.1 hC.2.1 hd ht (fun h => ?_) (fun h => ?_)
  · rw [← i_0] at h
    exact k1 ((i_le hz ha).mp h) p la e s m args below meth c H locs ad G cI cN ls hC hc hL hS.tl hl hW
  · rw [← i_0] at h
    exact k2 (fun q => h ((i_le hz ha).mpr q)) p la e s m args below meth c H locs ad G cI cN ls hC hc hL hS.tl hl hW
theorem e_icmp_gt {a b off : Int} (tgt : Nat) (hd : decode M.2.1 pc = .ok (.if_icmp .gt off, 3)) (ht : (pc : Int) + off = (tgt : Int)) (ha : inR a) (hb : inR b) (k1 : b < a → Ev M d tgt L S μ Q) (k2 : ¬ b < a → Ev M d (pc + 3) L S μ Q) : Ev M d pc L (vI b :: vI a :: S) μ Q := by
  intro p la e s m args below meth c H locs ad G cI cN ls hC hc hL hS hl hW
  refine lv_icmp_gt hC.1 hC.2.1 hd ht (fun h => ?_) (fun h => ?_)
  · exact k1 ((i_lt hb ha).mp h) p la e s m args below meth c H locs ad G cI cN ls hC hc hL hS.tl.tl hl hW
  · exact k2 (fun q => h ((i_lt hb ha).mpr q)) p la e s m args below meth c H locs ad G cI cN ls hC hc hL hS.tl.tl hl hW
theorem e_if_gt {a off : Int} (tgt : Nat) (hd : decode M.2.1 pc = .ok (.ifCond .gt off, 3)) (ht : (pc : Int) + off = (tgt : Int)) (ha : inR a) (k1 : 0 < a → Ev M d tgt L S μ Q) (k2 : ¬ 0 < a → Ev M d (pc + 3) L S μ Q) : Ev M d pc L (vI a :: S) μ Q := by
  intro p la e s m args below meth c H locs ad G cI cN ls hC hc hL hS hl hW
  have hz : inR 0 := by omega
  refine lv_if_gt hC.1 hC.2.1 hd ht (fun h => ?_) (fun h => ?_)
  · rw [← i_0] at h
    exact k1 ((i_lt hz ha).mp h) p la e s m args below meth c H locs ad G cI cN ls hC hc hL hS.tl hl hW
  · rw [← i_0] at h
    exact k2 (fun q => h ((i_lt hz ha).mpr q)) p la e s m args below meth c H locs ad G cI cN ls hC hc hL hS.tl hl hW
theorem e_icmp_le {a b off : Int} (tgt : Nat) (hd : decode M.2.1 pc = .ok (.if_icmp .le off, 3)) (ht : (pc : Int) + off = (tgt : Int)) (ha : inR a) (hb : inR b) (k1 : a ≤ b → Ev M d tgt L S μ Q) (k2 : ¬ a ≤ b → Ev M d (pc + 3) L S μ Q) : Ev M d pc L (vI b :: vI a :: S) μ Q := by
  intro p la e s m args below meth c H locs ad G cI cN ls hC hc hL hS hl hW
  refine lv_icmp_le hC.1 hC.2.1 hd ht (fun h => ?_) (fun h => ?_)
  · exact k1 ((i_le ha hb).mp h) p la e s m args below meth c H locs ad G cI cN ls hC hc hL hS.tl.tl hl hW
  · exact k2 (fun q => h ((i_le ha hb).mpr q)) p la e s m args below meth c H locs ad G cI cN ls hC hc hL hS.tl.tl hl hW
theorem e_if_le {a off : Int} (tgt : Nat) (hd : decode M.2.1 pc = .ok (.ifCond .le off, 3)) (ht : (pc : Int) + off = (tgt : Int)) (ha : inR a) (k1 : a ≤ 0 → Ev M d tgt L S μ Q) (k2 : ¬ a ≤ 0 → Ev M d (pc + 3) L S μ Q) : Ev M d pc L (vI a :: S) μ Q := by
  intro p la e s m args below meth c H locs ad G cI cN ls hC hc hL hS hl hW
  have hz : inR 0 := by omega
  refine lv_if_le hC.1 hC.2.1 hd ht (fun h => ?_) (fun h => ?_)
  · rw [← i_0] at h
    exact k1 ((i_le ha hz).mp h) p la e s m args below meth c H locs ad G cI cN ls hC hc hL hS.tl hl hW
  · rw [← i_0] at h
    exact k2 (fun q => h ((i_le ha hz).mpr q)) p la e s m args below meth c H locs ad G cI cN ls hC hc hL hS.tl hl hW
/-- what lcmp answers -/
def cmpI (a b : Int) : Int := if b < a then 1 else if a = b then 0 else -1
theorem e_lcmp {a b : Int} (hd : decode M.2.1 pc = .ok (.lcmp, 1)) (ha : inL a) (hb : inL b) (k : Ev M d (pc + 1) L (vI (cmpI a b) :: S) μ Q) : Ev M d pc L (vL b :: vL a :: S) μ Q := by
  intro p la e s m args below meth c H locs ad G cI cN ls hC hc hL hS hl hW
  refine W.lcmp hC.1 hC.2.1 hd ?_
  have k2 := k p la e s m args below meth c H locs ad G cI cN ls hC hc hL (hS.tl.tl.cons trivial) hl hW
  have e1 : lg_cmp (Int64.ofInt a) (Int64.ofInt b) = Int32.ofInt (cmpI a b) := by
    unfold lg_cmp cmpI
    simp only [gt_iff_lt, l_lt hb ha, l_eq ha hb]
    repeat' split
    all_goals rfl
  rw [e1]
  exact k2
theorem e_tableOut {dflt lo hi a : Int} {offs : Array Int} {len : Nat} (tgt : Nat) (hd : decode M.2.1 pc = .ok (.tableswitch dflt lo hi offs, len)) (ha : inR a) (h : a < lo ∨ hi < a) (ht : (pc : Int) + dflt = (tgt : Int)) (k : Ev M d tgt L S μ Q) : Ev M d pc L (vI a :: S) μ Q := by
  intro p la e s m args below meth c H locs ad G cI cN ls hC hc hL hS hl hW
  refine lv_tableOut hC.1 hC.2.1 hd (by rw [Int32.toInt_ofInt_of_le (by omega) (by omega)]; exact h) ht ?_
  exact k p la e s m args below meth c H locs ad G cI cN ls hC hc hL hS.tl hl hW
theorem e_tableIn {dflt lo hi a off : Int} {offs : Array Int} {len : Nat} (tgt : Nat) (hd : decode M.2.1 pc = .ok (.tableswitch dflt lo hi offs, len)) (ha : inR a) (h1 : ¬ a < lo) (h2 : ¬ hi < a) (ho : offs[(a - lo).toNat]? = some off) (ht : (pc : Int) + off = (tgt : Int)) (k : Ev M d tgt L S μ Q) : Ev M d pc L (vI a :: S) μ Q := by
  intro p la e s m args below meth c H locs ad G cI cN ls hC hc hL hS hl hW
  have e1 := Int32.toInt_ofInt_of_le (n := a) (by omega) (by omega)
  refine lv_tableIn hC.1 hC.2.1 hd (by rw [e1]; exact h1) (by rw [e1]; exact h2) (by rw [e1]; exact ho) ht ?_
  exact k p la e s m args below meth c H locs ad G cI cN ls hC hc hL hS.tl hl hW
theorem e_geti {k idx ci : Nat} {l : Int} {fs : List (Option Nat)} (j : Nat) (i : Int) (hd : decode M.2.1 pc = .ok (.getfield idx, 3)) (hF : FL M.1.cls idx ci j) (ho : oS k = some (ci, fs)) (hj : fs[j]? = some none) (hi : (j : Int) = i) (kk : inR (μ k l i) → Ev M d (pc + 3) L (vI (μ k l i) :: S) μ Q) : Ev M d pc L (vR k l :: S) μ Q := by
  intro p la e s m args below meth c H locs ad G cI cN ls hC hc hL hS hl hW
  subst hi
  obtain ⟨q0, -, h2⟩ := eW_at (ad := ad) (cI := cI) (cN := cN) hS.hd
  obtain ⟨C, T, N, g1, g2, g3, g4⟩ := hF
  have hC' := hC
  obtain ⟨hx, hb, -, -, hown, hts, -, hK, -⟩ := hC
  have h3 := h2 μ
  unfold eE at h3
  rw [ho] at h3
  refine va_get hx hb hts g3 hown hK hW.1 q0 h3 g1 j g2 (hts _ g4) (fun _ h => h) (v := .int (Int32.ofInt (μ k l (j : Int)))) (by simp [hj, fV]) hd ?_
  exact kk (hc _ _ _) p la e s m args below meth c H locs ad G cI cN ls hC' hc hL (hS.tl.cons trivial) hl hW
theorem e_getr {k idx ci k' : Nat} {l : Int} {fs : List (Option Nat)} (j : Nat) (hd : decode M.2.1 pc = .ok (.getfield idx, 3)) (hF : FL M.1.cls idx ci j) (ho : oS k = some (ci, fs)) (hj : fs[j]? = some (some k')) (kk : Ev M d (pc + 3) L (vR k' l :: S) μ Q) : Ev M d pc L (vR k l :: S) μ Q := by
  intro p la e s m args below meth c H locs ad G cI cN ls hC hc hL hS hl hW
  obtain ⟨q0, -, h2⟩ := eW_at (ad := ad) (cI := cI) (cN := cN) hS.hd
  obtain ⟨C, T, N, g1, g2, g3, g4⟩ := hF
  have hC' := hC
  obtain ⟨hx, hb, -, -, hown, hts, -, hK, -⟩ := hC
  have h3 := h2 μ
  unfold eE at h3
  rw [ho] at h3
  refine va_get hx hb hts g3 hown hK hW.1 q0 h3 g1 j g2 (hts _ g4) (fun _ h => h) (v := .ref (ad k' l)) (by simp [hj, fV]) hd ?_
  exact kk p la e s m args below meth c H locs ad G cI cN ls hC' hc hL (hS.tl.cons (okV_field hS.hd ho hj)) hl hW
theorem mset_fun {k : Nat} {l i v : Int} : mset μ k l i v k l = fun j => if j = i then v else μ k l j := by funext j; simp [mset]
theorem mset_off {k : Nat} {l i v : Int} : ∀ (k' : Nat) (l' : Int), ¬ (k' = k ∧ l' = l) → mset μ k l i v k' l' = μ k' l' := by
  intro k' l' h
  funext j
  simp only [mset]
  rw [if_neg (fun q => h ⟨q.1, q.2.1⟩)]
theorem e_put {k idx ci : Nat} {l v : Int} {fs : List (Option Nat)} {ty : FieldType} (j : Nat) (i : Int) (hd : decode M.2.1 pc = .ok (.putfield idx, 3)) (hF : FL M.1.cls idx ci j) (hT : FP ci j ty) (ho : oS k = some (ci, fs)) (hj : fs[j]? = some none) (hi : (j : Int) = i) (hv : inR v) (hn : narrow ty (.int (Int32.ofInt v)) = .int (Int32.ofInt v) ∧ fits ty (.int (Int32.ofInt v)) = true) (kk : Ev M d (pc + 3) L S (mset μ k l i v) Q) : Ev M d pc L (vI v :: vR k l :: S) μ Q := by
  intro p la e s m args below meth c H locs ad G cI cN ls hC hc hL hS hl hW
  subst hi
  obtain ⟨q0, hq0, h2⟩ := eW_at (ad := ad) (cI := cI) (cN := cN) hS.tl.hd
  obtain ⟨C, T, N, g1, g2, g3, g4⟩ := hF
  obtain ⟨C', T', N', ty0, g1', -, t1, t2, t3, t4⟩ := hT
  cases g1.symm.trans g1'
  have hC' := hC
  obtain ⟨hx, hb, -, -, hown, hts, -, hK, -⟩ := hC
  have h3 := h2 μ
  unfold eE at h3
  rw [ho] at h3
  have hlen : j < (fs.mapIdx (fV ad (μ k l) l)).length := by
    have := (List.getElem?_eq_some_iff.mp hj).1
    simpa using this
  refine va_put hx hb hts g3 ty0 t1 t2 hown hK hW.1 hW.2.1 hW.2.2 q0 h3 g1 j g2 (hts _ g4) (fun _ h => h) t3 t4 hn.1 hn.2 hlen hd (fun H1 locs1 hP1 hD1 hS1 => ?_)
  have e1 : (eW ad cI cN μ).set q0 (ad k l, .inr (ci, (fs.mapIdx (fV ad (μ k l) l)).set j (.int (Int32.ofInt v)))) = eW ad cI cN (mset μ k l j v) :=
    eW_set hq0 hW.2.1 mset_off (by rw [mset_fun]; exact eE_put ho hj)
  have hP1 : va_P G vwCl (eW ad cI cN (mset μ k l j v)) H1 := by rw [← e1]; exact hP1
  have hD1 : va_D (Aq ad) (eW ad cI cN (mset μ k l j v)) := by rw [← e1]; exact hD1
  exact kk p la e s m args below meth c H1 locs1 ad G cI cN ls hC' (hc.st hv) hL hS.tl.tl hl ⟨hP1, hD1, hS1⟩
theorem fit_int (v : Int) : narrow .int (.int (Int32.ofInt v)) = .int (Int32.ofInt v) ∧ fits .int (.int (Int32.ofInt v)) = true := ⟨rfl, rfl⟩
theorem fit_bool {v : Int} (h : v = 0 ∨ v = 1) : narrow .boolean (.int (Int32.ofInt v)) = .int (Int32.ofInt v) ∧ fits .boolean (.int (Int32.ofInt v)) = true := by
  rcases h with rfl | rfl <;> decide
theorem eE_arr {ad : Nat → Int → Nat} {cI cN : ClassId} {k : Nat} {l : Int} {f : Int → Int} (ho : oS k = none) (h4 : k ≠ 4) : eE ad cI cN k l f = .inl (cI, (aL k l).toNat, .inl (fun j => Int32.ofInt (f (j : Int)))) := by
  unfold eE
  rw [ho]
  simp [h4]
theorem e_iald {k : Nat} {l a n : Int} (hd : decode M.2.1 pc = .ok (.iaload, 1)) (ho : oS k = none) (h4 : k ≠ 4) (hn : aL k l = n) (ha : 0 ≤ a ∧ a < n) (kk : inR (μ k l a) → Ev M d (pc + 1) L (vI (μ k l a) :: S) μ Q) : Ev M d pc L (vI a :: vR k l :: S) μ Q := by
  intro p la e s m args below meth c H locs ad G cI cN ls hC hc hL hS hl hW
  subst hn
  obtain ⟨q0, -, h2⟩ := eW_at (ad := ad) (cI := cI) (cN := cN) hS.tl.hd
  have hb2 := aL_in k l
  have h3 := h2 μ
  rw [eE_arr ho h4] at h3
  refine va_iald hC.1 hC.2.1 hC.2.2.2.2.2.2.2.1 hW.1 q0 0 h3 rfl (vp_in_ofInt ha.1 ha.2 hb2.2) hd ?_
  rw [nat_ofInt ha.1 (by omega)]
  have e1 : ((a.toNat : Nat) : Int) = a := Int.toNat_of_nonneg ha.1
  rw [e1]
  exact kk (hc _ _ _) p la e s m args below meth c H locs ad G cI cN ls hC hc hL (hS.tl.tl.cons trivial) hl hW
theorem e_iast {k : Nat} {l a n v : Int} (hd : decode M.2.1 pc = .ok (.iastore, 1)) (ho : oS k = none) (h4 : k ≠ 4) (hn : aL k l = n) (ha : 0 ≤ a ∧ a < n) (hv : inR v) (kk : Ev M d (pc + 1) L S (mset μ k l a v) Q) : Ev M d pc L (vI v :: vI a :: vR k l :: S) μ Q := by
  intro p la e s m args below meth c H locs ad G cI cN ls hC hc hL hS hl hW
  subst hn
  obtain ⟨q0, hq0, h2⟩ := eW_at (ad := ad) (cI := cI) (cN := cN) hS.tl.tl.hd
  have hb2 := aL_in k l
  have h3 := h2 μ
  rw [eE_arr ho h4] at h3
  refine va_iast hC.1 hC.2.1 hC.2.2.2.2.2.2.2.1 hW.1 hW.2.1 hW.2.2 q0 0 h3 rfl (vp_in_ofInt ha.1 ha.2 hb2.2) hd (fun H1 locs1 hP1 hD1 hS1 => ?_)
  have e1 : (eW ad cI cN μ).set q0 (ad k l, .inl (cI, (aL k l).toNat, .inl (upd (fun j => Int32.ofInt (μ k l (j : Int))) (Int32.ofInt a).toNatClampNeg (Int32.ofInt v)))) = eW ad cI cN (mset μ k l a v) := by
    refine eW_set hq0 hW.2.1 mset_off ?_
    rw [eE_arr ho h4, mset_fun, nat_ofInt ha.1 (by omega)]
    congr 4
    funext j
    show (if j = a.toNat then Int32.ofInt v else Int32.ofInt (μ k l (j : Int))) = Int32.ofInt (if (j : Int) = a then v else μ k l (j : Int))
    by_cases hj : j = a.toNat
    · rw [if_pos hj, if_pos (by omega)]
    · rw [if_neg hj, if_neg (by omega)]
  rw [e1] at hP1 hD1
  exact kk p la e s m args below meth c H1 locs1 ad G cI cN ls hC (hc.st hv) hL hS.tl.tl.tl hl ⟨hP1, hD1, hS1⟩
theorem nets_in : ∀ j : Nat, j < 4 → (11, (j : Int)) ∈ cellsL := by decide +kernel
theorem e_aald {l a : Int} (hd : decode M.2.1 pc = .ok (.aaload, 1)) (ha : 0 ≤ a ∧ a < 4) (kk : Ev M d (pc + 1) L (vR 11 a :: S) μ Q) : Ev M d pc L (vI a :: vR 4 l :: S) μ Q := by
  intro p la e s m args below meth c H locs ad G cI cN ls hC hc hL hS hl hW
  obtain ⟨q0, -, h2⟩ := eW_at (ad := ad) (cI := cI) (cN := cN) hS.tl.hd
  have h3 : (eW ad cI cN μ)[q0]? = some (ad 4 l, .inl (cN, 4, .inr (.inr (.inr (.inr (fun j => some (ad 11 (j : Int)))))))) := h2 μ
  refine va_aldq hC.1 hC.2.1 hC.2.2.2.2.2.2.2.1 hW.1 q0 1 h3 rfl (vp_in_ofInt (n := 4) ha.1 ha.2 (by omega)) hd ?_
  rw [nat_ofInt ha.1 (by omega)]
  have e1 : ((a.toNat : Nat) : Int) = a := Int.toNat_of_nonneg ha.1
  rw [e1]
  exact kk p la e s m args below meth c H locs ad G cI cN ls hC hc hL (hS.tl.tl.cons (show (11, a) ∈ cellsL from e1 ▸ nets_in a.toNat (by omega))) hl hW
theorem e_alen {k : Nat} {l n : Int} (hd : decode M.2.1 pc = .ok (.arraylength, 1)) (ho : oS k = none) (h4 : k ≠ 4) (hn : aL k l = n) (kk : Ev M d (pc + 1) L (vI n :: S) μ Q) : Ev M d pc L (vR k l :: S) μ Q := by
  intro p la e s m args below meth c H locs ad G cI cN ls hC hc hL hS hl hW
  subst hn
  obtain ⟨q0, -, h2⟩ := eW_at (ad := ad) (cI := cI) (cN := cN) hS.hd
  have hb2 := aL_in k l
  have h3 := h2 μ
  rw [eE_arr ho h4] at h3
  refine va_alen hC.1 hC.2.1 hC.2.2.2.2.2.2.2.1 hW.1 q0 0 h3 rfl (v := Int32.ofInt (aL k l)) ?_ hd ?_
  · rw [← Int32.ofInt_eq_ofNat]; congr 1; exact Int.toNat_of_nonneg hb2.1
  · exact kk p la e s m args below meth c H locs ad G cI cN ls hC hc hL (hS.tl.cons trivial) hl hW
theorem Wo.q {G : va_G} {ad : Nat → Int → Nat} {cI cN : ClassId} {s : State} {H : Heap} {locs : List Loc} {args : Array Value} {r : Option Vv} (hW : Wo ad G cI cN μ s.heap H locs) (hc : Can μ) (hr : okO r) (hQ : Q r μ) {oc : Outcome} (ho : oc = .returned (r.map (eV ad))) : ∀ t : State, t.heap = H → s.WarmedH t.vm → Qm G ad cI cN Q args s oc t :=
  fun t ht _ => ⟨r, μ, ho, hr, hc, hQ, ht ▸ hW.1, hW.2.1, hW.2.2.F ht⟩
theorem e_ireturn {a : Int} (hd : decode M.2.1 pc = .ok (.ireturn, 1)) (hM : M.2.2.2 = some .int) (hQ : Q (some (vI a)) μ) : Ev M d pc L [vI a] μ Q := by
  intro p la e s m args below meth c H locs ad G cI cN ls hC hc hL hS hl hW
  exact W.iret hC.1 hC.2.1 (hC.2.2.1.trans hM) (Wo.q (r := some (vI a)) hW hc trivial hQ rfl) hW.2.2.2.2 hd hC.2.2.2.2.2.2.1
theorem e_zreturn {a : Int} (hd : decode M.2.1 pc = .ok (.ireturn, 1)) (hM : M.2.2.2 = some .boolean) (ha : a = 0 ∨ a = 1) (hQ : Q (some (vI a)) μ) : Ev M d pc L [vI a] μ Q := by
  intro p la e s m args below meth c H locs ad G cI cN ls hC hc hL hS hl hW
  exact W.zret hC.1 hC.2.1 (hC.2.2.1.trans hM) (fit_bool ha).1 (Wo.q (r := some (vI a)) hW hc trivial hQ rfl) hW.2.2.2.2 hd hC.2.2.2.2.2.2.1
theorem e_lreturn {a : Int} (hd : decode M.2.1 pc = .ok (.lreturn, 1)) (hM : M.2.2.2 = some .long) (hQ : Q (some (vL a)) μ) : Ev M d pc L [vL a] μ Q := by
  intro p la e s m args below meth c H locs ad G cI cN ls hC hc hL hS hl hW
  exact W.lret hC.1 hC.2.1 (hC.2.2.1.trans hM) (Wo.q (r := some (vL a)) hW hc trivial hQ rfl) hW.2.2.2.2 hd hC.2.2.2.2.2.2.1
theorem e_return (hd : decode M.2.1 pc = .ok (.return_, 1)) (hM : M.2.2.2 = none) (hQ : Q none μ) : Ev M d pc L [] μ Q := by
  intro p la e s m args below meth c H locs ad G cI cN ls hC hc hL hS hl hW
  exact W.vret hC.1 hC.2.1 (hC.2.2.1.trans hM) (Wo.q (r := none) hW hc trivial hQ rfl) hW.2.2.2.2 hd hC.2.2.2.2.2.2.1
theorem e_areturn {r : Option (Nat × Int)} {n : String} (hd : decode M.2.1 pc = .ok (.areturn, 1)) (hM : M.2.2.2 = some (.object n)) (hQ : Q (some (.inr (.inr r))) μ) : Ev M d pc L [.inr (.inr r)] μ Q := by
  intro p la e s m args below meth c H locs ad G cI cN ls hC hc hL hS hl hW
  refine W.aret (v := eV ad (.inr (.inr r))) hC.1 hC.2.1 (hC.2.2.1.trans hM) (Or.inl ⟨n, rfl⟩) ?_ (Wo.q (r := some (.inr (.inr r))) hW hc hS.hd hQ rfl) hW.2.2.2.2 hd hC.2.2.2.2.2.2.1
  cases r with
  | none => exact Or.inl rfl
  | some q => exact Or.inr ⟨_, rfl⟩
/-- stack words -/
def wds : List Vv → Nat
  | [] => 0
  | v :: t => (if isLong (some v) then 2 else 1) + wds t
theorem wds_eq {ad : Nat → Int → Nat} : ∀ S : List Vv, ((S.map (eV ad)).map fun v => v.category).sum = wds S
  | [] => rfl
  | v :: t => by
    have h := wds_eq (ad := ad) t
    simp only [List.map_cons, List.sum_cons, wds] at h ⊢
    rw [h]
    congr 1
    rcases v with a | a | r
    · rfl
    · rfl
    · cases r <;> rfl
theorem Mc.start {M' : MI} {d' : Nat} {as : List Vv} {Q' : Option Vv → Mm → Prop} {ad : Nat → Int → Nat} {G : va_G} {cI cN : ClassId} : FrameBlind (va_Pc (as.map (eV ad)) (fun U => va_P G vwCl (eW ad cI cN μ) U.heap ∧ va_D (Aq ad) (eW ad cI cN μ) ∧ va_K G vwCl (tyL cI cN) U ∧ Nw U)) :=
  fun a U g mk q => ⟨q.1, q.2.1, q.2.2.1, va_K.moved (u := U) (U := U.calling g mk a) (Vm.Alike.refl U.vm) q.2.2.2.1, q.2.2.2.2.call⟩
theorem Gw_before {s U : State} {args a' : Array Value} (hts : ∀ w ∈ Gw, w.before args s = true) (hW : s.WarmedH U.vm) : ∀ w ∈ Gw, w.before a' U = true := fun w hw => word_at hW (good_of_word (Gw_good w hw).2) (hts w hw)
/-- behind a call -/
theorem e_back {M' : MI} {pc' : Nat} {as rest : List Vv} {Q' : Option Vv → Mm → Prop} {p : Program} {l : Launch} {e : Env} {s : State} {m : MethodId} {args : Array Value} {below : List Frame} {meth : Method} {c : Code} {H : Heap} {locs : List Loc} {ad : Nat → Int → Nat} {G : va_G} {cI cN : ClassId} {ls : Array Slot} {st0 : List Value} {a : Array Value} (hC : Cx M p s m args meth c G cI cN) (hL : okL L) (hS : okS rest) (hl : Lh ad ls M.2.2.1 L) (hW : Wo ad G cI cN μ s.heap H locs)
    (hr : va_Run p l e (Rm d) s m args below meth c H locs 0 0 0 0 (F0 m pc ls st0) (rest.map (eV ad)) (Qm G ad cI cN Q' a) (Aq ad)) (kk : ∀ (r : Option Vv) (μ' : Mm), Q' r μ' → Ev M d (pc + 3) L (r.toList ++ rest) μ' Q) : W p l e (Rm d) s m args below meth c H locs 0 0 (MQ below (Qm G ad cI cN Q) args s 0 0 (Aq ad)) (F0 m pc ls st0) := by
  intro T hT X
  obtain ⟨v, st₀, t, T', Lc, h0, X', hLc, e1, e2, ⟨r, μ', hv, hok, hc', hq, hP', hD', hF'⟩, st⟩ := hr T hT X
  have hv : v = r.map (eV ad) := by cases hv; rfl
  subst hv
  have hz : H.size ≤ t.heap.size := by rw [← h0]; exact hF'.1
  have hS' : va_S (Aq ad) s.heap T'.heap (locs ++ Lc) := by
    refine ⟨Nat.le_trans hW.2.2.1 (by rw [e1]; exact hz), fun q h1 h2 => ?_, fun q hq => ?_⟩
    · rw [e1, hF'.2 q (by rw [h0]; exact Nat.lt_of_lt_of_le h1 hW.2.2.1) h2, h0]
      exact hW.2.2.2.1 q h1 h2
    · rcases List.mem_append.mp hq with h | h
      · exact hW.2.2.2.2 q h
      · exact hLc q h
  have hP1 : va_P G vwCl (eW ad cI cN μ') T'.heap := by rw [e1]; exact hP'
  have hSr : okS (r.toList ++ rest) := by
    cases r with
    | none => exact hS
    | some x => exact hS.cons hok
  obtain ⟨t2, a1, b1⟩ := kk r μ' hq p l e s m args below meth c T'.heap (locs ++ Lc) ad G cI cN ls hC hc' hL hSr hl ⟨hP1, hD', hS'⟩ T' rfl X'
  refine ⟨t2, st t2 ?_, b1⟩
  have e3 : (r.toList ++ rest).map (eV ad) = (r.map (eV ad)).toList ++ rest.map (eV ad) := by cases r <;> simp
  rw [e3] at a1
  exact a1
theorem Rm_le {d d' n : Nat} (h : d' + 1 ≤ d) (hn : n ≤ 26) : (Rm d').frames + 1 ≤ (Rm d).frames ∧ 8 + (n + 11) + (Rm d').locals ≤ (Rm d).locals := by
  simp only [Rm]
  omega
theorem e_callV {M' : MI} {d' idx n k ci : Nat} {l : Int} {as rest S0 : List Vv} {fs : List (Option Nat)} {Q' : Option Vv → Mm → Prop} (hd : decode M.2.1 pc = .ok (.invokevirtual idx, 3)) (hw : Cond.methodLink M.1.cls idx M'.1 ∈ Gw) (hM : Mc M' d' (vR k l :: as) μ Q') (hO : MOk M' n) (hI : MIn M') (ho : oS k = some (ci, fs)) (hcl : (vwCl[ci]?).map (fun q => q.1) = some M'.1.cls) (hn : as.length = n) (hs : S0 = as.reverse ++ vR k l :: rest) (hdd : d' + 1 ≤ d) (hm : M'.2.2.1 ≤ 26) (hw8 : wds rest ≤ 8) (kk : ∀ (r : Option Vv) (μ' : Mm), Q' r μ' → Ev M d (pc + 3) L (r.toList ++ rest) μ' Q) : Ev M d pc L S0 μ Q := by
  subst hs
  intro p la e s m args below meth c H locs ad G cI cN ls hC hc hL hS hl hW
  have hSr : okS rest := fun v hv => hS v (List.mem_append_right _ (List.mem_cons_of_mem _ hv))
  have hSk : okV (vR k l) := hS _ (List.mem_append_right _ List.mem_cons_self)
  have hSa : okS (vR k l :: as) := fun v hv => (List.mem_cons.mp hv).elim (fun h => h ▸ hSk) (fun h => hS v (List.mem_append_left _ (List.mem_reverse.mpr h)))
  obtain ⟨g1, g2, g3, g4, g5⟩ := hO
  have hts := hC.2.2.2.2.2.1
  obtain ⟨q0, -, h2⟩ := eW_at (ad := ad) (cI := cI) (cN := cN) hSk
  have h3 := h2 μ
  unfold eE at h3
  rw [ho] at h3
  have hcl2 : ∃ q, vwCl[ci]? = some q ∧ q.1 = M'.1.cls := by
    cases h : vwCl[ci]? with
    | none => rw [h] at hcl; cases hcl
    | some q => rw [h] at hcl; exact ⟨q, rfl, Option.some.inj hcl⟩
  obtain ⟨q, hq1, hq2⟩ := hcl2
  have hrecv := va_recv hC.2.2.2.2.2.2.2.1 hW.1 hq1 h3
  rw [hq2] at hrecv
  have hrun := va_runV (As := as.map (eV ad)) (rest := rest.map (eV ad)) (b := ad k l) (g := F0 m pc ls ((as.reverse ++ vR k l :: rest).map (eV ad))) (H := H) (locs := locs) (cells := 0) (slots := 0) (C := M'.1.cls) (index := idx) (n := n) (below := below) (meth := meth) (e := e) (R := Rm d)
    (bytes := M'.2.1) (maxL := M'.2.2.1) (ret := M'.2.2.2) ⟨hC.1, hC.2.1, hC.2.2.2.1, hC.2.2.2.2.1, hts⟩ (hM la ad G cI cN hSa hc)
    ⟨⟨rfl, rfl, (Rm_le hdd hm).1, (Rm_le hdd hm).2, fun w hw' a' U hU => (List.mem_cons.mp hw').elim (fun h => h ▸ Gw_before hts hU _ g2) (Gw_before hts hU w), List.mem_cons_self, hts _ g2, hts _ g1, g3, fun sig h => by rw [h] at g4; exact (Option.some.inj g4).symm, hts _ hw⟩, hts _ hI.1, hts _ hI.2⟩
    ⟨Mc.start (M' := M') (d' := d') (Q' := Q'), hrecv, fun U hU hWU => ⟨rfl, by rw [hU]; exact hW.1, hW.2.1, va_K.moved hWU.alike hC.2.2.2.2.2.2.2.1, hC.2.2.2.2.2.2.2.2.warm hWU⟩⟩ rfl (by simpa using hn) hl.1 (by simp [eV]) (lv_room (by rw [wds_eq]; exact hw8)) hd ⟨Nat.le_refl 0, Nat.le_refl 0⟩
  exact e_back (M' := M') (pc' := pc) (as := as) hC hL hSr hl hW hrun kk
theorem e_callS {M' : MI} {d' idx n : Nat} {as rest S0 : List Vv} {Q' : Option Vv → Mm → Prop} (hd : decode M.2.1 pc = .ok (.invokestatic idx, 3)) (hw : Cond.methodLink M.1.cls idx M'.1 ∈ Gw) (hM : Mc M' d' as μ Q') (hO : MOk M' n) (hI : MSt M') (hn : as.length = n) (hs : S0 = as.reverse ++ rest) (hdd : d' + 1 ≤ d) (hm : M'.2.2.1 ≤ 26) (hw8 : wds rest ≤ 8) (kk : ∀ (r : Option Vv) (μ' : Mm), Q' r μ' → Ev M d (pc + 3) L (r.toList ++ rest) μ' Q) : Ev M d pc L S0 μ Q := by
  subst hs
  intro p la e s m args below meth c H locs ad G cI cN ls hC hc hL hS hl hW
  have hSr : okS rest := fun v hv => hS v (List.mem_append_right _ hv)
  have hSa : okS as := fun v hv => hS v (List.mem_append_left _ (List.mem_reverse.mpr hv))
  obtain ⟨g1, g2, g3, g4, g5⟩ := hO
  have hts := hC.2.2.2.2.2.1
  have hrun := va_runS (As := as.map (eV ad)) (rest := rest.map (eV ad)) (g := F0 m pc ls ((as.reverse ++ rest).map (eV ad))) (H := H) (locs := locs) (cells := 0) (slots := 0) (index := idx) (n := n) (below := below) (meth := meth) (e := e) (R := Rm d)
    (bytes := M'.2.1) (maxL := M'.2.2.1) (ret := M'.2.2.2) ⟨hC.1, hC.2.1, hC.2.2.2.1, hC.2.2.2.2.1, hts⟩ (hM la ad G cI cN hSa hc)
    ⟨⟨rfl, rfl, (Rm_le hdd hm).1, (Rm_le hdd hm).2, fun w hw' a' U hU => (List.mem_cons.mp hw').elim (fun h => h ▸ Gw_before hts hU _ g2) (Gw_before hts hU w), List.mem_cons_self, hts _ g2, hts _ g1, g3, fun sig h => by rw [h] at g4; exact (Option.some.inj g4).symm, hts _ hw⟩, hts _ hI⟩
    ⟨Mc.start (M' := M') (d' := d') (Q' := Q'), fun U hU hWU => ⟨rfl, by rw [hU]; exact hW.1, hW.2.1, va_K.moved hWU.alike hC.2.2.2.2.2.2.2.1, hC.2.2.2.2.2.2.2.2.warm hWU⟩⟩ rfl (by simpa using hn) hl.1 (by simp) (lv_room (by rw [wds_eq]; exact hw8)) hd ⟨Nat.le_refl 0, Nat.le_refl 0⟩
  exact e_back (M' := M') (pc' := pc) (as := as) hC hL hSr hl hW hrun kk
/-- a call of the nest's private static method from another class -/
theorem e_callN {M' : MI} {d' idx n : Nat} {host : String} {as rest S0 : List Vv} {Q' : Option Vv → Mm → Prop} (hd : decode M.2.1 pc = .ok (.invokestatic idx, 3)) (hw : ∀ s, Nw s → va_Nw (.methodLinkNest M.1.cls idx M'.1 host) s) (hM : Mc M' d' as μ Q') (hO : MOk M' n) (hI : MSt M') (hn : as.length = n) (hs : S0 = as.reverse ++ rest) (hdd : d' + 1 ≤ d) (hm : M'.2.2.1 ≤ 26) (hw8 : wds rest ≤ 8) (kk : ∀ (r : Option Vv) (μ' : Mm), Q' r μ' → Ev M d (pc + 3) L (r.toList ++ rest) μ' Q) : Ev M d pc L S0 μ Q := by
  subst hs
  intro p la e s m args below meth c H locs ad G cI cN ls hC hc hL hS hl hW
  have hSr : okS rest := fun v hv => hS v (List.mem_append_right _ hv)
  have hSa : okS as := fun v hv => hS v (List.mem_append_left _ (List.mem_reverse.mpr hv))
  obtain ⟨g1, g2, g3, g4, g5⟩ := hO
  have hts := hC.2.2.2.2.2.1
  have hrun := va_runSN (As := as.map (eV ad)) (rest := rest.map (eV ad)) (g := F0 m pc ls ((as.reverse ++ rest).map (eV ad))) (H := H) (locs := locs) (cells := 0) (slots := 0) (index := idx) (n := n) (below := below) (meth := meth) (e := e) (R := Rm d) (host := host)
    (bytes := M'.2.1) (maxL := M'.2.2.1) (ret := M'.2.2.2) ⟨hC.1, hC.2.1, hC.2.2.2.1, hC.2.2.2.2.1, hts⟩ (hM la ad G cI cN hSa hc)
    ⟨⟨⟨rfl, rfl, (Rm_le hdd hm).1, (Rm_le hdd hm).2, fun w hw' a' U hU => (List.mem_cons.mp hw').elim (fun h => h ▸ Gw_before hts hU _ g2) (Gw_before hts hU w), List.mem_cons_self⟩, hts _ g2, hts _ g1, g3, fun sig h => by rw [h] at g4; exact (Option.some.inj g4).symm, va_Nw.use rfl (hw s hC.2.2.2.2.2.2.2.2)⟩, hts _ hI, trivial⟩
    ⟨Mc.start (M' := M') (d' := d') (Q' := Q'), fun U hU hWU => ⟨rfl, by rw [hU]; exact hW.1, hW.2.1, va_K.moved hWU.alike hC.2.2.2.2.2.2.2.1, hC.2.2.2.2.2.2.2.2.warm hWU⟩⟩ rfl (by simpa using hn) hl.1 (by simp) (lv_room (by rw [wds_eq]; exact hw8)) hd ⟨Nat.le_refl 0, Nat.le_refl 0⟩
  exact e_back (M' := M') (pc' := pc) (as := as) hC hL hSr hl hW hrun kk
theorem e_min {idx : Nat} {a b : Int} (hd : decode M.2.1 pc = .ok (.invokestatic idx, 3)) (hw : Cond.methodLink M.1.cls idx Lib.Math.min.name ∈ Gw) (hw2 : Cond.static Lib.Math.min.name ∈ Gw ∧ Cond.initialized "java/lang/Math" ∈ Gw ∧ Cond.code Lib.Math.min.name Lib.Math.min.code 2 (some .int) ∈ Gw) (hdd : 1 ≤ d) (hw8 : wds S ≤ 8) (ha : inR a) (hb : inR b) (kk : Ev M d (pc + 3) L (vI (min a b) :: S) μ Q) : Ev M d pc L (vI b :: vI a :: S) μ Q := by
  intro p la e s m args below meth c H locs ad G cI cN ls hC hc hL hS hl hW
  have hts := hC.2.2.2.2.2.1
  refine va_mmin hC.1 hC.2.1 (hC.2.2.2.1.trans hl.1.symm) hC.2.2.2.2.1 (hts _ hw) (hts _ hw2.1) (hts _ hw2.2.1) (hts _ hw2.2.2) (by simp only [Rm]; omega) (by rw [wds_eq]; simp only [Rm]; omega) (by simp [Rm]) (by simp [Rm]) hd ?_
  have e1 : (if Int32.ofInt b < Int32.ofInt a then Int32.ofInt b else Int32.ofInt a) = Int32.ofInt (min a b) := by
    simp only [i_lt hb ha]
    split <;> congr 1 <;> omega
  rw [e1]
  exact kk p la e s m args below meth c H locs ad G cI cN ls hC hc hL (hS.tl.tl.cons trivial) hl hW
theorem e_max {idx : Nat} {a b : Int} (hd : decode M.2.1 pc = .ok (.invokestatic idx, 3)) (hw : Cond.methodLink M.1.cls idx Lib.Math.max.name ∈ Gw) (hw2 : Cond.static Lib.Math.max.name ∈ Gw ∧ Cond.initialized "java/lang/Math" ∈ Gw ∧ Cond.code Lib.Math.max.name Lib.Math.max.code 2 (some .int) ∈ Gw) (hdd : 1 ≤ d) (hw8 : wds S ≤ 8) (ha : inR a) (hb : inR b) (kk : Ev M d (pc + 3) L (vI (max a b) :: S) μ Q) : Ev M d pc L (vI b :: vI a :: S) μ Q := by
  intro p la e s m args below meth c H locs ad G cI cN ls hC hc hL hS hl hW
  have hts := hC.2.2.2.2.2.1
  refine va_mmax hC.1 hC.2.1 (hC.2.2.2.1.trans hl.1.symm) hC.2.2.2.2.1 (hts _ hw) (hts _ hw2.1) (hts _ hw2.2.1) (hts _ hw2.2.2) (by simp only [Rm]; omega) (by rw [wds_eq]; simp only [Rm]; omega) (by simp [Rm]) (by simp [Rm]) hd ?_
  have e1 : ∀ x y : Int32, (if x < y then y else x) = if ¬ (x < y) then x else y := fun x y => by split <;> simp_all
  have e2 : (if Int32.ofInt a < Int32.ofInt b then Int32.ofInt b else Int32.ofInt a) = Int32.ofInt (max a b) := by
    simp only [i_lt ha hb]
    split <;> congr 1 <;> omega
  rw [e2]
  exact kk p la e s m args below meth c H locs ad G cI cN ls hC hc hL (hS.tl.tl.cons trivial) hl hW
/-- the locals at the entry -/
def entA : List Vv → List (Option Vv)
  | [] => []
  | v :: t => if isLong (some v) then some v :: none :: entA t else some v :: entA t
theorem entA_at {ad : Nat → Int → Nat} : ∀ (as : List Vv) (i0 j : Nat) (v : Vv), (entA as)[j]? = some (some v) → (i0 + j, eV ad v) ∈ lv_args i0 (as.map (eV ad))
  | [], i0, j, v, h => by simp [entA] at h
  | u :: t, i0, j, v, h => by
    have hcat := eV_cat (ad := ad) u
    rw [entA] at h
    simp only [List.map_cons, lv_args]
    cases hu : isLong (some u) with
    | true =>
      rw [hu] at h hcat
      have hcat : (eV ad u).category = 2 := by simpa using hcat
      rw [if_pos hcat]
      simp only [if_true] at h
      match j, h with
      | 0, h => simp at h; subst h; simp
      | 1, h => simp at h
      | j + 2, h =>
        have := entA_at (ad := ad) t (i0 + 2) j v (by simpa using h)
        exact List.mem_cons_of_mem _ (by rw [show i0 + (j + 2) = i0 + 2 + j by omega]; exact this)
    | false =>
      rw [hu] at h hcat
      have hcat : ¬ (eV ad u).category = 2 := by simpa using hcat
      rw [if_neg hcat]
      simp only [Bool.false_eq_true, if_false] at h
      match j, h with
      | 0, h => simp at h; subst h; simp
      | j + 1, h =>
        have := entA_at (ad := ad) t (i0 + 1) j v (by simpa using h)
        exact List.mem_cons_of_mem _ (by rw [show i0 + (j + 1) = i0 + 1 + j by omega]; exact this)
theorem entA_ok : ∀ (as : List Vv), okS as → okL (entA as)
  | [], _ => fun _ h => absurd h List.not_mem_nil
  | u :: t, h => by
    have ih := entA_ok t h.tl
    rw [entA]
    split
    · intro x hx
      rcases List.mem_cons.mp hx with rfl | hx
      · exact h.hd
      · rcases List.mem_cons.mp hx with rfl | hx
        · trivial
        · exact ih x hx
    · intro x hx
      rcases List.mem_cons.mp hx with rfl | hx
      · exact h.hd
      · exact ih x hx
theorem sl_len {ad : Nat → Int → Nat} : ∀ as : List Vv, (lg_sl (as.map (eV ad))).length = (entA as).length
  | [] => rfl
  | u :: t => by
    have ih := sl_len (ad := ad) t
    have hcat := eV_cat (ad := ad) u
    unfold lg_sl at ih ⊢
    simp only [List.map_cons, List.flatMap_cons, List.length_append, ih]
    rw [entA]
    cases hu : isLong (some u) with
    | true => rw [hu] at hcat; rw [if_pos (by simpa using hcat)]; simp; omega
    | false => rw [hu] at hcat; rw [if_neg (by simpa using hcat)]; simp; omega
/-- a contract, from the walk of the body -/
theorem Mc.of {as : List Vv} (hn : plainName M.1.cls = true) (hL : leL L (entA as ++ List.replicate (M.2.2.1 - (entA as).length) none)) (hlen : (entA as).length ≤ M.2.2.1) (k : Ev M d 0 L [] μ Q) : Mc M d as μ Q := by
  intro l ad G cI cN hok hc
  refine Met.ofW (cc := M.2.1) (maxL := M.2.2.1) (ret := M.2.2.2) hn rfl ?_
  intro p e s m args below meth c s₁ B hml hv
  obtain ⟨rfl, hP, hD, hK, hNw⟩ := hv
  have hts : ∀ w ∈ Gw, w.before (as.map (eV ad)).toArray s = true := fun w hw => atoms_spec (ws := .code M.1 M.2.1 M.2.2.1 M.2.2.2 :: Gw) B.pre w (List.mem_cons_of_mem _ hw)
  have hl := lv_entry (as.map (eV ad)) (n := M.2.2.1) (by rw [sl_len]; exact hlen)
  rw [lg_entry_eq]
  generalize (lg_sl (as.map (eV ad)) ++ List.replicate (M.2.2.1 - (lg_sl (as.map (eV ad))).length) Slot.unset).toArray = ls at hl ⊢
  have hat : ∀ (i : Nat) (v : Vv), L[i]? = some (some v) → (entA as)[i]? = some (some v) := by
    intro i v hv
    have h1 := leL_at _ _ hL i v hv
    by_cases hi : i < (entA as).length
    · rwa [List.getElem?_append_left hi] at h1
    · rw [List.getElem?_append_right (by omega), List.getElem?_replicate] at h1
      split at h1 <;> cases h1
  refine k p l e s m _ below meth c s.heap [] ad G cI cN ls ⟨B.exec, B.bytes, B.returns, hml, findClass_of_methodNamed B.named, hts, B.notSynchronized, hK, hNw⟩ hc ?_ okS.nil ⟨hl.1, hl.2.1, fun i v hv => ?_⟩ ⟨hP, hD, va_S.rf⟩
  · intro x hx
    cases x with
    | none => trivial
    | some v =>
      obtain ⟨i, hi⟩ := List.getElem?_of_mem hx
      exact entA_ok as hok (some v) (List.mem_of_getElem? (hat i v hi))
  · have := hl.2.2 _ (entA_at as 0 i v (hat i v hv))
    simpa using this
end EV
