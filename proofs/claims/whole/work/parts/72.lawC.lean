/-! THE LAW: its calls -/
abbrev lA (s : State) : Nat → Prop := fun q => s.heap.size ≤ q
/-- the world between the law's calls -/
def LW (ad : Nat → Int → Nat) (G : va_G) (cI cN : ClassId) (μ : Mm) (s : State) (H : Heap) (locs : List Loc) : Prop := Can μ ∧ va_P G vwCl (eW ad cI cN μ) H ∧ va_D (lA s) (eW ad cI cN μ) ∧ va_S (lA s) s.heap H locs
def LC (p : Program) (s : State) (m : MethodId) (meth : Method) (c : Code) (b L : Nat) (xs : Nat → Int32) (G : va_G) (cI cN : ClassId) : Prop := lw_At p s m meth c b L xs ∧ va_K G vwCl (tyL cI cN) s ∧ Nw s ∧ L ≤ 3072
abbrev Lg (p : Program) (l : Launch) (e : Env) (s : State) (m : MethodId) (below : List Frame) (meth : Method) (c : Code) (b : Nat) (H : Heap) (locs : List Loc) (g : JFrame) : Prop := W p l e room_1 s m #[Value.ref b] below meth c H locs 600000 7302250 (lw_Z below #[Value.ref b] s) g
theorem eW_mem {ad : Nat → Int → Nat} {cI cN : ClassId} {μ : Mm} {k : Nat} {q : Nat × va_E} (h : (eW ad cI cN μ)[k]? = some q) : ∃ x, cellsL[k]? = some x ∧ q = (ad x.1 x.2, eE ad cI cN x.1 x.2 (μ x.1 x.2)) := by
  unfold eW at h
  rw [List.getElem?_map] at h
  cases hx : cellsL[k]? with
  | none => rw [hx] at h; cases h
  | some x => rw [hx] at h; exact ⟨x, rfl, (Option.some.inj h).symm⟩
theorem LW.aq {ad : Nat → Int → Nat} {G : va_G} {cI cN : ClassId} {μ : Mm} {s : State} {H : Heap} {locs : List Loc} (h : LW ad G cI cN μ s H locs) : va_D (Aq ad) (eW ad cI cN μ) := by
  refine ⟨h.2.2.1.1, fun k q hq => ?_⟩
  obtain ⟨x, hx, rfl⟩ := eW_mem hq
  exact ⟨x, List.mem_of_getElem? hx, rfl⟩
theorem LW.ge {ad : Nat → Int → Nat} {G : va_G} {cI cN : ClassId} {μ : Mm} {s : State} {H : Heap} {locs : List Loc} (h : LW ad G cI cN μ s H locs) : ∀ q, Aq ad q → lA s q := by
  rintro q ⟨x, hx, rfl⟩
  obtain ⟨k, hk⟩ := List.getElem?_of_mem hx
  exact h.2.2.1.2 k (ad x.1 x.2, eE ad cI cN x.1 x.2 (μ x.1 x.2)) (by unfold eW; rw [List.getElem?_map, hk]; rfl)
set_option maxHeartbeats 4000000 in
theorem lw_call {p : Program} {l : Launch} {e : Env} {s : State} {m : MethodId} {below : List Frame} {meth : Method} {c : Code} {b L : Nat} {xs : Nat → Int32} {G : va_G} {cI cN : ClassId} {ad : Nat → Int → Nat} {H : Heap} {locs : List Loc} {ls : Array Slot} {μ : Mm} {pc : Nat} {M' : MI} {d' n : Nat} {as : List Vv} {rest st : List Value} {fs : List (Option Nat)} {ci : Nat} {Q' : Option Vv → Mm → Prop} (k : Nat) (idx : Nat)
    (hC : LC p s m meth c b L xs G cI cN) (hW : LW ad G cI cN μ s H locs) (hM : Mc M' d' (vR k 0 :: as) μ Q') (hd : decode code pc = .ok (.invokevirtual idx, 3)) (hw : Cond.methodLink R_law idx M'.1 ∈ lw_tbl) (hO : MOk M' n) (hI : MIn M') (ho : oS k = some (ci, fs)) (hcl : (vwCl[ci]?).map (fun q => q.1) = some M'.1.cls) (hn : as.length = n) (hok : okS (vR k 0 :: as)) (hdd : d' ≤ 8) (hm : M'.2.2.1 ≤ 26) (hls : ls.size = 4) (hst : st = (as.map (eV ad)).reverse ++ .ref (ad k 0) :: rest) (hw8 : (rest.map fun v => v.category).sum ≤ 8)
    (kk : ∀ (r : Option Vv) (μ' : Mm) (H1 : Heap) (locs1 : List Loc), Q' r μ' → LW ad G cI cN μ' s H1 locs1 → Lg p l e s m below meth c b H1 locs1 (F0 m (pc + 3) ls ((r.map (eV ad)).toList ++ rest))) : Lg p l e s m below meth c b H locs (F0 m pc ls st) := by
  subst hst
  have hWo := hW
  obtain ⟨hc, hP, hD, hS⟩ := hW
  obtain ⟨⟨hx, hb, hr, hml, hown, htl, hX, hbl, hlocks, hgv⟩, hK, hNw, hL⟩ := hC
  have hts : ∀ w ∈ Gw, w.before #[Value.ref b] s = true := fun w hw => htl w (Gw_good w hw).1
  obtain ⟨g1, g2, g3, g4, g5⟩ := hO
  have hSk : okV (vR k 0) := hok _ List.mem_cons_self
  obtain ⟨q0, -, h2⟩ := eW_at (ad := ad) (cI := cI) (cN := cN) hSk
  have h3 := h2 μ
  unfold eE at h3
  rw [ho] at h3
  have hcl2 : ∃ q, vwCl[ci]? = some q ∧ q.1 = M'.1.cls := by
    cases h : vwCl[ci]? with
    | none => rw [h] at hcl; cases hcl
    | some q => rw [h] at hcl; exact ⟨q, rfl, Option.some.inj hcl⟩
  obtain ⟨q, hq1, hq2⟩ := hcl2
  have hrecv := va_recv hK hP hq1 h3
  rw [hq2] at hrecv
  have hrm : (Rm d').frames + 1 ≤ room_1.frames ∧ 8 + (M'.2.2.1 + 11) + (Rm d').locals ≤ room_1.locals := by
    simp only [Rm, room_1]
    omega
  have hrun := va_runV (As := as.map (eV ad)) (rest := rest) (b := ad k 0) (g := F0 m pc ls ((as.map (eV ad)).reverse ++ .ref (ad k 0) :: rest)) (H := H) (locs := locs) (cells := 600000) (slots := 7302250) (C := M'.1.cls) (index := idx) (n := n) (below := below) (meth := meth) (e := e) (R := room_1)
    (bytes := M'.2.1) (maxL := M'.2.2.1) (ret := M'.2.2.2) ⟨hx, hb, hml, hown, htl⟩ (hM l ad G cI cN hok hc)
    ⟨⟨rfl, rfl, hrm.1, hrm.2, fun w hw' a' U hU => (List.mem_cons.mp hw').elim (fun h => h ▸ Gw_before hts hU _ g2) (Gw_before hts hU w), List.mem_cons_self, hts _ g2, hts _ g1, g3, fun sig h => by rw [h] at g4; exact (Option.some.inj g4).symm, htl _ hw⟩, hts _ hI.1, hts _ hI.2⟩
    ⟨Mc.start (M' := M') (d' := d') (Q' := Q'), hrecv, fun U hU hWU => ⟨rfl, by rw [hU]; exact hP, hWo.aq, va_K.moved hWU.alike hK, hNw.warm hWU⟩⟩ rfl (by simpa using hn) hls rfl (lv_room hw8) hd ⟨by decide, by decide⟩
  intro T hT X
  obtain ⟨v, st₀, t, T', Lc, h0, X', hLc, e1, e2, ⟨r, μ', hv, hok', hc', hq, hP', hD', hF'⟩, st⟩ := hrun T hT X
  have hv : v = r.map (eV ad) := by cases hv; rfl
  subst hv
  have hz : H.size ≤ t.heap.size := by rw [← h0]; exact hF'.1
  have hS' : va_S (lA s) s.heap T'.heap (locs ++ Lc) := by
    refine ⟨Nat.le_trans hS.1 (by rw [e1]; exact hz), fun q h1 h2 => ?_, fun q hq => ?_⟩
    · rw [e1, hF'.2 q (by rw [h0]; exact Nat.lt_of_lt_of_le h1 hS.1) (fun h => h2 (hWo.ge q h)), h0]
      exact hS.2.1 q h1 h2
    · rcases List.mem_append.mp hq with h | h
      · exact hS.2.2 q h
      · exact hWo.ge _ (hLc q h)
  have hP1 : va_P G vwCl (eW ad cI cN μ') T'.heap := by rw [e1]; exact hP'
  have hD1 : va_D (lA s) (eW ad cI cN μ') := ⟨hD'.1, fun k q hq => hWo.ge _ (hD'.2 k q hq)⟩
  obtain ⟨t2, a1, b1⟩ := kk r μ' T'.heap (locs ++ Lc) hq ⟨hc', hP1, hD1, hS'⟩ T' rfl X'
  exact ⟨t2, st t2 a1, b1⟩
/-- an element of the script -/
abbrev ag (xs : Nat → Int32) (i k : Nat) : Int := (xs (i + k)).toInt
theorem ag_in {xs : Nat → Int32} {i k : Nat} : inR (ag xs i k) := ⟨Int32.le_toInt _, Int32.toInt_lt _⟩
theorem ag_v {ad : Nat → Int → Nat} {xs : Nat → Int32} {i k : Nat} : Value.int (xs (i + k)) = eV ad (vI (ag xs i k)) := by
  show Value.int (xs (i + k)) = .int (Int32.ofInt (xs (i + k)).toInt)
  rw [Int32.ofInt_toInt]
abbrev lsv (b : Nat) (ad : Nat → Int → Nat) (i : Nat) : List (Nat × Value) := [(3, .int (Int32.ofInt (i : Int))), (2, .ref (ad 21 0)), (1, .ref (ad 0 0)), (0, .ref b)]
set_option maxHeartbeats 4000000 in
theorem lw_arg {p : Program} {l : Launch} {e : Env} {s : State} {m : MethodId} {below : List Frame} {meth : Method} {c : Code} {b L : Nat} {xs : Nat → Int32} {G : va_G} {cI cN : ClassId} {ad : Nat → Int → Nat} {H : Heap} {locs : List Loc} {ls : Array Slot} {μ : Mm} {pc i : Nat} {st : List Value} (k : Nat) (hC : LC p s m meth c b L xs G cI cN) (hW : LW ad G cI cN μ s H locs) (hl : lv_has ls 4 (lsv b ad i)) (hi : i + 6 ≤ L) (hk : k ≤ 5)
    (d1 : decode code pc = .ok (.aload_n 0, 1)) (d2 : decode code (pc + 1) = .ok (.iload_n 3, 1)) (d3 : decode code (pc + 2) = .ok (.iconst (k : Int), 1)) (d4 : decode code (pc + 3) = .ok (.iadd, 1)) (d5 : decode code (pc + 4) = .ok (.iaload, 1)) (kk : Lg p l e s m below meth c b H locs (F0 m (pc + 5) ls (eV ad (vI (ag xs i k)) :: st))) : Lg p l e s m below meth c b H locs (F0 m pc ls st) := by
  obtain ⟨hc, hP, hD, hS⟩ := hW
  obtain ⟨⟨hx, hb, hr, hml, hown, htl, hX, hbl, hlocks, hgv⟩, hK, hNw, hL⟩ := hC
  refine lv_aload_n hx hb d1 rfl (lv_at hl 3 rfl) ?_
  refine lv_iload_n hx hb d2 rfl (lv_at hl 0 rfl) ?_
  refine lv_iconst (v := Int32.ofInt (k : Int)) hx hb d3 rfl ?_
  refine lv_iadd hx hb d4 ?_
  rw [← Int32.ofInt_add]
  have hj : ((i : Int) + (k : Int)).toNat = i + k := by omega
  have hin : vp_in (Int32.ofInt ((i : Int) + (k : Int))) L := by
    have := vp_in_ofInt (a := (i : Int) + (k : Int)) (n := (L : Int)) (by omega) (by omega) (by omega)
    simpa using this
  refine va_sld hx hb hX hbl (Nat.not_le.mpr hbl) hS hin d5 ?_
  rw [nat_ofInt (by omega) (by omega), hj, ag_v (ad := ad)]
  exact kk
theorem vm_in : okV (vR 0 0) ∧ okV (vR 21 0) := by
  constructor
  · show (0, (0 : Int)) ∈ cellsL
    decide
  · show (21, (0 : Int)) ∈ cellsL
    decide
theorem ok_is : ∀ (k : Nat) (h : okV (vR k 0)) (as : List Int), okS (vR k 0 :: as.map vI) := fun k h as v hv => by
  rcases List.mem_cons.mp hv with rfl | hv
  · exact h
  · obtain ⟨a, -, rfl⟩ := List.mem_map.mp hv
    trivial

theorem rw8 {ad : Nat → Int → Nat} (r : Option Vv) : (((r.map (eV ad)).toList).map fun v => v.category).sum ≤ 8 := by
  cases r with
  | none => simp
  | some v =>
    rcases v with a | a | r
    · exact Nat.le_of_ble_eq_true rfl
    · exact Nat.le_of_ble_eq_true rfl
    · cases r <;> exact Nat.le_of_ble_eq_true rfl
theorem lg_same (x : Int64) : lg_cmp x x = 0 := by
  unfold lg_cmp
  simp

set_option maxRecDepth 100000 in
set_option maxHeartbeats 4000000 in
theorem lw_row {p : Program} {l : Launch} {e : Env} {s : State} {m : MethodId} {below : List Frame} {meth : Method} {c : Code} {b L : Nat} {xs : Nat → Int32} {G : va_G} {cI cN : ClassId} {ad : Nat → Int → Nat} {H : Heap} {locs : List Loc} {ls : Array Slot} {μ : Mm} {i : Nat} (hC : LC p s m meth c b L xs G cI cN) (hW : LW ad G cI cN μ s H locs) (hJ : J μ) (hl : lv_has ls 4 (lsv b ad i)) (hi : i + 6 ≤ L) (kk : ∀ (μ1 : Mm) (H1 : Heap) (locs1 : List Loc), J μ1 → LW ad G cI cN μ1 s H1 locs1 → Lg p l e s m below meth c b H1 locs1 (F0 m 945 ls [])) : Lg p l e s m below meth c b H locs (F0 m 148 ls []) := by
  have hx := hC.1.1
  have hb := hC.1.2.1
  obtain ⟨QX, hX, hcp⟩ := cp_row hJ (ag xs i 1) (ag xs i 2) ag_in ag_in
  refine lv_aload_n hx hb (dec_at dLw0 22) rfl (lv_at hl 2 rfl) ?_
  refine lw_arg 1 hC hW hl hi (by decide) (dec_at dLw0 23) (dec_at dLw0 24) (dec_at dLw0 25) (dec_at dLw0 26) (dec_at dLw0 27) ?_
  refine lw_arg 2 hC hW hl hi (by decide) (dec_at dLw0 28) (dec_at dLw0 29) (dec_at dLw0 30) (dec_at dLw0 31) (dec_at dLw0 32) ?_
  refine lw_call 0 13 (as := [vI (ag xs i 1), vI (ag xs i 2)]) (rest := []) hC hW hX (dec_at dLw0 33) (List.mem_append_right _ (List.mem_append_left _ (List.mem_of_getElem? (i := 176) rfl))) oX5_row iX5_row rfl rfl rfl (ok_is 0 vm_in.1 [ag xs i 1, ag xs i 2]) (by decide) (by decide) hl.1 rfl (by decide) (fun r ν H1 locs1 hQ hW1 => ?_)
  obtain ⟨QM, hM, hcq⟩ := hcp r ν hQ
  refine lv_aload_n hx hb (dec_at dLw0 34) rfl (lv_at hl 1 rfl) ?_
  refine lw_arg 1 hC hW1 hl hi (by decide) (dec_at dLw0 35) (dec_at dLw0 36) (dec_at dLw0 37) (dec_at dLw0 38) (dec_at dLw0 39) ?_
  refine lw_arg 2 hC hW1 hl hi (by decide) (dec_at dLw0 40) (dec_at dLw0 41) (dec_at dLw0 42) (dec_at dLw0 43) (dec_at dLw0 44) ?_
  refine lw_call 21 17 (as := [vI (ag xs i 1), vI (ag xs i 2)]) (rest := (r.map (eV ad)).toList) hC hW1 hM (dec_at dLw0 45) (List.mem_append_right _ (List.mem_append_right _ (List.mem_append_right _ (List.mem_append_left _ (List.mem_of_getElem? (i := 146) rfl))))) oX6_row iX6_row rfl rfl rfl (ok_is 21 vm_in.2 [ag xs i 1, ag xs i 2]) (by decide) (by decide) hl.1 (by simp) (rw8 r) (fun r1 ν1 H2 locs2 hQ1 hW2 => ?_)
  obtain ⟨hJ1, v, rfl, rfl⟩ := hcq r1 ν1 hQ1
  refine lv_icmp_eq (tgt := 945) hx hb (dec_at dLw0 46) (by decide) (fun _ => kk ν1 H2 locs2 hJ1 hW2) (fun q => absurd rfl q)

set_option maxRecDepth 100000 in
set_option maxHeartbeats 4000000 in
theorem lw_put {p : Program} {l : Launch} {e : Env} {s : State} {m : MethodId} {below : List Frame} {meth : Method} {c : Code} {b L : Nat} {xs : Nat → Int32} {G : va_G} {cI cN : ClassId} {ad : Nat → Int → Nat} {H : Heap} {locs : List Loc} {ls : Array Slot} {μ : Mm} {i : Nat} (hC : LC p s m meth c b L xs G cI cN) (hW : LW ad G cI cN μ s H locs) (hJ : J μ) (hl : lv_has ls 4 (lsv b ad i)) (hi : i + 6 ≤ L) (kk : ∀ (μ1 : Mm) (H1 : Heap) (locs1 : List Loc), J μ1 → LW ad G cI cN μ1 s H1 locs1 → Lg p l e s m below meth c b H1 locs1 (F0 m 945 ls [])) : Lg p l e s m below meth c b H locs (F0 m 181 ls []) := by
  have hx := hC.1.1
  have hb := hC.1.2.1
  obtain ⟨QX, hX, hcp⟩ := cp_put hJ (ag xs i 1) (ag xs i 2) (ag xs i 3) ag_in ag_in ag_in
  refine lv_aload_n hx hb (dec_at dLw1 1) rfl (lv_at hl 2 rfl) ?_
  refine lw_arg 1 hC hW hl hi (by decide) (dec_at dLw1 2) (dec_at dLw1 3) (dec_at dLw1 4) (dec_at dLw1 5) (dec_at dLw1 6) ?_
  refine lw_arg 2 hC hW hl hi (by decide) (dec_at dLw1 7) (dec_at dLw1 8) (dec_at dLw1 9) (dec_at dLw1 10) (dec_at dLw1 11) ?_
  refine lw_arg 3 hC hW hl hi (by decide) (dec_at dLw1 12) (dec_at dLw1 13) (dec_at dLw1 14) (dec_at dLw1 15) (dec_at dLw1 16) ?_
  refine lw_call 0 18 (as := [vI (ag xs i 1), vI (ag xs i 2), vI (ag xs i 3)]) (rest := []) hC hW hX (dec_at dLw1 17) (List.mem_append_right _ (List.mem_append_left _ (List.mem_of_getElem? (i := 191) rfl))) oX5_put iX5_put rfl rfl rfl (ok_is 0 vm_in.1 [ag xs i 1, ag xs i 2, ag xs i 3]) (by decide) (by decide) hl.1 rfl (by decide) (fun r ν H1 locs1 hQ hW1 => ?_)
  obtain ⟨QM, hM, hcq⟩ := hcp r ν hQ
  refine lv_aload_n hx hb (dec_at dLw1 18) rfl (lv_at hl 1 rfl) ?_
  refine lw_arg 1 hC hW1 hl hi (by decide) (dec_at dLw1 19) (dec_at dLw1 20) (dec_at dLw1 21) (dec_at dLw1 22) (dec_at dLw1 23) ?_
  refine lw_arg 2 hC hW1 hl hi (by decide) (dec_at dLw1 24) (dec_at dLw1 25) (dec_at dLw1 26) (dec_at dLw1 27) (dec_at dLw1 28) ?_
  refine lw_arg 3 hC hW1 hl hi (by decide) (dec_at dLw1 29) (dec_at dLw1 30) (dec_at dLw1 31) (dec_at dLw1 32) (dec_at dLw1 33) ?_
  refine lw_call 21 22 (as := [vI (ag xs i 1), vI (ag xs i 2), vI (ag xs i 3)]) (rest := (r.map (eV ad)).toList) hC hW1 hM (dec_at dLw1 34) (List.mem_append_right _ (List.mem_append_right _ (List.mem_append_right _ (List.mem_append_left _ (List.mem_of_getElem? (i := 158) rfl))))) oX6_put iX6_put rfl rfl rfl (ok_is 21 vm_in.2 [ag xs i 1, ag xs i 2, ag xs i 3]) (by decide) (by decide) hl.1 (by simp) (rw8 r) (fun r1 ν1 H2 locs2 hQ1 hW2 => ?_)
  obtain ⟨hJ1, v, rfl, rfl⟩ := hcq r1 ν1 hQ1
  refine lv_icmp_eq (tgt := 945) hx hb (dec_at dLw1 35) (by decide) (fun _ => kk ν1 H2 locs2 hJ1 hW2) (fun q => absurd rfl q)

set_option maxRecDepth 100000 in
set_option maxHeartbeats 4000000 in
theorem lw_lose {p : Program} {l : Launch} {e : Env} {s : State} {m : MethodId} {below : List Frame} {meth : Method} {c : Code} {b L : Nat} {xs : Nat → Int32} {G : va_G} {cI cN : ClassId} {ad : Nat → Int → Nat} {H : Heap} {locs : List Loc} {ls : Array Slot} {μ : Mm} {i : Nat} (hC : LC p s m meth c b L xs G cI cN) (hW : LW ad G cI cN μ s H locs) (hJ : J μ) (hl : lv_has ls 4 (lsv b ad i)) (hi : i + 6 ≤ L) (kk : ∀ (μ1 : Mm) (H1 : Heap) (locs1 : List Loc), J μ1 → LW ad G cI cN μ1 s H1 locs1 → Lg p l e s m below meth c b H1 locs1 (F0 m 945 ls [])) : Lg p l e s m below meth c b H locs (F0 m 224 ls []) := by
  have hx := hC.1.1
  have hb := hC.1.2.1
  obtain ⟨QX, hX, hcp⟩ := cp_lose hJ
  refine lv_aload_n hx hb (dec_at dLw1 38) rfl (lv_at hl 2 rfl) ?_
  refine lw_call 0 23 (as := []) (rest := []) hC hW hX (dec_at dLw1 39) (List.mem_append_right _ (List.mem_append_left _ (List.mem_of_getElem? (i := 203) rfl))) oX5_lose iX5_lose rfl rfl rfl (ok_is 0 vm_in.1 []) (by decide) (by decide) hl.1 rfl (by decide) (fun r ν H1 locs1 hQ hW1 => ?_)
  obtain ⟨QM, hM, hcq⟩ := hcp r ν hQ
  refine lv_aload_n hx hb (dec_at dLw1 40) rfl (lv_at hl 1 rfl) ?_
  refine lw_call 21 27 (as := []) (rest := (r.map (eV ad)).toList) hC hW1 hM (dec_at dLw1 41) (List.mem_append_right _ (List.mem_append_right _ (List.mem_append_right _ (List.mem_append_left _ (List.mem_of_getElem? (i := 162) rfl))))) oX6_lose iX6_lose rfl rfl rfl (ok_is 21 vm_in.2 []) (by decide) (by decide) hl.1 (by simp) (rw8 r) (fun r1 ν1 H2 locs2 hQ1 hW2 => ?_)
  obtain ⟨hJ1, v, rfl, rfl⟩ := hcq r1 ν1 hQ1
  refine lv_icmp_eq (tgt := 945) hx hb (dec_at dLw1 42) (by decide) (fun _ => kk ν1 H2 locs2 hJ1 hW2) (fun q => absurd rfl q)

set_option maxRecDepth 100000 in
set_option maxHeartbeats 4000000 in
theorem lw_corner {p : Program} {l : Launch} {e : Env} {s : State} {m : MethodId} {below : List Frame} {meth : Method} {c : Code} {b L : Nat} {xs : Nat → Int32} {G : va_G} {cI cN : ClassId} {ad : Nat → Int → Nat} {H : Heap} {locs : List Loc} {ls : Array Slot} {μ : Mm} {i : Nat} (hC : LC p s m meth c b L xs G cI cN) (hW : LW ad G cI cN μ s H locs) (hJ : J μ) (hl : lv_has ls 4 (lsv b ad i)) (hi : i + 6 ≤ L) (kk : ∀ (μ1 : Mm) (H1 : Heap) (locs1 : List Loc), J μ1 → LW ad G cI cN μ1 s H1 locs1 → Lg p l e s m below meth c b H1 locs1 (F0 m 945 ls [])) : Lg p l e s m below meth c b H locs (F0 m 237 ls []) := by
  have hx := hC.1.1
  have hb := hC.1.2.1
  obtain ⟨QX, hX, hcp⟩ := cp_corner hJ
  refine lv_aload_n hx hb (dec_at dLw1 45) rfl (lv_at hl 2 rfl) ?_
  refine lw_call 0 28 (as := []) (rest := []) hC hW hX (dec_at dLw1 46) (List.mem_append_right _ (List.mem_append_left _ (List.mem_of_getElem? (i := 207) rfl))) oX5_corner iX5_corner rfl rfl rfl (ok_is 0 vm_in.1 []) (by decide) (by decide) hl.1 rfl (by decide) (fun r ν H1 locs1 hQ hW1 => ?_)
  obtain ⟨QM, hM, hcq⟩ := hcp r ν hQ
  refine lv_aload_n hx hb (dec_at dLw1 47) rfl (lv_at hl 1 rfl) ?_
  refine lw_call 21 31 (as := []) (rest := (r.map (eV ad)).toList) hC hW1 hM (dec_at dLw2 0) (List.mem_append_right _ (List.mem_append_right _ (List.mem_append_right _ (List.mem_append_left _ (List.mem_of_getElem? (i := 166) rfl))))) oX6_corner iX6_corner rfl rfl rfl (ok_is 21 vm_in.2 []) (by decide) (by decide) hl.1 (by simp) (rw8 r) (fun r1 ν1 H2 locs2 hQ1 hW2 => ?_)
  obtain ⟨hJ1, v, rfl, rfl⟩ := hcq r1 ν1 hQ1
  refine lv_icmp_eq (tgt := 945) hx hb (dec_at dLw2 1) (by decide) (fun _ => kk ν1 H2 locs2 hJ1 hW2) (fun q => absurd rfl q)

set_option maxRecDepth 100000 in
set_option maxHeartbeats 4000000 in
theorem lw_place {p : Program} {l : Launch} {e : Env} {s : State} {m : MethodId} {below : List Frame} {meth : Method} {c : Code} {b L : Nat} {xs : Nat → Int32} {G : va_G} {cI cN : ClassId} {ad : Nat → Int → Nat} {H : Heap} {locs : List Loc} {ls : Array Slot} {μ : Mm} {i : Nat} (hC : LC p s m meth c b L xs G cI cN) (hW : LW ad G cI cN μ s H locs) (hJ : J μ) (hl : lv_has ls 4 (lsv b ad i)) (hi : i + 6 ≤ L) (kk : ∀ (μ1 : Mm) (H1 : Heap) (locs1 : List Loc), J μ1 → LW ad G cI cN μ1 s H1 locs1 → Lg p l e s m below meth c b H1 locs1 (F0 m 945 ls [])) : Lg p l e s m below meth c b H locs (F0 m 250 ls []) := by
  have hx := hC.1.1
  have hb := hC.1.2.1
  obtain ⟨QX, hX, hcp⟩ := cp_place hJ (ag xs i 1) (ag xs i 2) (ag xs i 3) ag_in ag_in ag_in
  refine lv_aload_n hx hb (dec_at dLw2 4) rfl (lv_at hl 2 rfl) ?_
  refine lw_arg 1 hC hW hl hi (by decide) (dec_at dLw2 5) (dec_at dLw2 6) (dec_at dLw2 7) (dec_at dLw2 8) (dec_at dLw2 9) ?_
  refine lw_arg 2 hC hW hl hi (by decide) (dec_at dLw2 10) (dec_at dLw2 11) (dec_at dLw2 12) (dec_at dLw2 13) (dec_at dLw2 14) ?_
  refine lw_arg 3 hC hW hl hi (by decide) (dec_at dLw2 15) (dec_at dLw2 16) (dec_at dLw2 17) (dec_at dLw2 18) (dec_at dLw2 19) ?_
  refine lw_call 0 32 (as := [vI (ag xs i 1), vI (ag xs i 2), vI (ag xs i 3)]) (rest := []) hC hW hX (dec_at dLw2 20) (List.mem_append_right _ (List.mem_append_left _ (List.mem_of_getElem? (i := 223) rfl))) oX5_place iX5_place rfl rfl rfl (ok_is 0 vm_in.1 [ag xs i 1, ag xs i 2, ag xs i 3]) (by decide) (by decide) hl.1 rfl (by decide) (fun r ν H1 locs1 hQ hW1 => ?_)
  obtain ⟨QM, hM, hcq⟩ := hcp r ν hQ
  refine lv_aload_n hx hb (dec_at dLw2 21) rfl (lv_at hl 1 rfl) ?_
  refine lw_arg 1 hC hW1 hl hi (by decide) (dec_at dLw2 22) (dec_at dLw2 23) (dec_at dLw2 24) (dec_at dLw2 25) (dec_at dLw2 26) ?_
  refine lw_arg 2 hC hW1 hl hi (by decide) (dec_at dLw2 27) (dec_at dLw2 28) (dec_at dLw2 29) (dec_at dLw2 30) (dec_at dLw2 31) ?_
  refine lw_arg 3 hC hW1 hl hi (by decide) (dec_at dLw2 32) (dec_at dLw2 33) (dec_at dLw2 34) (dec_at dLw2 35) (dec_at dLw2 36) ?_
  refine lw_call 21 35 (as := [vI (ag xs i 1), vI (ag xs i 2), vI (ag xs i 3)]) (rest := (r.map (eV ad)).toList) hC hW1 hM (dec_at dLw2 37) (List.mem_append_right _ (List.mem_append_right _ (List.mem_append_right _ (List.mem_append_left _ (List.mem_of_getElem? (i := 172) rfl))))) oX6_place iX6_place rfl rfl rfl (ok_is 21 vm_in.2 [ag xs i 1, ag xs i 2, ag xs i 3]) (by decide) (by decide) hl.1 (by simp) (rw8 r) (fun r1 ν1 H2 locs2 hQ1 hW2 => ?_)
  obtain ⟨hJ1, v, rfl, rfl⟩ := hcq r1 ν1 hQ1
  refine lv_icmp_eq (tgt := 945) hx hb (dec_at dLw2 38) (by decide) (fun _ => kk ν1 H2 locs2 hJ1 hW2) (fun q => absurd rfl q)

set_option maxRecDepth 100000 in
set_option maxHeartbeats 4000000 in
theorem lw_face {p : Program} {l : Launch} {e : Env} {s : State} {m : MethodId} {below : List Frame} {meth : Method} {c : Code} {b L : Nat} {xs : Nat → Int32} {G : va_G} {cI cN : ClassId} {ad : Nat → Int → Nat} {H : Heap} {locs : List Loc} {ls : Array Slot} {μ : Mm} {i : Nat} (hC : LC p s m meth c b L xs G cI cN) (hW : LW ad G cI cN μ s H locs) (hJ : J μ) (hl : lv_has ls 4 (lsv b ad i)) (hi : i + 6 ≤ L) (kk : ∀ (μ1 : Mm) (H1 : Heap) (locs1 : List Loc), J μ1 → LW ad G cI cN μ1 s H1 locs1 → Lg p l e s m below meth c b H1 locs1 (F0 m 945 ls [])) : Lg p l e s m below meth c b H locs (F0 m 293 ls []) := by
  have hx := hC.1.1
  have hb := hC.1.2.1
  obtain ⟨QX, hX, hcp⟩ := cp_face hJ (ag xs i 1) ag_in
  refine lv_aload_n hx hb (dec_at dLw2 41) rfl (lv_at hl 2 rfl) ?_
  refine lw_arg 1 hC hW hl hi (by decide) (dec_at dLw2 42) (dec_at dLw2 43) (dec_at dLw2 44) (dec_at dLw2 45) (dec_at dLw2 46) ?_
  refine lw_call 0 36 (as := [vI (ag xs i 1)]) (rest := []) hC hW hX (dec_at dLw2 47) (List.mem_append_right _ (List.mem_append_right _ (List.mem_append_left _ (List.mem_of_getElem? (i := 4) rfl)))) oX5_face iX5_face rfl rfl rfl (ok_is 0 vm_in.1 [ag xs i 1]) (by decide) (by decide) hl.1 rfl (by decide) (fun r ν H1 locs1 hQ hW1 => ?_)
  obtain ⟨QM, hM, hcq⟩ := hcp r ν hQ
  refine lv_aload_n hx hb (dec_at dLw3 0) rfl (lv_at hl 1 rfl) ?_
  refine lw_arg 1 hC hW1 hl hi (by decide) (dec_at dLw3 1) (dec_at dLw3 2) (dec_at dLw3 3) (dec_at dLw3 4) (dec_at dLw3 5) ?_
  refine lw_call 21 40 (as := [vI (ag xs i 1)]) (rest := (r.map (eV ad)).toList) hC hW1 hM (dec_at dLw3 6) (List.mem_append_right _ (List.mem_append_right _ (List.mem_append_right _ (List.mem_append_left _ (List.mem_of_getElem? (i := 176) rfl))))) oX6_face iX6_face rfl rfl rfl (ok_is 21 vm_in.2 [ag xs i 1]) (by decide) (by decide) hl.1 (by simp) (rw8 r) (fun r1 ν1 H2 locs2 hQ1 hW2 => ?_)
  obtain ⟨hJ1, v, rfl, rfl⟩ := hcq r1 ν1 hQ1
  refine lv_icmp_eq (tgt := 945) hx hb (dec_at dLw3 7) (by decide) (fun _ => kk ν1 H2 locs2 hJ1 hW2) (fun q => absurd rfl q)

set_option maxRecDepth 100000 in
set_option maxHeartbeats 4000000 in
theorem lw_undo {p : Program} {l : Launch} {e : Env} {s : State} {m : MethodId} {below : List Frame} {meth : Method} {c : Code} {b L : Nat} {xs : Nat → Int32} {G : va_G} {cI cN : ClassId} {ad : Nat → Int → Nat} {H : Heap} {locs : List Loc} {ls : Array Slot} {μ : Mm} {i : Nat} (hC : LC p s m meth c b L xs G cI cN) (hW : LW ad G cI cN μ s H locs) (hJ : J μ) (hl : lv_has ls 4 (lsv b ad i)) (hi : i + 6 ≤ L) (kk : ∀ (μ1 : Mm) (H1 : Heap) (locs1 : List Loc), J μ1 → LW ad G cI cN μ1 s H1 locs1 → Lg p l e s m below meth c b H1 locs1 (F0 m 945 ls [])) : Lg p l e s m below meth c b H locs (F0 m 316 ls []) := by
  have hx := hC.1.1
  have hb := hC.1.2.1
  obtain ⟨QX, hX, hcp⟩ := cp_undo hJ
  refine lv_aload_n hx hb (dec_at dLw3 10) rfl (lv_at hl 2 rfl) ?_
  refine lw_call 0 41 (as := []) (rest := []) hC hW hX (dec_at dLw3 11) (List.mem_append_right _ (List.mem_append_right _ (List.mem_append_left _ (List.mem_of_getElem? (i := 20) rfl)))) oX5_undo iX5_undo rfl rfl rfl (ok_is 0 vm_in.1 []) (by decide) (by decide) hl.1 rfl (by decide) (fun r ν H1 locs1 hQ hW1 => ?_)
  obtain ⟨QM, hM, hcq⟩ := hcp r ν hQ
  refine lv_aload_n hx hb (dec_at dLw3 12) rfl (lv_at hl 1 rfl) ?_
  refine lw_call 21 44 (as := []) (rest := (r.map (eV ad)).toList) hC hW1 hM (dec_at dLw3 13) (List.mem_append_right _ (List.mem_append_right _ (List.mem_append_right _ (List.mem_append_left _ (List.mem_of_getElem? (i := 182) rfl))))) oX6_undo iX6_undo rfl rfl rfl (ok_is 21 vm_in.2 []) (by decide) (by decide) hl.1 (by simp) (rw8 r) (fun r1 ν1 H2 locs2 hQ1 hW2 => ?_)
  obtain ⟨hJ1, v, rfl, rfl⟩ := hcq r1 ν1 hQ1
  refine lv_icmp_eq (tgt := 945) hx hb (dec_at dLw3 14) (by decide) (fun _ => kk ν1 H2 locs2 hJ1 hW2) (fun q => absurd rfl q)

set_option maxRecDepth 100000 in
set_option maxHeartbeats 4000000 in
theorem lw_turn {p : Program} {l : Launch} {e : Env} {s : State} {m : MethodId} {below : List Frame} {meth : Method} {c : Code} {b L : Nat} {xs : Nat → Int32} {G : va_G} {cI cN : ClassId} {ad : Nat → Int → Nat} {H : Heap} {locs : List Loc} {ls : Array Slot} {μ : Mm} {i : Nat} (hC : LC p s m meth c b L xs G cI cN) (hW : LW ad G cI cN μ s H locs) (hJ : J μ) (hl : lv_has ls 4 (lsv b ad i)) (hi : i + 6 ≤ L) (kk : ∀ (μ1 : Mm) (H1 : Heap) (locs1 : List Loc), J μ1 → LW ad G cI cN μ1 s H1 locs1 → Lg p l e s m below meth c b H1 locs1 (F0 m 945 ls [])) : Lg p l e s m below meth c b H locs (F0 m 329 ls []) := by
  have hx := hC.1.1
  have hb := hC.1.2.1
  obtain ⟨QX, hX, hcp⟩ := cp_turn hJ (ag xs i 1) ag_in
  refine lv_aload_n hx hb (dec_at dLw3 17) rfl (lv_at hl 2 rfl) ?_
  refine lw_arg 1 hC hW hl hi (by decide) (dec_at dLw3 18) (dec_at dLw3 19) (dec_at dLw3 20) (dec_at dLw3 21) (dec_at dLw3 22) ?_
  refine lw_call 0 45 (as := [vI (ag xs i 1)]) (rest := []) hC hW hX (dec_at dLw3 23) (List.mem_append_right _ (List.mem_append_right _ (List.mem_append_left _ (List.mem_of_getElem? (i := 24) rfl)))) oX5_turn iX5_turn rfl rfl rfl (ok_is 0 vm_in.1 [ag xs i 1]) (by decide) (by decide) hl.1 rfl (by decide) (fun r ν H1 locs1 hQ hW1 => ?_)
  obtain ⟨QM, hM, hcq⟩ := hcp r ν hQ
  refine lv_aload_n hx hb (dec_at dLw3 24) rfl (lv_at hl 1 rfl) ?_
  refine lw_arg 1 hC hW1 hl hi (by decide) (dec_at dLw3 25) (dec_at dLw3 26) (dec_at dLw3 27) (dec_at dLw3 28) (dec_at dLw3 29) ?_
  refine lw_call 21 48 (as := [vI (ag xs i 1)]) (rest := (r.map (eV ad)).toList) hC hW1 hM (dec_at dLw3 30) (List.mem_append_right _ (List.mem_append_right _ (List.mem_append_right _ (List.mem_append_left _ (List.mem_of_getElem? (i := 186) rfl))))) oX6_turn iX6_turn rfl rfl rfl (ok_is 21 vm_in.2 [ag xs i 1]) (by decide) (by decide) hl.1 (by simp) (rw8 r) (fun r1 ν1 H2 locs2 hQ1 hW2 => ?_)
  obtain ⟨hJ1, v, rfl, rfl⟩ := hcq r1 ν1 hQ1
  refine lv_icmp_eq (tgt := 945) hx hb (dec_at dLw3 31) (by decide) (fun _ => kk ν1 H2 locs2 hJ1 hW2) (fun q => absurd rfl q)

set_option maxRecDepth 100000 in
set_option maxHeartbeats 4000000 in
theorem lw_clear {p : Program} {l : Launch} {e : Env} {s : State} {m : MethodId} {below : List Frame} {meth : Method} {c : Code} {b L : Nat} {xs : Nat → Int32} {G : va_G} {cI cN : ClassId} {ad : Nat → Int → Nat} {H : Heap} {locs : List Loc} {ls : Array Slot} {μ : Mm} {i : Nat} (hC : LC p s m meth c b L xs G cI cN) (hW : LW ad G cI cN μ s H locs) (hJ : J μ) (hl : lv_has ls 4 (lsv b ad i)) (hi : i + 6 ≤ L) (kk : ∀ (μ1 : Mm) (H1 : Heap) (locs1 : List Loc), J μ1 → LW ad G cI cN μ1 s H1 locs1 → Lg p l e s m below meth c b H1 locs1 (F0 m 945 ls [])) : Lg p l e s m below meth c b H locs (F0 m 352 ls []) := by
  have hx := hC.1.1
  have hb := hC.1.2.1
  obtain ⟨QX, hX, hcp⟩ := cp_clear hJ
  refine lv_aload_n hx hb (dec_at dLw3 34) rfl (lv_at hl 2 rfl) ?_
  refine lw_call 0 49 (as := []) (rest := []) hC hW hX (dec_at dLw3 35) (List.mem_append_right _ (List.mem_append_right _ (List.mem_append_left _ (List.mem_of_getElem? (i := 36) rfl)))) oX5_clear iX5_clear rfl rfl rfl (ok_is 0 vm_in.1 []) (by decide) (by decide) hl.1 rfl (by decide) (fun r ν H1 locs1 hQ hW1 => ?_)
  obtain ⟨QM, hM, hcq⟩ := hcp r ν hQ
  refine lv_aload_n hx hb (dec_at dLw3 36) rfl (lv_at hl 1 rfl) ?_
  refine lw_call 21 52 (as := []) (rest := (r.map (eV ad)).toList) hC hW1 hM (dec_at dLw3 37) (List.mem_append_right _ (List.mem_append_right _ (List.mem_append_right _ (List.mem_append_left _ (List.mem_of_getElem? (i := 190) rfl))))) oX6_clear iX6_clear rfl rfl rfl (ok_is 21 vm_in.2 []) (by decide) (by decide) hl.1 (by simp) (rw8 r) (fun r1 ν1 H2 locs2 hQ1 hW2 => ?_)
  obtain ⟨hJ1, v, rfl, rfl⟩ := hcq r1 ν1 hQ1
  refine lv_icmp_eq (tgt := 945) hx hb (dec_at dLw3 38) (by decide) (fun _ => kk ν1 H2 locs2 hJ1 hW2) (fun q => absurd rfl q)

set_option maxRecDepth 100000 in
set_option maxHeartbeats 4000000 in
theorem lw_fault {p : Program} {l : Launch} {e : Env} {s : State} {m : MethodId} {below : List Frame} {meth : Method} {c : Code} {b L : Nat} {xs : Nat → Int32} {G : va_G} {cI cN : ClassId} {ad : Nat → Int → Nat} {H : Heap} {locs : List Loc} {ls : Array Slot} {μ : Mm} {i : Nat} (hC : LC p s m meth c b L xs G cI cN) (hW : LW ad G cI cN μ s H locs) (hJ : J μ) (hl : lv_has ls 4 (lsv b ad i)) (hi : i + 6 ≤ L) (kk : ∀ (μ1 : Mm) (H1 : Heap) (locs1 : List Loc), J μ1 → LW ad G cI cN μ1 s H1 locs1 → Lg p l e s m below meth c b H1 locs1 (F0 m 945 ls [])) : Lg p l e s m below meth c b H locs (F0 m 365 ls []) := by
  have hx := hC.1.1
  have hb := hC.1.2.1
  obtain ⟨QX, hX, hcp⟩ := cp_fault hJ (ag xs i 1) ag_in
  refine lv_aload_n hx hb (dec_at dLw3 41) rfl (lv_at hl 2 rfl) ?_
  refine lw_arg 1 hC hW hl hi (by decide) (dec_at dLw3 42) (dec_at dLw3 43) (dec_at dLw3 44) (dec_at dLw3 45) (dec_at dLw3 46) ?_
  refine lw_call 0 53 (as := [vI (ag xs i 1)]) (rest := []) hC hW hX (dec_at dLw3 47) (List.mem_append_right _ (List.mem_append_right _ (List.mem_append_left _ (List.mem_of_getElem? (i := 40) rfl)))) oX5_fault iX5_fault rfl rfl rfl (ok_is 0 vm_in.1 [ag xs i 1]) (by decide) (by decide) hl.1 rfl (by decide) (fun r ν H1 locs1 hQ hW1 => ?_)
  obtain ⟨QM, hM, hcq⟩ := hcp r ν hQ
  refine lv_aload_n hx hb (dec_at dLw4 0) rfl (lv_at hl 1 rfl) ?_
  refine lw_arg 1 hC hW1 hl hi (by decide) (dec_at dLw4 1) (dec_at dLw4 2) (dec_at dLw4 3) (dec_at dLw4 4) (dec_at dLw4 5) ?_
  refine lw_call 21 56 (as := [vI (ag xs i 1)]) (rest := (r.map (eV ad)).toList) hC hW1 hM (dec_at dLw4 6) (List.mem_append_right _ (List.mem_append_right _ (List.mem_append_right _ (List.mem_append_left _ (List.mem_of_getElem? (i := 194) rfl))))) oX6_fault iX6_fault rfl rfl rfl (ok_is 21 vm_in.2 [ag xs i 1]) (by decide) (by decide) hl.1 (by simp) (rw8 r) (fun r1 ν1 H2 locs2 hQ1 hW2 => ?_)
  obtain ⟨hJ1, v, rfl, rfl⟩ := hcq r1 ν1 hQ1
  refine lv_icmp_eq (tgt := 945) hx hb (dec_at dLw4 7) (by decide) (fun _ => kk ν1 H2 locs2 hJ1 hW2) (fun q => absurd rfl q)

set_option maxRecDepth 100000 in
set_option maxHeartbeats 4000000 in
theorem lw_many {p : Program} {l : Launch} {e : Env} {s : State} {m : MethodId} {below : List Frame} {meth : Method} {c : Code} {b L : Nat} {xs : Nat → Int32} {G : va_G} {cI cN : ClassId} {ad : Nat → Int → Nat} {H : Heap} {locs : List Loc} {ls : Array Slot} {μ : Mm} {i : Nat} (hC : LC p s m meth c b L xs G cI cN) (hW : LW ad G cI cN μ s H locs) (hJ : J μ) (hl : lv_has ls 4 (lsv b ad i)) (hi : i + 6 ≤ L) (kk : ∀ (μ1 : Mm) (H1 : Heap) (locs1 : List Loc), J μ1 → LW ad G cI cN μ1 s H1 locs1 → Lg p l e s m below meth c b H1 locs1 (F0 m 945 ls [])) : Lg p l e s m below meth c b H locs (F0 m 388 ls []) := by
  have hx := hC.1.1
  have hb := hC.1.2.1
  obtain ⟨QX, hX, hcp⟩ := cp_many hJ (ag xs i 1) (ag xs i 2) ag_in ag_in
  refine lv_aload_n hx hb (dec_at dLw4 10) rfl (lv_at hl 2 rfl) ?_
  refine lw_arg 1 hC hW hl hi (by decide) (dec_at dLw4 11) (dec_at dLw4 12) (dec_at dLw4 13) (dec_at dLw4 14) (dec_at dLw4 15) ?_
  refine lw_arg 2 hC hW hl hi (by decide) (dec_at dLw4 16) (dec_at dLw4 17) (dec_at dLw4 18) (dec_at dLw4 19) (dec_at dLw4 20) ?_
  refine lw_call 0 57 (as := [vI (ag xs i 1), vI (ag xs i 2)]) (rest := []) hC hW hX (dec_at dLw4 21) (List.mem_append_right _ (List.mem_append_right _ (List.mem_append_left _ (List.mem_of_getElem? (i := 101) rfl)))) oX5_many iX5_many rfl rfl rfl (ok_is 0 vm_in.1 [ag xs i 1, ag xs i 2]) (by decide) (by decide) hl.1 rfl (by decide) (fun r ν H1 locs1 hQ hW1 => ?_)
  obtain ⟨QM, hM, hcq⟩ := hcp r ν hQ
  refine lv_aload_n hx hb (dec_at dLw4 22) rfl (lv_at hl 1 rfl) ?_
  refine lw_arg 1 hC hW1 hl hi (by decide) (dec_at dLw4 23) (dec_at dLw4 24) (dec_at dLw4 25) (dec_at dLw4 26) (dec_at dLw4 27) ?_
  refine lw_arg 2 hC hW1 hl hi (by decide) (dec_at dLw4 28) (dec_at dLw4 29) (dec_at dLw4 30) (dec_at dLw4 31) (dec_at dLw4 32) ?_
  refine lw_call 21 60 (as := [vI (ag xs i 1), vI (ag xs i 2)]) (rest := (r.map (eV ad)).toList) hC hW1 hM (dec_at dLw4 33) (List.mem_append_right _ (List.mem_append_right _ (List.mem_append_right _ (List.mem_append_right _ (List.mem_of_getElem? (i := 22) rfl))))) oX6_many iX6_many rfl rfl rfl (ok_is 21 vm_in.2 [ag xs i 1, ag xs i 2]) (by decide) (by decide) hl.1 (by simp) (rw8 r) (fun r1 ν1 H2 locs2 hQ1 hW2 => ?_)
  obtain ⟨hJ1, v, rfl, rfl⟩ := hcq r1 ν1 hQ1
  refine lv_icmp_eq (tgt := 945) hx hb (dec_at dLw4 34) (by decide) (fun _ => kk ν1 H2 locs2 hJ1 hW2) (fun q => absurd rfl q)

set_option maxRecDepth 100000 in
set_option maxHeartbeats 4000000 in
theorem lw_at {p : Program} {l : Launch} {e : Env} {s : State} {m : MethodId} {below : List Frame} {meth : Method} {c : Code} {b L : Nat} {xs : Nat → Int32} {G : va_G} {cI cN : ClassId} {ad : Nat → Int → Nat} {H : Heap} {locs : List Loc} {ls : Array Slot} {μ : Mm} {i : Nat} (hC : LC p s m meth c b L xs G cI cN) (hW : LW ad G cI cN μ s H locs) (hJ : J μ) (hl : lv_has ls 4 (lsv b ad i)) (hi : i + 6 ≤ L) (kk : ∀ (μ1 : Mm) (H1 : Heap) (locs1 : List Loc), J μ1 → LW ad G cI cN μ1 s H1 locs1 → Lg p l e s m below meth c b H1 locs1 (F0 m 945 ls [])) : Lg p l e s m below meth c b H locs (F0 m 421 ls []) := by
  have hx := hC.1.1
  have hb := hC.1.2.1
  obtain ⟨QX, hX, hcp⟩ := cp_at hJ (ag xs i 1) (ag xs i 2) (ag xs i 3) ag_in ag_in ag_in
  refine lv_aload_n hx hb (dec_at dLw4 37) rfl (lv_at hl 2 rfl) ?_
  refine lw_arg 1 hC hW hl hi (by decide) (dec_at dLw4 38) (dec_at dLw4 39) (dec_at dLw4 40) (dec_at dLw4 41) (dec_at dLw4 42) ?_
  refine lw_arg 2 hC hW hl hi (by decide) (dec_at dLw4 43) (dec_at dLw4 44) (dec_at dLw4 45) (dec_at dLw4 46) (dec_at dLw4 47) ?_
  refine lw_arg 3 hC hW hl hi (by decide) (dec_at dLw5 0) (dec_at dLw5 1) (dec_at dLw5 2) (dec_at dLw5 3) (dec_at dLw5 4) ?_
  refine lw_call 0 61 (as := [vI (ag xs i 1), vI (ag xs i 2), vI (ag xs i 3)]) (rest := []) hC hW hX (dec_at dLw5 5) (List.mem_append_right _ (List.mem_append_right _ (List.mem_append_left _ (List.mem_of_getElem? (i := 158) rfl)))) oX5_at iX5_at rfl rfl rfl (ok_is 0 vm_in.1 [ag xs i 1, ag xs i 2, ag xs i 3]) (by decide) (by decide) hl.1 rfl (by decide) (fun r ν H1 locs1 hQ hW1 => ?_)
  obtain ⟨QM, hM, hcq⟩ := hcp r ν hQ
  refine lv_aload_n hx hb (dec_at dLw5 6) rfl (lv_at hl 1 rfl) ?_
  refine lw_arg 1 hC hW1 hl hi (by decide) (dec_at dLw5 7) (dec_at dLw5 8) (dec_at dLw5 9) (dec_at dLw5 10) (dec_at dLw5 11) ?_
  refine lw_arg 2 hC hW1 hl hi (by decide) (dec_at dLw5 12) (dec_at dLw5 13) (dec_at dLw5 14) (dec_at dLw5 15) (dec_at dLw5 16) ?_
  refine lw_arg 3 hC hW1 hl hi (by decide) (dec_at dLw5 17) (dec_at dLw5 18) (dec_at dLw5 19) (dec_at dLw5 20) (dec_at dLw5 21) ?_
  refine lw_call 21 64 (as := [vI (ag xs i 1), vI (ag xs i 2), vI (ag xs i 3)]) (rest := (r.map (eV ad)).toList) hC hW1 hM (dec_at dLw5 22) (List.mem_append_right _ (List.mem_append_right _ (List.mem_append_right _ (List.mem_append_right _ (List.mem_of_getElem? (i := 38) rfl))))) oX6_at iX6_at rfl rfl rfl (ok_is 21 vm_in.2 [ag xs i 1, ag xs i 2, ag xs i 3]) (by decide) (by decide) hl.1 (by simp) (rw8 r) (fun r1 ν1 H2 locs2 hQ1 hW2 => ?_)
  obtain ⟨hJ1, v, rfl, rfl⟩ := hcq r1 ν1 hQ1
  refine lv_icmp_eq (tgt := 945) hx hb (dec_at dLw5 23) (by decide) (fun _ => kk ν1 H2 locs2 hJ1 hW2) (fun q => absurd rfl q)

set_option maxRecDepth 100000 in
set_option maxHeartbeats 4000000 in
theorem lw_edge {p : Program} {l : Launch} {e : Env} {s : State} {m : MethodId} {below : List Frame} {meth : Method} {c : Code} {b L : Nat} {xs : Nat → Int32} {G : va_G} {cI cN : ClassId} {ad : Nat → Int → Nat} {H : Heap} {locs : List Loc} {ls : Array Slot} {μ : Mm} {i : Nat} (hC : LC p s m meth c b L xs G cI cN) (hW : LW ad G cI cN μ s H locs) (hJ : J μ) (hl : lv_has ls 4 (lsv b ad i)) (hi : i + 6 ≤ L) (kk : ∀ (μ1 : Mm) (H1 : Heap) (locs1 : List Loc), J μ1 → LW ad G cI cN μ1 s H1 locs1 → Lg p l e s m below meth c b H1 locs1 (F0 m 945 ls [])) : Lg p l e s m below meth c b H locs (F0 m 464 ls []) := by
  have hx := hC.1.1
  have hb := hC.1.2.1
  obtain ⟨QX, hX, hcp⟩ := cp_edge hJ (ag xs i 1) (ag xs i 2) (ag xs i 3) ag_in ag_in ag_in
  refine lv_aload_n hx hb (dec_at dLw5 26) rfl (lv_at hl 2 rfl) ?_
  refine lw_arg 1 hC hW hl hi (by decide) (dec_at dLw5 27) (dec_at dLw5 28) (dec_at dLw5 29) (dec_at dLw5 30) (dec_at dLw5 31) ?_
  refine lw_arg 2 hC hW hl hi (by decide) (dec_at dLw5 32) (dec_at dLw5 33) (dec_at dLw5 34) (dec_at dLw5 35) (dec_at dLw5 36) ?_
  refine lw_arg 3 hC hW hl hi (by decide) (dec_at dLw5 37) (dec_at dLw5 38) (dec_at dLw5 39) (dec_at dLw5 40) (dec_at dLw5 41) ?_
  refine lw_call 0 65 (as := [vI (ag xs i 1), vI (ag xs i 2), vI (ag xs i 3)]) (rest := []) hC hW hX (dec_at dLw5 42) (List.mem_append_right _ (List.mem_append_right _ (List.mem_append_left _ (List.mem_of_getElem? (i := 164) rfl)))) oX5_edge iX5_edge rfl rfl rfl (ok_is 0 vm_in.1 [ag xs i 1, ag xs i 2, ag xs i 3]) (by decide) (by decide) hl.1 rfl (by decide) (fun r ν H1 locs1 hQ hW1 => ?_)
  obtain ⟨QM, hM, hcq⟩ := hcp r ν hQ
  refine lv_aload_n hx hb (dec_at dLw5 43) rfl (lv_at hl 1 rfl) ?_
  refine lw_arg 1 hC hW1 hl hi (by decide) (dec_at dLw5 44) (dec_at dLw5 45) (dec_at dLw5 46) (dec_at dLw5 47) (dec_at dLw6 0) ?_
  refine lw_arg 2 hC hW1 hl hi (by decide) (dec_at dLw6 1) (dec_at dLw6 2) (dec_at dLw6 3) (dec_at dLw6 4) (dec_at dLw6 5) ?_
  refine lw_arg 3 hC hW1 hl hi (by decide) (dec_at dLw6 6) (dec_at dLw6 7) (dec_at dLw6 8) (dec_at dLw6 9) (dec_at dLw6 10) ?_
  refine lw_call 21 68 (as := [vI (ag xs i 1), vI (ag xs i 2), vI (ag xs i 3)]) (rest := (r.map (eV ad)).toList) hC hW1 hM (dec_at dLw6 11) (List.mem_append_right _ (List.mem_append_right _ (List.mem_append_right _ (List.mem_append_right _ (List.mem_of_getElem? (i := 51) rfl))))) oX6_edge iX6_edge rfl rfl rfl (ok_is 21 vm_in.2 [ag xs i 1, ag xs i 2, ag xs i 3]) (by decide) (by decide) hl.1 (by simp) (rw8 r) (fun r1 ν1 H2 locs2 hQ1 hW2 => ?_)
  obtain ⟨hJ1, v, rfl, rfl⟩ := hcq r1 ν1 hQ1
  refine lv_icmp_eq (tgt := 945) hx hb (dec_at dLw6 12) (by decide) (fun _ => kk ν1 H2 locs2 hJ1 hW2) (fun q => absurd rfl q)

set_option maxRecDepth 100000 in
set_option maxHeartbeats 4000000 in
theorem lw_size {p : Program} {l : Launch} {e : Env} {s : State} {m : MethodId} {below : List Frame} {meth : Method} {c : Code} {b L : Nat} {xs : Nat → Int32} {G : va_G} {cI cN : ClassId} {ad : Nat → Int → Nat} {H : Heap} {locs : List Loc} {ls : Array Slot} {μ : Mm} {i : Nat} (hC : LC p s m meth c b L xs G cI cN) (hW : LW ad G cI cN μ s H locs) (hJ : J μ) (hl : lv_has ls 4 (lsv b ad i)) (hi : i + 6 ≤ L) (kk : ∀ (μ1 : Mm) (H1 : Heap) (locs1 : List Loc), J μ1 → LW ad G cI cN μ1 s H1 locs1 → Lg p l e s m below meth c b H1 locs1 (F0 m 945 ls [])) : Lg p l e s m below meth c b H locs (F0 m 507 ls []) := by
  have hx := hC.1.1
  have hb := hC.1.2.1
  obtain ⟨QX, hX, hcp⟩ := cp_size hJ (ag xs i 1) (ag xs i 2) ag_in ag_in
  refine lv_aload_n hx hb (dec_at dLw6 15) rfl (lv_at hl 2 rfl) ?_
  refine lw_arg 1 hC hW hl hi (by decide) (dec_at dLw6 16) (dec_at dLw6 17) (dec_at dLw6 18) (dec_at dLw6 19) (dec_at dLw6 20) ?_
  refine lw_arg 2 hC hW hl hi (by decide) (dec_at dLw6 21) (dec_at dLw6 22) (dec_at dLw6 23) (dec_at dLw6 24) (dec_at dLw6 25) ?_
  refine lw_call 0 69 (as := [vI (ag xs i 1), vI (ag xs i 2)]) (rest := []) hC hW hX (dec_at dLw6 26) (List.mem_append_right _ (List.mem_append_right _ (List.mem_append_left _ (List.mem_of_getElem? (i := 173) rfl)))) oX5_size iX5_size rfl rfl rfl (ok_is 0 vm_in.1 [ag xs i 1, ag xs i 2]) (by decide) (by decide) hl.1 rfl (by decide) (fun r ν H1 locs1 hQ hW1 => ?_)
  obtain ⟨QM, hM, hcq⟩ := hcp r ν hQ
  refine lv_aload_n hx hb (dec_at dLw6 27) rfl (lv_at hl 1 rfl) ?_
  refine lw_arg 1 hC hW1 hl hi (by decide) (dec_at dLw6 28) (dec_at dLw6 29) (dec_at dLw6 30) (dec_at dLw6 31) (dec_at dLw6 32) ?_
  refine lw_arg 2 hC hW1 hl hi (by decide) (dec_at dLw6 33) (dec_at dLw6 34) (dec_at dLw6 35) (dec_at dLw6 36) (dec_at dLw6 37) ?_
  refine lw_call 21 72 (as := [vI (ag xs i 1), vI (ag xs i 2)]) (rest := (r.map (eV ad)).toList) hC hW1 hM (dec_at dLw6 38) (List.mem_append_right _ (List.mem_append_right _ (List.mem_append_right _ (List.mem_append_right _ (List.mem_of_getElem? (i := 55) rfl))))) oX6_size iX6_size rfl rfl rfl (ok_is 21 vm_in.2 [ag xs i 1, ag xs i 2]) (by decide) (by decide) hl.1 (by simp) (rw8 r) (fun r1 ν1 H2 locs2 hQ1 hW2 => ?_)
  obtain ⟨hJ1, v, rfl, rfl⟩ := hcq r1 ν1 hQ1
  refine lv_icmp_eq (tgt := 945) hx hb (dec_at dLw6 39) (by decide) (fun _ => kk ν1 H2 locs2 hJ1 hW2) (fun q => absurd rfl q)

set_option maxRecDepth 100000 in
set_option maxHeartbeats 4000000 in
theorem lw_ring {p : Program} {l : Launch} {e : Env} {s : State} {m : MethodId} {below : List Frame} {meth : Method} {c : Code} {b L : Nat} {xs : Nat → Int32} {G : va_G} {cI cN : ClassId} {ad : Nat → Int → Nat} {H : Heap} {locs : List Loc} {ls : Array Slot} {μ : Mm} {i : Nat} (hC : LC p s m meth c b L xs G cI cN) (hW : LW ad G cI cN μ s H locs) (hJ : J μ) (hl : lv_has ls 4 (lsv b ad i)) (hi : i + 6 ≤ L) (kk : ∀ (μ1 : Mm) (H1 : Heap) (locs1 : List Loc), J μ1 → LW ad G cI cN μ1 s H1 locs1 → Lg p l e s m below meth c b H1 locs1 (F0 m 945 ls [])) : Lg p l e s m below meth c b H locs (F0 m 540 ls []) := by
  have hx := hC.1.1
  have hb := hC.1.2.1
  obtain ⟨QX, hX, hcp⟩ := cp_ring hJ (ag xs i 1) (ag xs i 2) (ag xs i 3) ag_in ag_in ag_in
  refine lv_aload_n hx hb (dec_at dLw6 42) rfl (lv_at hl 2 rfl) ?_
  refine lw_arg 1 hC hW hl hi (by decide) (dec_at dLw6 43) (dec_at dLw6 44) (dec_at dLw6 45) (dec_at dLw6 46) (dec_at dLw6 47) ?_
  refine lw_arg 2 hC hW hl hi (by decide) (dec_at dLw7 0) (dec_at dLw7 1) (dec_at dLw7 2) (dec_at dLw7 3) (dec_at dLw7 4) ?_
  refine lw_arg 3 hC hW hl hi (by decide) (dec_at dLw7 5) (dec_at dLw7 6) (dec_at dLw7 7) (dec_at dLw7 8) (dec_at dLw7 9) ?_
  refine lw_call 0 73 (as := [vI (ag xs i 1), vI (ag xs i 2), vI (ag xs i 3)]) (rest := []) hC hW hX (dec_at dLw7 10) (List.mem_append_right _ (List.mem_append_right _ (List.mem_append_left _ (List.mem_of_getElem? (i := 178) rfl)))) oX5_ring iX5_ring rfl rfl rfl (ok_is 0 vm_in.1 [ag xs i 1, ag xs i 2, ag xs i 3]) (by decide) (by decide) hl.1 rfl (by decide) (fun r ν H1 locs1 hQ hW1 => ?_)
  obtain ⟨QM, hM, hcq⟩ := hcp r ν hQ
  refine lv_aload_n hx hb (dec_at dLw7 11) rfl (lv_at hl 1 rfl) ?_
  refine lw_arg 1 hC hW1 hl hi (by decide) (dec_at dLw7 12) (dec_at dLw7 13) (dec_at dLw7 14) (dec_at dLw7 15) (dec_at dLw7 16) ?_
  refine lw_arg 2 hC hW1 hl hi (by decide) (dec_at dLw7 17) (dec_at dLw7 18) (dec_at dLw7 19) (dec_at dLw7 20) (dec_at dLw7 21) ?_
  refine lw_arg 3 hC hW1 hl hi (by decide) (dec_at dLw7 22) (dec_at dLw7 23) (dec_at dLw7 24) (dec_at dLw7 25) (dec_at dLw7 26) ?_
  refine lw_call 21 76 (as := [vI (ag xs i 1), vI (ag xs i 2), vI (ag xs i 3)]) (rest := (r.map (eV ad)).toList) hC hW1 hM (dec_at dLw7 27) (List.mem_append_right _ (List.mem_append_right _ (List.mem_append_right _ (List.mem_append_right _ (List.mem_of_getElem? (i := 63) rfl))))) oX6_ring iX6_ring rfl rfl rfl (ok_is 21 vm_in.2 [ag xs i 1, ag xs i 2, ag xs i 3]) (by decide) (by decide) hl.1 (by simp) (rw8 r) (fun r1 ν1 H2 locs2 hQ1 hW2 => ?_)
  obtain ⟨hJ1, v, rfl, rfl⟩ := hcq r1 ν1 hQ1
  refine lv_icmp_eq (tgt := 945) hx hb (dec_at dLw7 28) (by decide) (fun _ => kk ν1 H2 locs2 hJ1 hW2) (fun q => absurd rfl q)

set_option maxRecDepth 100000 in
set_option maxHeartbeats 4000000 in
theorem lw_middle {p : Program} {l : Launch} {e : Env} {s : State} {m : MethodId} {below : List Frame} {meth : Method} {c : Code} {b L : Nat} {xs : Nat → Int32} {G : va_G} {cI cN : ClassId} {ad : Nat → Int → Nat} {H : Heap} {locs : List Loc} {ls : Array Slot} {μ : Mm} {i : Nat} (hC : LC p s m meth c b L xs G cI cN) (hW : LW ad G cI cN μ s H locs) (hJ : J μ) (hl : lv_has ls 4 (lsv b ad i)) (hi : i + 6 ≤ L) (kk : ∀ (μ1 : Mm) (H1 : Heap) (locs1 : List Loc), J μ1 → LW ad G cI cN μ1 s H1 locs1 → Lg p l e s m below meth c b H1 locs1 (F0 m 945 ls [])) : Lg p l e s m below meth c b H locs (F0 m 583 ls []) := by
  have hx := hC.1.1
  have hb := hC.1.2.1
  obtain ⟨QX, hX, hcp⟩ := cp_middle hJ (ag xs i 1) (ag xs i 2) (ag xs i 3) ag_in ag_in ag_in
  refine lv_aload_n hx hb (dec_at dLw7 31) rfl (lv_at hl 2 rfl) ?_
  refine lw_arg 1 hC hW hl hi (by decide) (dec_at dLw7 32) (dec_at dLw7 33) (dec_at dLw7 34) (dec_at dLw7 35) (dec_at dLw7 36) ?_
  refine lw_arg 2 hC hW hl hi (by decide) (dec_at dLw7 37) (dec_at dLw7 38) (dec_at dLw7 39) (dec_at dLw7 40) (dec_at dLw7 41) ?_
  refine lw_arg 3 hC hW hl hi (by decide) (dec_at dLw7 42) (dec_at dLw7 43) (dec_at dLw7 44) (dec_at dLw7 45) (dec_at dLw7 46) ?_
  refine lw_call 0 77 (as := [vI (ag xs i 1), vI (ag xs i 2), vI (ag xs i 3)]) (rest := []) hC hW hX (dec_at dLw7 47) (List.mem_append_right _ (List.mem_append_right _ (List.mem_append_left _ (List.mem_of_getElem? (i := 182) rfl)))) oX5_middle iX5_middle rfl rfl rfl (ok_is 0 vm_in.1 [ag xs i 1, ag xs i 2, ag xs i 3]) (by decide) (by decide) hl.1 rfl (by decide) (fun r ν H1 locs1 hQ hW1 => ?_)
  obtain ⟨QM, hM, hcq⟩ := hcp r ν hQ
  refine lv_aload_n hx hb (dec_at dLw8 0) rfl (lv_at hl 1 rfl) ?_
  refine lw_arg 1 hC hW1 hl hi (by decide) (dec_at dLw8 1) (dec_at dLw8 2) (dec_at dLw8 3) (dec_at dLw8 4) (dec_at dLw8 5) ?_
  refine lw_arg 2 hC hW1 hl hi (by decide) (dec_at dLw8 6) (dec_at dLw8 7) (dec_at dLw8 8) (dec_at dLw8 9) (dec_at dLw8 10) ?_
  refine lw_arg 3 hC hW1 hl hi (by decide) (dec_at dLw8 11) (dec_at dLw8 12) (dec_at dLw8 13) (dec_at dLw8 14) (dec_at dLw8 15) ?_
  refine lw_call 21 80 (as := [vI (ag xs i 1), vI (ag xs i 2), vI (ag xs i 3)]) (rest := (r.map (eV ad)).toList) hC hW1 hM (dec_at dLw8 16) (List.mem_append_right _ (List.mem_append_right _ (List.mem_append_right _ (List.mem_append_right _ (List.mem_of_getElem? (i := 67) rfl))))) oX6_middle iX6_middle rfl rfl rfl (ok_is 21 vm_in.2 [ag xs i 1, ag xs i 2, ag xs i 3]) (by decide) (by decide) hl.1 (by simp) (rw8 r) (fun r1 ν1 H2 locs2 hQ1 hW2 => ?_)
  obtain ⟨hJ1, v, rfl, rfl⟩ := hcq r1 ν1 hQ1
  refine lv_icmp_eq (tgt := 945) hx hb (dec_at dLw8 17) (by decide) (fun _ => kk ν1 H2 locs2 hJ1 hW2) (fun q => absurd rfl q)

set_option maxRecDepth 100000 in
set_option maxHeartbeats 4000000 in
theorem lw_box {p : Program} {l : Launch} {e : Env} {s : State} {m : MethodId} {below : List Frame} {meth : Method} {c : Code} {b L : Nat} {xs : Nat → Int32} {G : va_G} {cI cN : ClassId} {ad : Nat → Int → Nat} {H : Heap} {locs : List Loc} {ls : Array Slot} {μ : Mm} {i : Nat} (hC : LC p s m meth c b L xs G cI cN) (hW : LW ad G cI cN μ s H locs) (hJ : J μ) (hl : lv_has ls 4 (lsv b ad i)) (hi : i + 6 ≤ L) (kk : ∀ (μ1 : Mm) (H1 : Heap) (locs1 : List Loc), J μ1 → LW ad G cI cN μ1 s H1 locs1 → Lg p l e s m below meth c b H1 locs1 (F0 m 945 ls [])) : Lg p l e s m below meth c b H locs (F0 m 626 ls []) := by
  have hx := hC.1.1
  have hb := hC.1.2.1
  obtain ⟨QX, hX, hcp⟩ := cp_box hJ (ag xs i 1) (ag xs i 2) (ag xs i 3) ag_in ag_in ag_in
  refine lv_aload_n hx hb (dec_at dLw8 20) rfl (lv_at hl 2 rfl) ?_
  refine lw_arg 1 hC hW hl hi (by decide) (dec_at dLw8 21) (dec_at dLw8 22) (dec_at dLw8 23) (dec_at dLw8 24) (dec_at dLw8 25) ?_
  refine lw_arg 2 hC hW hl hi (by decide) (dec_at dLw8 26) (dec_at dLw8 27) (dec_at dLw8 28) (dec_at dLw8 29) (dec_at dLw8 30) ?_
  refine lw_arg 3 hC hW hl hi (by decide) (dec_at dLw8 31) (dec_at dLw8 32) (dec_at dLw8 33) (dec_at dLw8 34) (dec_at dLw8 35) ?_
  refine lw_call 0 81 (as := [vI (ag xs i 1), vI (ag xs i 2), vI (ag xs i 3)]) (rest := []) hC hW hX (dec_at dLw8 36) (List.mem_append_right _ (List.mem_append_right _ (List.mem_append_left _ (List.mem_of_getElem? (i := 190) rfl)))) oX5_box iX5_box rfl rfl rfl (ok_is 0 vm_in.1 [ag xs i 1, ag xs i 2, ag xs i 3]) (by decide) (by decide) hl.1 rfl (by decide) (fun r ν H1 locs1 hQ hW1 => ?_)
  obtain ⟨QM, hM, hcq⟩ := hcp r ν hQ
  refine lv_aload_n hx hb (dec_at dLw8 37) rfl (lv_at hl 1 rfl) ?_
  refine lw_arg 1 hC hW1 hl hi (by decide) (dec_at dLw8 38) (dec_at dLw8 39) (dec_at dLw8 40) (dec_at dLw8 41) (dec_at dLw8 42) ?_
  refine lw_arg 2 hC hW1 hl hi (by decide) (dec_at dLw8 43) (dec_at dLw8 44) (dec_at dLw8 45) (dec_at dLw8 46) (dec_at dLw8 47) ?_
  refine lw_arg 3 hC hW1 hl hi (by decide) (dec_at dLw9 0) (dec_at dLw9 1) (dec_at dLw9 2) (dec_at dLw9 3) (dec_at dLw9 4) ?_
  refine lw_call 21 84 (as := [vI (ag xs i 1), vI (ag xs i 2), vI (ag xs i 3)]) (rest := (r.map (eV ad)).toList) hC hW1 hM (dec_at dLw9 5) (List.mem_append_right _ (List.mem_append_right _ (List.mem_append_right _ (List.mem_append_right _ (List.mem_of_getElem? (i := 71) rfl))))) oX6_box iX6_box rfl rfl rfl (ok_is 21 vm_in.2 [ag xs i 1, ag xs i 2, ag xs i 3]) (by decide) (by decide) hl.1 (by simp) (rw8 r) (fun r1 ν1 H2 locs2 hQ1 hW2 => ?_)
  obtain ⟨hJ1, v, rfl, rfl⟩ := hcq r1 ν1 hQ1
  refine lv_icmp_eq (tgt := 945) hx hb (dec_at dLw9 6) (by decide) (fun _ => kk ν1 H2 locs2 hJ1 hW2) (fun q => absurd rfl q)

set_option maxRecDepth 100000 in
set_option maxHeartbeats 4000000 in
theorem lw_room {p : Program} {l : Launch} {e : Env} {s : State} {m : MethodId} {below : List Frame} {meth : Method} {c : Code} {b L : Nat} {xs : Nat → Int32} {G : va_G} {cI cN : ClassId} {ad : Nat → Int → Nat} {H : Heap} {locs : List Loc} {ls : Array Slot} {μ : Mm} {i : Nat} (hC : LC p s m meth c b L xs G cI cN) (hW : LW ad G cI cN μ s H locs) (hJ : J μ) (hl : lv_has ls 4 (lsv b ad i)) (hi : i + 6 ≤ L) (kk : ∀ (μ1 : Mm) (H1 : Heap) (locs1 : List Loc), J μ1 → LW ad G cI cN μ1 s H1 locs1 → Lg p l e s m below meth c b H1 locs1 (F0 m 945 ls [])) : Lg p l e s m below meth c b H locs (F0 m 669 ls []) := by
  have hx := hC.1.1
  have hb := hC.1.2.1
  obtain ⟨QX, hX, hcp⟩ := cp_room hJ (ag xs i 1) ag_in
  refine lv_aload_n hx hb (dec_at dLw9 9) rfl (lv_at hl 2 rfl) ?_
  refine lw_arg 1 hC hW hl hi (by decide) (dec_at dLw9 10) (dec_at dLw9 11) (dec_at dLw9 12) (dec_at dLw9 13) (dec_at dLw9 14) ?_
  refine lw_call 0 85 (as := [vI (ag xs i 1)]) (rest := []) hC hW hX (dec_at dLw9 15) (List.mem_append_right _ (List.mem_append_right _ (List.mem_append_left _ (List.mem_of_getElem? (i := 207) rfl)))) oX5_room iX5_room rfl rfl rfl (ok_is 0 vm_in.1 [ag xs i 1]) (by decide) (by decide) hl.1 rfl (by decide) (fun r ν H1 locs1 hQ hW1 => ?_)
  obtain ⟨QM, hM, hcq⟩ := hcp r ν hQ
  refine lv_aload_n hx hb (dec_at dLw9 16) rfl (lv_at hl 1 rfl) ?_
  refine lw_arg 1 hC hW1 hl hi (by decide) (dec_at dLw9 17) (dec_at dLw9 18) (dec_at dLw9 19) (dec_at dLw9 20) (dec_at dLw9 21) ?_
  refine lw_call 21 89 (as := [vI (ag xs i 1)]) (rest := (r.map (eV ad)).toList) hC hW1 hM (dec_at dLw9 22) (List.mem_append_right _ (List.mem_append_right _ (List.mem_append_right _ (List.mem_append_right _ (List.mem_of_getElem? (i := 76) rfl))))) oX6_room iX6_room rfl rfl rfl (ok_is 21 vm_in.2 [ag xs i 1]) (by decide) (by decide) hl.1 (by simp) (rw8 r) (fun r1 ν1 H2 locs2 hQ1 hW2 => ?_)
  obtain ⟨hJ1, v, rfl, rfl⟩ := hcq r1 ν1 hQ1
  refine W.lcmp hx hb (dec_at dLw9 23) ?_
  refine lv_if_eq (tgt := 945) hx hb (dec_at dLw9 24) (by decide) (fun _ => kk ν1 H2 locs2 hJ1 hW2) (fun q => absurd (lg_same _) q)

set_option maxRecDepth 100000 in
set_option maxHeartbeats 4000000 in
theorem lw_cut {p : Program} {l : Launch} {e : Env} {s : State} {m : MethodId} {below : List Frame} {meth : Method} {c : Code} {b L : Nat} {xs : Nat → Int32} {G : va_G} {cI cN : ClassId} {ad : Nat → Int → Nat} {H : Heap} {locs : List Loc} {ls : Array Slot} {μ : Mm} {i : Nat} (hC : LC p s m meth c b L xs G cI cN) (hW : LW ad G cI cN μ s H locs) (hJ : J μ) (hl : lv_has ls 4 (lsv b ad i)) (hi : i + 6 ≤ L) (kk : ∀ (μ1 : Mm) (H1 : Heap) (locs1 : List Loc), J μ1 → LW ad G cI cN μ1 s H1 locs1 → Lg p l e s m below meth c b H1 locs1 (F0 m 945 ls [])) : Lg p l e s m below meth c b H locs (F0 m 693 ls []) := by
  have hx := hC.1.1
  have hb := hC.1.2.1
  obtain ⟨QX, hX, hcp⟩ := cp_cut hJ (ag xs i 1) (ag xs i 2) (ag xs i 3) ag_in ag_in ag_in
  refine lv_aload_n hx hb (dec_at dLw9 27) rfl (lv_at hl 2 rfl) ?_
  refine lw_arg 1 hC hW hl hi (by decide) (dec_at dLw9 28) (dec_at dLw9 29) (dec_at dLw9 30) (dec_at dLw9 31) (dec_at dLw9 32) ?_
  refine lw_arg 2 hC hW hl hi (by decide) (dec_at dLw9 33) (dec_at dLw9 34) (dec_at dLw9 35) (dec_at dLw9 36) (dec_at dLw9 37) ?_
  refine lw_arg 3 hC hW hl hi (by decide) (dec_at dLw9 38) (dec_at dLw9 39) (dec_at dLw9 40) (dec_at dLw9 41) (dec_at dLw9 42) ?_
  refine lw_call 0 90 (as := [vI (ag xs i 1), vI (ag xs i 2), vI (ag xs i 3)]) (rest := []) hC hW hX (dec_at dLw9 43) (List.mem_append_right _ (List.mem_append_right _ (List.mem_append_left _ (List.mem_of_getElem? (i := 225) rfl)))) oX5_cut iX5_cut rfl rfl rfl (ok_is 0 vm_in.1 [ag xs i 1, ag xs i 2, ag xs i 3]) (by decide) (by decide) hl.1 rfl (by decide) (fun r ν H1 locs1 hQ hW1 => ?_)
  obtain ⟨QM, hM, hcq⟩ := hcp r ν hQ
  refine lv_aload_n hx hb (dec_at dLw9 44) rfl (lv_at hl 1 rfl) ?_
  refine lw_arg 1 hC hW1 hl hi (by decide) (dec_at dLw9 45) (dec_at dLw9 46) (dec_at dLw9 47) (dec_at dLw10 0) (dec_at dLw10 1) ?_
  refine lw_arg 2 hC hW1 hl hi (by decide) (dec_at dLw10 2) (dec_at dLw10 3) (dec_at dLw10 4) (dec_at dLw10 5) (dec_at dLw10 6) ?_
  refine lw_arg 3 hC hW1 hl hi (by decide) (dec_at dLw10 7) (dec_at dLw10 8) (dec_at dLw10 9) (dec_at dLw10 10) (dec_at dLw10 11) ?_
  refine lw_call 21 93 (as := [vI (ag xs i 1), vI (ag xs i 2), vI (ag xs i 3)]) (rest := (r.map (eV ad)).toList) hC hW1 hM (dec_at dLw10 12) (List.mem_append_right _ (List.mem_append_right _ (List.mem_append_right _ (List.mem_append_right _ (List.mem_of_getElem? (i := 86) rfl))))) oX6_cut iX6_cut rfl rfl rfl (ok_is 21 vm_in.2 [ag xs i 1, ag xs i 2, ag xs i 3]) (by decide) (by decide) hl.1 (by simp) (rw8 r) (fun r1 ν1 H2 locs2 hQ1 hW2 => ?_)
  obtain ⟨hJ1, v, rfl, rfl⟩ := hcq r1 ν1 hQ1
  refine lv_icmp_eq (tgt := 945) hx hb (dec_at dLw10 13) (by decide) (fun _ => kk ν1 H2 locs2 hJ1 hW2) (fun q => absurd rfl q)

set_option maxRecDepth 100000 in
set_option maxHeartbeats 4000000 in
theorem lw_near {p : Program} {l : Launch} {e : Env} {s : State} {m : MethodId} {below : List Frame} {meth : Method} {c : Code} {b L : Nat} {xs : Nat → Int32} {G : va_G} {cI cN : ClassId} {ad : Nat → Int → Nat} {H : Heap} {locs : List Loc} {ls : Array Slot} {μ : Mm} {i : Nat} (hC : LC p s m meth c b L xs G cI cN) (hW : LW ad G cI cN μ s H locs) (hJ : J μ) (hl : lv_has ls 4 (lsv b ad i)) (hi : i + 6 ≤ L) (kk : ∀ (μ1 : Mm) (H1 : Heap) (locs1 : List Loc), J μ1 → LW ad G cI cN μ1 s H1 locs1 → Lg p l e s m below meth c b H1 locs1 (F0 m 945 ls [])) : Lg p l e s m below meth c b H locs (F0 m 736 ls []) := by
  have hx := hC.1.1
  have hb := hC.1.2.1
  obtain ⟨QX, hX, hcp⟩ := cp_near hJ (ag xs i 1) (ag xs i 2) (ag xs i 3) (ag xs i 4) ag_in ag_in ag_in ag_in
  refine lv_aload_n hx hb (dec_at dLw10 16) rfl (lv_at hl 2 rfl) ?_
  refine lw_arg 1 hC hW hl hi (by decide) (dec_at dLw10 17) (dec_at dLw10 18) (dec_at dLw10 19) (dec_at dLw10 20) (dec_at dLw10 21) ?_
  refine lw_arg 2 hC hW hl hi (by decide) (dec_at dLw10 22) (dec_at dLw10 23) (dec_at dLw10 24) (dec_at dLw10 25) (dec_at dLw10 26) ?_
  refine lw_arg 3 hC hW hl hi (by decide) (dec_at dLw10 27) (dec_at dLw10 28) (dec_at dLw10 29) (dec_at dLw10 30) (dec_at dLw10 31) ?_
  refine lw_arg 4 hC hW hl hi (by decide) (dec_at dLw10 32) (dec_at dLw10 33) (dec_at dLw10 34) (dec_at dLw10 35) (dec_at dLw10 36) ?_
  refine lw_call 0 94 (as := [vI (ag xs i 1), vI (ag xs i 2), vI (ag xs i 3), vI (ag xs i 4)]) (rest := []) hC hW hX (dec_at dLw10 37) (List.mem_append_right _ (List.mem_append_right _ (List.mem_append_left _ (List.mem_of_getElem? (i := 233) rfl)))) oX5_near iX5_near rfl rfl rfl (ok_is 0 vm_in.1 [ag xs i 1, ag xs i 2, ag xs i 3, ag xs i 4]) (by decide) (by decide) hl.1 rfl (by decide) (fun r ν H1 locs1 hQ hW1 => ?_)
  obtain ⟨QM, hM, hcq⟩ := hcp r ν hQ
  refine lv_aload_n hx hb (dec_at dLw10 38) rfl (lv_at hl 1 rfl) ?_
  refine lw_arg 1 hC hW1 hl hi (by decide) (dec_at dLw10 39) (dec_at dLw10 40) (dec_at dLw10 41) (dec_at dLw10 42) (dec_at dLw10 43) ?_
  refine lw_arg 2 hC hW1 hl hi (by decide) (dec_at dLw10 44) (dec_at dLw10 45) (dec_at dLw10 46) (dec_at dLw10 47) (dec_at dLw11 0) ?_
  refine lw_arg 3 hC hW1 hl hi (by decide) (dec_at dLw11 1) (dec_at dLw11 2) (dec_at dLw11 3) (dec_at dLw11 4) (dec_at dLw11 5) ?_
  refine lw_arg 4 hC hW1 hl hi (by decide) (dec_at dLw11 6) (dec_at dLw11 7) (dec_at dLw11 8) (dec_at dLw11 9) (dec_at dLw11 10) ?_
  refine lw_call 21 98 (as := [vI (ag xs i 1), vI (ag xs i 2), vI (ag xs i 3), vI (ag xs i 4)]) (rest := (r.map (eV ad)).toList) hC hW1 hM (dec_at dLw11 11) (List.mem_append_right _ (List.mem_append_right _ (List.mem_append_right _ (List.mem_append_right _ (List.mem_of_getElem? (i := 90) rfl))))) oX6_near iX6_near rfl rfl rfl (ok_is 21 vm_in.2 [ag xs i 1, ag xs i 2, ag xs i 3, ag xs i 4]) (by decide) (by decide) hl.1 (by simp) (rw8 r) (fun r1 ν1 H2 locs2 hQ1 hW2 => ?_)
  obtain ⟨hJ1, v, rfl, rfl⟩ := hcq r1 ν1 hQ1
  refine lv_icmp_eq (tgt := 945) hx hb (dec_at dLw11 12) (by decide) (fun _ => kk ν1 H2 locs2 hJ1 hW2) (fun q => absurd rfl q)

set_option maxRecDepth 100000 in
set_option maxHeartbeats 4000000 in
theorem lw_move {p : Program} {l : Launch} {e : Env} {s : State} {m : MethodId} {below : List Frame} {meth : Method} {c : Code} {b L : Nat} {xs : Nat → Int32} {G : va_G} {cI cN : ClassId} {ad : Nat → Int → Nat} {H : Heap} {locs : List Loc} {ls : Array Slot} {μ : Mm} {i : Nat} (hC : LC p s m meth c b L xs G cI cN) (hW : LW ad G cI cN μ s H locs) (hJ : J μ) (hl : lv_has ls 4 (lsv b ad i)) (hi : i + 6 ≤ L) (kk : ∀ (μ1 : Mm) (H1 : Heap) (locs1 : List Loc), J μ1 → LW ad G cI cN μ1 s H1 locs1 → Lg p l e s m below meth c b H1 locs1 (F0 m 945 ls [])) : Lg p l e s m below meth c b H locs (F0 m 789 ls []) := by
  have hx := hC.1.1
  have hb := hC.1.2.1
  obtain ⟨QX, hX, hcp⟩ := cp_move hJ (ag xs i 1) (ag xs i 2) (ag xs i 3) (ag xs i 4) (ag xs i 5) ag_in ag_in ag_in ag_in ag_in
  refine lv_aload_n hx hb (dec_at dLw11 15) rfl (lv_at hl 2 rfl) ?_
  refine lw_arg 1 hC hW hl hi (by decide) (dec_at dLw11 16) (dec_at dLw11 17) (dec_at dLw11 18) (dec_at dLw11 19) (dec_at dLw11 20) ?_
  refine lw_arg 2 hC hW hl hi (by decide) (dec_at dLw11 21) (dec_at dLw11 22) (dec_at dLw11 23) (dec_at dLw11 24) (dec_at dLw11 25) ?_
  refine lw_arg 3 hC hW hl hi (by decide) (dec_at dLw11 26) (dec_at dLw11 27) (dec_at dLw11 28) (dec_at dLw11 29) (dec_at dLw11 30) ?_
  refine lw_arg 4 hC hW hl hi (by decide) (dec_at dLw11 31) (dec_at dLw11 32) (dec_at dLw11 33) (dec_at dLw11 34) (dec_at dLw11 35) ?_
  refine lw_arg 5 hC hW hl hi (by decide) (dec_at dLw11 36) (dec_at dLw11 37) (dec_at dLw11 38) (dec_at dLw11 39) (dec_at dLw11 40) ?_
  refine lw_call 0 99 (as := [vI (ag xs i 1), vI (ag xs i 2), vI (ag xs i 3), vI (ag xs i 4), vI (ag xs i 5)]) (rest := []) hC hW hX (dec_at dLw11 41) (List.mem_append_right _ (List.mem_append_right _ (List.mem_append_right _ (List.mem_append_left _ (List.mem_of_getElem? (i := 9) rfl))))) oX5_move iX5_move rfl rfl rfl (ok_is 0 vm_in.1 [ag xs i 1, ag xs i 2, ag xs i 3, ag xs i 4, ag xs i 5]) (by decide) (by decide) hl.1 rfl (by decide) (fun r ν H1 locs1 hQ hW1 => ?_)
  obtain ⟨QM, hM, hcq⟩ := hcp r ν hQ
  refine lv_aload_n hx hb (dec_at dLw11 42) rfl (lv_at hl 1 rfl) ?_
  refine lw_arg 1 hC hW1 hl hi (by decide) (dec_at dLw11 43) (dec_at dLw11 44) (dec_at dLw11 45) (dec_at dLw11 46) (dec_at dLw11 47) ?_
  refine lw_arg 2 hC hW1 hl hi (by decide) (dec_at dLw12 0) (dec_at dLw12 1) (dec_at dLw12 2) (dec_at dLw12 3) (dec_at dLw12 4) ?_
  refine lw_arg 3 hC hW1 hl hi (by decide) (dec_at dLw12 5) (dec_at dLw12 6) (dec_at dLw12 7) (dec_at dLw12 8) (dec_at dLw12 9) ?_
  refine lw_arg 4 hC hW1 hl hi (by decide) (dec_at dLw12 10) (dec_at dLw12 11) (dec_at dLw12 12) (dec_at dLw12 13) (dec_at dLw12 14) ?_
  refine lw_arg 5 hC hW1 hl hi (by decide) (dec_at dLw12 15) (dec_at dLw12 16) (dec_at dLw12 17) (dec_at dLw12 18) (dec_at dLw12 19) ?_
  refine lw_call 21 103 (as := [vI (ag xs i 1), vI (ag xs i 2), vI (ag xs i 3), vI (ag xs i 4), vI (ag xs i 5)]) (rest := (r.map (eV ad)).toList) hC hW1 hM (dec_at dLw12 20) (List.mem_append_right _ (List.mem_append_right _ (List.mem_append_right _ (List.mem_append_right _ (List.mem_of_getElem? (i := 99) rfl))))) oX6_move iX6_move rfl rfl rfl (ok_is 21 vm_in.2 [ag xs i 1, ag xs i 2, ag xs i 3, ag xs i 4, ag xs i 5]) (by decide) (by decide) hl.1 (by simp) (rw8 r) (fun r1 ν1 H2 locs2 hQ1 hW2 => ?_)
  obtain ⟨hJ1, v, rfl, rfl⟩ := hcq r1 ν1 hQ1
  refine lv_icmp_eq (tgt := 945) hx hb (dec_at dLw12 21) (by decide) (fun _ => kk ν1 H2 locs2 hJ1 hW2) (fun q => absurd rfl q)

set_option maxRecDepth 100000 in
set_option maxHeartbeats 4000000 in
theorem lw_moved {p : Program} {l : Launch} {e : Env} {s : State} {m : MethodId} {below : List Frame} {meth : Method} {c : Code} {b L : Nat} {xs : Nat → Int32} {G : va_G} {cI cN : ClassId} {ad : Nat → Int → Nat} {H : Heap} {locs : List Loc} {ls : Array Slot} {μ : Mm} {i : Nat} (hC : LC p s m meth c b L xs G cI cN) (hW : LW ad G cI cN μ s H locs) (hJ : J μ) (hl : lv_has ls 4 (lsv b ad i)) (hi : i + 6 ≤ L) (kk : ∀ (μ1 : Mm) (H1 : Heap) (locs1 : List Loc), J μ1 → LW ad G cI cN μ1 s H1 locs1 → Lg p l e s m below meth c b H1 locs1 (F0 m 945 ls [])) : Lg p l e s m below meth c b H locs (F0 m 852 ls []) := by
  have hx := hC.1.1
  have hb := hC.1.2.1
  obtain ⟨QX, hX, hcp⟩ := cp_moved hJ (ag xs i 1) (ag xs i 2) (ag xs i 3) ag_in ag_in ag_in
  refine lv_aload_n hx hb (dec_at dLw12 24) rfl (lv_at hl 2 rfl) ?_
  refine lw_arg 1 hC hW hl hi (by decide) (dec_at dLw12 25) (dec_at dLw12 26) (dec_at dLw12 27) (dec_at dLw12 28) (dec_at dLw12 29) ?_
  refine lw_arg 2 hC hW hl hi (by decide) (dec_at dLw12 30) (dec_at dLw12 31) (dec_at dLw12 32) (dec_at dLw12 33) (dec_at dLw12 34) ?_
  refine lw_arg 3 hC hW hl hi (by decide) (dec_at dLw12 35) (dec_at dLw12 36) (dec_at dLw12 37) (dec_at dLw12 38) (dec_at dLw12 39) ?_
  refine lw_call 0 104 (as := [vI (ag xs i 1), vI (ag xs i 2), vI (ag xs i 3)]) (rest := []) hC hW hX (dec_at dLw12 40) (List.mem_append_right _ (List.mem_append_right _ (List.mem_append_right _ (List.mem_append_left _ (List.mem_of_getElem? (i := 40) rfl))))) oX5_moved iX5_moved rfl rfl rfl (ok_is 0 vm_in.1 [ag xs i 1, ag xs i 2, ag xs i 3]) (by decide) (by decide) hl.1 rfl (by decide) (fun r ν H1 locs1 hQ hW1 => ?_)
  obtain ⟨QM, hM, hcq⟩ := hcp r ν hQ
  refine lv_aload_n hx hb (dec_at dLw12 41) rfl (lv_at hl 1 rfl) ?_
  refine lw_arg 1 hC hW1 hl hi (by decide) (dec_at dLw12 42) (dec_at dLw12 43) (dec_at dLw12 44) (dec_at dLw12 45) (dec_at dLw12 46) ?_
  refine lw_arg 2 hC hW1 hl hi (by decide) (dec_at dLw12 47) (dec_at dLw13 0) (dec_at dLw13 1) (dec_at dLw13 2) (dec_at dLw13 3) ?_
  refine lw_arg 3 hC hW1 hl hi (by decide) (dec_at dLw13 4) (dec_at dLw13 5) (dec_at dLw13 6) (dec_at dLw13 7) (dec_at dLw13 8) ?_
  refine lw_call 21 107 (as := [vI (ag xs i 1), vI (ag xs i 2), vI (ag xs i 3)]) (rest := (r.map (eV ad)).toList) hC hW1 hM (dec_at dLw13 9) (List.mem_append_right _ (List.mem_append_right _ (List.mem_append_right _ (List.mem_append_right _ (List.mem_of_getElem? (i := 103) rfl))))) oX6_moved iX6_moved rfl rfl rfl (ok_is 21 vm_in.2 [ag xs i 1, ag xs i 2, ag xs i 3]) (by decide) (by decide) hl.1 (by simp) (rw8 r) (fun r1 ν1 H2 locs2 hQ1 hW2 => ?_)
  obtain ⟨hJ1, v, rfl, rfl⟩ := hcq r1 ν1 hQ1
  refine lv_icmp_eq (tgt := 945) hx hb (dec_at dLw13 10) (by decide) (fun _ => kk ν1 H2 locs2 hJ1 hW2) (fun q => absurd rfl q)

set_option maxRecDepth 100000 in
set_option maxHeartbeats 4000000 in
theorem lw_cause {p : Program} {l : Launch} {e : Env} {s : State} {m : MethodId} {below : List Frame} {meth : Method} {c : Code} {b L : Nat} {xs : Nat → Int32} {G : va_G} {cI cN : ClassId} {ad : Nat → Int → Nat} {H : Heap} {locs : List Loc} {ls : Array Slot} {μ : Mm} {i : Nat} (hC : LC p s m meth c b L xs G cI cN) (hW : LW ad G cI cN μ s H locs) (hJ : J μ) (hl : lv_has ls 4 (lsv b ad i)) (hi : i + 6 ≤ L) (kk : ∀ (μ1 : Mm) (H1 : Heap) (locs1 : List Loc), J μ1 → LW ad G cI cN μ1 s H1 locs1 → Lg p l e s m below meth c b H1 locs1 (F0 m 945 ls [])) : Lg p l e s m below meth c b H locs (F0 m 895 ls []) := by
  have hx := hC.1.1
  have hb := hC.1.2.1
  obtain ⟨QX, hX, hcp⟩ := cp_cause hJ
  refine lv_aload_n hx hb (dec_at dLw13 13) rfl (lv_at hl 2 rfl) ?_
  refine lw_call 0 108 (as := []) (rest := []) hC hW hX (dec_at dLw13 14) (List.mem_append_right _ (List.mem_append_right _ (List.mem_append_right _ (List.mem_append_left _ (List.mem_of_getElem? (i := 45) rfl))))) oX5_cause iX5_cause rfl rfl rfl (ok_is 0 vm_in.1 []) (by decide) (by decide) hl.1 rfl (by decide) (fun r ν H1 locs1 hQ hW1 => ?_)
  obtain ⟨QM, hM, hcq⟩ := hcp r ν hQ
  refine lv_aload_n hx hb (dec_at dLw13 15) rfl (lv_at hl 1 rfl) ?_
  refine lw_call 21 111 (as := []) (rest := (r.map (eV ad)).toList) hC hW1 hM (dec_at dLw13 16) (List.mem_append_right _ (List.mem_append_right _ (List.mem_append_right _ (List.mem_append_right _ (List.mem_of_getElem? (i := 107) rfl))))) oX6_cause iX6_cause rfl rfl rfl (ok_is 21 vm_in.2 []) (by decide) (by decide) hl.1 (by simp) (rw8 r) (fun r1 ν1 H2 locs2 hQ1 hW2 => ?_)
  obtain ⟨hJ1, v, rfl, rfl⟩ := hcq r1 ν1 hQ1
  refine lv_icmp_eq (tgt := 945) hx hb (dec_at dLw13 17) (by decide) (fun _ => kk ν1 H2 locs2 hJ1 hW2) (fun q => absurd rfl q)

set_option maxRecDepth 100000 in
set_option maxHeartbeats 4000000 in
theorem lw_count {p : Program} {l : Launch} {e : Env} {s : State} {m : MethodId} {below : List Frame} {meth : Method} {c : Code} {b L : Nat} {xs : Nat → Int32} {G : va_G} {cI cN : ClassId} {ad : Nat → Int → Nat} {H : Heap} {locs : List Loc} {ls : Array Slot} {μ : Mm} {i : Nat} (hC : LC p s m meth c b L xs G cI cN) (hW : LW ad G cI cN μ s H locs) (hJ : J μ) (hl : lv_has ls 4 (lsv b ad i)) (hi : i + 6 ≤ L) (kk : ∀ (μ1 : Mm) (H1 : Heap) (locs1 : List Loc), J μ1 → LW ad G cI cN μ1 s H1 locs1 → Lg p l e s m below meth c b H1 locs1 (F0 m 945 ls [])) : Lg p l e s m below meth c b H locs (F0 m 908 ls []) := by
  have hx := hC.1.1
  have hb := hC.1.2.1
  obtain ⟨QX, hX, hcp⟩ := cp_count hJ (ag xs i 1) ag_in
  refine lv_aload_n hx hb (dec_at dLw13 20) rfl (lv_at hl 2 rfl) ?_
  refine lw_arg 1 hC hW hl hi (by decide) (dec_at dLw13 21) (dec_at dLw13 22) (dec_at dLw13 23) (dec_at dLw13 24) (dec_at dLw13 25) ?_
  refine lw_call 0 112 (as := [vI (ag xs i 1)]) (rest := []) hC hW hX (dec_at dLw13 26) (List.mem_append_right _ (List.mem_append_right _ (List.mem_append_right _ (List.mem_append_left _ (List.mem_of_getElem? (i := 49) rfl))))) oX5_count iX5_count rfl rfl rfl (ok_is 0 vm_in.1 [ag xs i 1]) (by decide) (by decide) hl.1 rfl (by decide) (fun r ν H1 locs1 hQ hW1 => ?_)
  obtain ⟨QM, hM, hcq⟩ := hcp r ν hQ
  refine lv_aload_n hx hb (dec_at dLw13 27) rfl (lv_at hl 1 rfl) ?_
  refine lw_arg 1 hC hW1 hl hi (by decide) (dec_at dLw13 28) (dec_at dLw13 29) (dec_at dLw13 30) (dec_at dLw13 31) (dec_at dLw13 32) ?_
  refine lw_call 21 115 (as := [vI (ag xs i 1)]) (rest := (r.map (eV ad)).toList) hC hW1 hM (dec_at dLw13 33) (List.mem_append_right _ (List.mem_append_right _ (List.mem_append_right _ (List.mem_append_right _ (List.mem_of_getElem? (i := 111) rfl))))) oX6_count iX6_count rfl rfl rfl (ok_is 21 vm_in.2 [ag xs i 1]) (by decide) (by decide) hl.1 (by simp) (rw8 r) (fun r1 ν1 H2 locs2 hQ1 hW2 => ?_)
  obtain ⟨hJ1, v, rfl, rfl⟩ := hcq r1 ν1 hQ1
  refine lv_icmp_eq (tgt := 945) hx hb (dec_at dLw13 34) (by decide) (fun _ => kk ν1 H2 locs2 hJ1 hW2) (fun q => absurd rfl q)

set_option maxRecDepth 100000 in
set_option maxHeartbeats 4000000 in
theorem lw_digest {p : Program} {l : Launch} {e : Env} {s : State} {m : MethodId} {below : List Frame} {meth : Method} {c : Code} {b L : Nat} {xs : Nat → Int32} {G : va_G} {cI cN : ClassId} {ad : Nat → Int → Nat} {H : Heap} {locs : List Loc} {ls : Array Slot} {μ : Mm} {i : Nat} (hC : LC p s m meth c b L xs G cI cN) (hW : LW ad G cI cN μ s H locs) (hJ : J μ) (hl : lv_has ls 4 (lsv b ad i)) (hi : i + 6 ≤ L) (kk : ∀ (μ1 : Mm) (H1 : Heap) (locs1 : List Loc), J μ1 → LW ad G cI cN μ1 s H1 locs1 → Lg p l e s m below meth c b H1 locs1 (F0 m 945 ls [])) : Lg p l e s m below meth c b H locs (F0 m 931 ls []) := by
  have hx := hC.1.1
  have hb := hC.1.2.1
  obtain ⟨QX, hX, hcp⟩ := cp_digest hJ
  refine lv_aload_n hx hb (dec_at dLw13 37) rfl (lv_at hl 2 rfl) ?_
  refine lw_call 0 116 (as := []) (rest := []) hC hW hX (dec_at dLw13 38) (List.mem_append_right _ (List.mem_append_right _ (List.mem_append_right _ (List.mem_append_left _ (List.mem_of_getElem? (i := 53) rfl))))) oX5_digest iX5_digest rfl rfl rfl (ok_is 0 vm_in.1 []) (by decide) (by decide) hl.1 rfl (by decide) (fun r ν H1 locs1 hQ hW1 => ?_)
  obtain ⟨QM, hM, hcq⟩ := hcp r ν hQ
  refine lv_aload_n hx hb (dec_at dLw13 39) rfl (lv_at hl 1 rfl) ?_
  refine lw_call 21 120 (as := []) (rest := (r.map (eV ad)).toList) hC hW1 hM (dec_at dLw13 40) (List.mem_append_right _ (List.mem_append_right _ (List.mem_append_right _ (List.mem_append_right _ (List.mem_of_getElem? (i := 115) rfl))))) oX6_digest iX6_digest rfl rfl rfl (ok_is 21 vm_in.2 []) (by decide) (by decide) hl.1 (by simp) (rw8 r) (fun r1 ν1 H2 locs2 hQ1 hW2 => ?_)
  obtain ⟨hJ1, v, rfl, rfl⟩ := hcq r1 ν1 hQ1
  refine W.lcmp hx hb (dec_at dLw13 41) ?_
  refine lv_if_eq (tgt := 945) hx hb (dec_at dLw13 42) (by decide) (fun _ => kk ν1 H2 locs2 hJ1 hW2) (fun q => absurd (lg_same _) q)
