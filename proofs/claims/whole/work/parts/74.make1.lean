/-! MAKING: what the class and the reference are when they are made -/
abbrev aZ (cI : ClassId) (n : Nat) : va_E := .inl (cI, n, .inl (fun _ => 0))
abbrev aQ (cN : ClassId) (f : Nat → Option Nat) : va_E := .inl (cN, 4, .inr (.inr (.inr (.inr f))))
theorem n_newa {p : Program} {l : Launch} {e : Env} {R : Room} {s : State} {m : MethodId} {args : Array Value} {below : List Frame} {meth : Method} {c : Code} {H H0 : Heap} {locs : List Loc} {cells slots : Nat} {Q : State → Prop} {pc : Nat} {ls : Array Slot} {rest : List Value} {A : Nat → Prop} {G : va_G} {ws : va_W} {tys : List (ClassId × FieldType)} {cc : ByteArray} {cI : ClassId} {N' : Nat} {n : Int32} (hx : p.tables.exec = Jvm.exec) (hb : c.code = cc) (hts : ∀ w ∈ Gw, w.before args s = true) (hK : va_K G vwCl tys s) (h0 : tys[0]? = some (cI, .int)) (hP : va_P G vwCl ws H) (hD : va_D A ws) (hS : va_S A H0 H locs) (hA : ∀ q, H0.size ≤ q → A q) (hn : ¬ n < 0) (hN : n.toNatClampNeg = N') (hbytes : N' * 4 ≤ 536870912) (hcells : cells + 1 ≤ R.cells) (hslots : slots + N' ≤ R.slots) (hdg : decode cc pc = .ok (.newarray .int, 2))
    (kk : ∀ (q : Nat) (H1 : Heap), va_P G vwCl (ws ++ [(q, aZ cI N')]) H1 → va_D A (ws ++ [(q, aZ cI N')]) → va_S A H0 H1 locs → W p l e R s m args below meth c H1 locs (cells + 1) (slots + N') Q (F0 m (pc + 2) ls (.ref q :: rest))) : W p l e R s m args below meth c H locs cells slots Q (F0 m pc ls (.int n :: rest)) := by
  refine va_newa (ty := .int) (a0 := (N', .inl (fun _ => 0))) hx hb (hts _ (Gw_t1 36 rfl rfl)) rfl hK hP hD hS hA (fun cA => rfl) hn hN hbytes hcells hslots hdg (fun q cA H1 hK1 hP1 hD1 hS1 => ?_)
  have e1 : s.vm.findClass ("[" ++ (FieldType.int).toString) = some cA := (hK1.2 tys.length (cA, .int) (by simp)).2
  have e2 : s.vm.findClass ("[" ++ (FieldType.int).toString) = some cI := (hK.2 0 (cI, .int) h0).2
  obtain rfl : cA = cI := Option.some.inj (e1.symm.trans e2)
  exact kk q H1 hP1 hD1 hS1
/-- the nets' addresses by their number -/
def nad (a b c d : Nat) (l : Int) : Nat := if l = 0 then a else if l = 1 then b else if l = 2 then c else d
theorem aQ_cell {cN : ClassId} {f g : Nat → Option Nat} (h : ∀ j, j < 4 → f j = g j) : vp_cell cN (4, .inr (.inr (.inr (.inr f)))) = vp_cell cN (4, .inr (.inr (.inr (.inr g)))) := by
  show arrV cN 4 (fun j => va_rf (f j)) = arrV cN 4 (fun j => va_rf (g j))
  unfold arrV
  congr 1
  apply Array.ext
  · simp
  · intro j h1 h2
    have hj : j < 4 := by simpa using h1
    simp [h j hj]

set_option maxRecDepth 100000 in
set_option maxHeartbeats 8000000 in
theorem k_row (l : Launch) (G : va_G) (cI : ClassId) (h0 sz : Nat) : Met l yX3_init (.code yX3_init cX3_init 1 none :: Gw) ({ frames := 2, cells := 1, slots := 8, locals := 60 }) (va_Pc [.ref h0] (fun U => U.heap.size = sz ∧ va_P G vwCl [(h0, .inr (3, [.null, .int 0, .int 0]))] U.heap ∧ va_K G vwCl [(cI, .int)] U ∧ va_D (fun _ => True) [(h0, .inr (3, [.null, .int 0, .int 0]))])) (va_Qv (fun (_ : Unit) => True) (fun (_ : Unit) t => ∃ (z0 : Nat), va_P G vwCl [(h0, .inr (3, [.ref z0, .int 0, .int (-1)])), (z0, aZ cI 8)] t.heap ∧ va_D (va_A [(h0, .inr (3, [.null, .int 0, .int 0]))] sz) [(h0, .inr (3, [.ref z0, .int 0, .int (-1)])), (z0, aZ cI 8)]) (va_A [(h0, .inr (3, [.null, .int 0, .int 0]))] sz)) 1 8 (va_A [(h0, .inr (3, [.null, .int 0, .int 0]))] sz) := by
  refine Met.ofW (cc := cX3_init) (maxL := 1) (ret := none) (by decide +kernel) rfl ?_
  intro p e s m args below meth c s₁ B hml hv
  obtain ⟨rfl, hsz, hP, hK, hD0⟩ := hv
  have hx := B.exec
  have hb := B.bytes
  have hr := B.returns
  have hts : ∀ w ∈ Gw, w.before _ s = true := fun w hw => atoms_spec (ws := .code yX3_init cX3_init 1 none :: Gw) B.pre w (List.mem_cons_of_mem _ hw)
  have hown : s.vm.findClass RX3 = some m.cls := findClass_of_methodNamed B.named
  have hlocks := B.notSynchronized
  have hin : meth.name = "<init>" := (name_of_methodNamed B.named B.method).1
  subst hsz
  have hD := hD0.self (sz := s.heap.size)
  generalize hAe : va_A [(h0, .inr (3, [.null, .int 0, .int 0]))] s.heap.size = A at hD ⊢
  have hA : ∀ q : Nat, s.heap.size ≤ q → A q := fun q h => by rw [← hAe]; exact Or.inr h
  have hS : va_S A s.heap s.heap [] := va_S.rf
  have hP : va_P G vwCl [(h0, .inr (3, [.null, .int 0, .int 0]))] s.heap := hP
  have hl := lv_entry ([.ref h0]) (n := 1) (Nat.le_of_ble_eq_true rfl)
  rw [lg_entry_eq]
  generalize (lg_sl ([.ref h0]) ++ List.replicate (1 - (lg_sl ([.ref h0])).length) Slot.unset).toArray = ls at hl ⊢
  have hl : lv_has ls 1 [(0, .ref h0)] := hl
  refine lv_aload_n hx hb (dec_at dX3_init 0) rfl (lv_at hl 0 rfl) ?_
  refine W.objInit hx hb hown (hts _ (Gw_t1 22 rfl rfl)) (hts _ (Gw_t1 15 rfl rfl)) (hts _ (Gw_t1 16 rfl rfl)) rfl (by rw [hml]; exact hl.1) rfl (dec_at dX3_init 1) (Nat.le_of_ble_eq_true rfl) (Nat.le_of_ble_eq_true rfl) ?_
  refine W.eq (g2 := F0 m 4 ls []) rfl ?_
  refine lv_aload_n hx hb (dec_at dX3_init 2) rfl (lv_at hl 0 rfl) ?_
  refine lv_bipush (v := 8) hx hb (dec_at dX3_init 3) (by decide) ?_
  refine n_newa (N' := 8) hx hb hts hK rfl hP hD hS hA (by decide) (by decide) (Nat.le_of_ble_eq_true rfl) (Nat.le_of_ble_eq_true rfl) (Nat.le_of_ble_eq_true rfl) (dec_at dX3_init 4) (fun q1 H hP hD hS => ?_)
  have hP : va_P G vwCl [(h0, .inr (3, [.null, .int 0, .int 0])), (q1, aZ cI 8)] H := hP
  have hD : va_D A [(h0, .inr (3, [.null, .int 0, .int 0])), (q1, aZ cI 8)] := hD
  refine W.widen (k := 1) (n := 8) (Nat.le_of_ble_eq_true rfl) (Nat.le_of_ble_eq_true rfl) ?_
  refine va_putF (D := G) (ci := 3) (v := .ref q1) (ty := .array .int) (C := RX3) (T := TX3) (N := 3) hx hb hts inX3 tyX3 tyX3_ok nmX3 hown hK hP hD hS 0 rfl rfl 0 (by decide) (hts _ (Gw_t1 23 rfl rfl)) (fun _ h9 => h9) rfl hin rfl (by decide +kernel) rfl rfl (Nat.le_of_ble_eq_true rfl) (dec_at dX3_init 5) (fun H locs hP hD hS => ?_)
  have hP : va_P G vwCl [(h0, .inr (3, [.ref q1, .int 0, .int 0])), (q1, aZ cI 8)] H := hP
  have hD : va_D A [(h0, .inr (3, [.ref q1, .int 0, .int 0])), (q1, aZ cI 8)] := hD
  refine lv_aload_n hx hb (dec_at dX3_init 6) rfl (lv_at hl 0 rfl) ?_
  refine lv_iconst (v := 0) hx hb (dec_at dX3_init 7) (by decide) ?_
  refine va_put (D := G) (ci := 3) (v := .int 0) (ty := .int) (C := RX3) (T := TX3) (N := 3) hx hb hts inX3 tyX3 tyX3_ok nmX3 hown hK hP hD hS 0 rfl rfl 1 (by decide) (hts _ (Gw_t1 25 rfl rfl)) (fun _ h9 => h9) rfl (by decide +kernel) rfl rfl (Nat.le_of_ble_eq_true rfl) (dec_at dX3_init 8) (fun H locs hP hD hS => ?_)
  have hP : va_P G vwCl [(h0, .inr (3, [.ref q1, .int 0, .int 0])), (q1, aZ cI 8)] H := hP
  have hD : va_D A [(h0, .inr (3, [.ref q1, .int 0, .int 0])), (q1, aZ cI 8)] := hD
  refine lv_aload_n hx hb (dec_at dX3_init 9) rfl (lv_at hl 0 rfl) ?_
  refine lv_iconst (v := (-1)) hx hb (dec_at dX3_init 10) (by decide) ?_
  refine va_put (D := G) (ci := 3) (v := .int (-1)) (ty := .int) (C := RX3) (T := TX3) (N := 3) hx hb hts inX3 tyX3 tyX3_ok nmX3 hown hK hP hD hS 0 rfl rfl 2 (by decide) (hts _ (Gw_t1 27 rfl rfl)) (fun _ h9 => h9) rfl (by decide +kernel) rfl rfl (Nat.le_of_ble_eq_true rfl) (dec_at dX3_init 11) (fun H locs hP hD hS => ?_)
  have hP : va_P G vwCl [(h0, .inr (3, [.ref q1, .int 0, .int (-1)])), (q1, aZ cI 8)] H := hP
  have hD : va_D A [(h0, .inr (3, [.ref q1, .int 0, .int (-1)])), (q1, aZ cI 8)] := hD
  have hP9 := hP.sub (ws' := [(h0, .inr (3, [.ref q1, .int 0, .int (-1)])), (q1, aZ cI 8)]) [0, 1] rfl
  have hD9 := hD.sub (ws' := [(h0, .inr (3, [.ref q1, .int 0, .int (-1)])), (q1, aZ cI 8)]) [0, 1] (by decide) rfl
  exact W.vret hx hb hr (fun t ht hW => ⟨⟨(), rfl, trivial, q1, by rw [ht]; exact hP9, hD9⟩, hS.F ht⟩) hS.2.2 (dec_at dX3_init 12)

set_option maxRecDepth 100000 in
set_option maxHeartbeats 8000000 in
theorem k_check (l : Launch) (G : va_G) (cI : ClassId) (h0 sz : Nat) : Met l yX0_init (.code yX0_init cX0_init 1 none :: Gw) ({ frames := 2, cells := 1, slots := 196, locals := 60 }) (va_Pc [.ref h0] (fun U => U.heap.size = sz ∧ va_P G vwCl [(h0, .inr (0, [.null, .int 0, .int 0]))] U.heap ∧ va_K G vwCl [(cI, .int)] U ∧ va_D (fun _ => True) [(h0, .inr (0, [.null, .int 0, .int 0]))])) (va_Qv (fun (_ : Unit) => True) (fun (_ : Unit) t => ∃ (z0 : Nat), va_P G vwCl [(h0, .inr (0, [.ref z0, .int 1, .int (-1)])), (z0, aZ cI 196)] t.heap ∧ va_D (va_A [(h0, .inr (0, [.null, .int 0, .int 0]))] sz) [(h0, .inr (0, [.ref z0, .int 1, .int (-1)])), (z0, aZ cI 196)]) (va_A [(h0, .inr (0, [.null, .int 0, .int 0]))] sz)) 1 196 (va_A [(h0, .inr (0, [.null, .int 0, .int 0]))] sz) := by
  refine Met.ofW (cc := cX0_init) (maxL := 1) (ret := none) (by decide +kernel) rfl ?_
  intro p e s m args below meth c s₁ B hml hv
  obtain ⟨rfl, hsz, hP, hK, hD0⟩ := hv
  have hx := B.exec
  have hb := B.bytes
  have hr := B.returns
  have hts : ∀ w ∈ Gw, w.before _ s = true := fun w hw => atoms_spec (ws := .code yX0_init cX0_init 1 none :: Gw) B.pre w (List.mem_cons_of_mem _ hw)
  have hown : s.vm.findClass RX0 = some m.cls := findClass_of_methodNamed B.named
  have hlocks := B.notSynchronized
  have hin : meth.name = "<init>" := (name_of_methodNamed B.named B.method).1
  subst hsz
  have hD := hD0.self (sz := s.heap.size)
  generalize hAe : va_A [(h0, .inr (0, [.null, .int 0, .int 0]))] s.heap.size = A at hD ⊢
  have hA : ∀ q : Nat, s.heap.size ≤ q → A q := fun q h => by rw [← hAe]; exact Or.inr h
  have hS : va_S A s.heap s.heap [] := va_S.rf
  have hP : va_P G vwCl [(h0, .inr (0, [.null, .int 0, .int 0]))] s.heap := hP
  have hl := lv_entry ([.ref h0]) (n := 1) (Nat.le_of_ble_eq_true rfl)
  rw [lg_entry_eq]
  generalize (lg_sl ([.ref h0]) ++ List.replicate (1 - (lg_sl ([.ref h0])).length) Slot.unset).toArray = ls at hl ⊢
  have hl : lv_has ls 1 [(0, .ref h0)] := hl
  refine lv_aload_n hx hb (dec_at dX0_init 0) rfl (lv_at hl 0 rfl) ?_
  refine W.objInit hx hb hown (hts _ (Gw_t1 107 rfl rfl)) (hts _ (Gw_t1 15 rfl rfl)) (hts _ (Gw_t1 16 rfl rfl)) rfl (by rw [hml]; exact hl.1) rfl (dec_at dX0_init 1) (Nat.le_of_ble_eq_true rfl) (Nat.le_of_ble_eq_true rfl) ?_
  refine W.eq (g2 := F0 m 4 ls []) rfl ?_
  refine lv_aload_n hx hb (dec_at dX0_init 2) rfl (lv_at hl 0 rfl) ?_
  refine lv_sipush (v := 196) hx hb (dec_at dX0_init 3) (by decide) ?_
  refine n_newa (N' := 196) hx hb hts hK rfl hP hD hS hA (by decide) (by decide) (Nat.le_of_ble_eq_true rfl) (Nat.le_of_ble_eq_true rfl) (Nat.le_of_ble_eq_true rfl) (dec_at dX0_init 4) (fun q1 H hP hD hS => ?_)
  have hP : va_P G vwCl [(h0, .inr (0, [.null, .int 0, .int 0])), (q1, aZ cI 196)] H := hP
  have hD : va_D A [(h0, .inr (0, [.null, .int 0, .int 0])), (q1, aZ cI 196)] := hD
  refine W.widen (k := 1) (n := 196) (Nat.le_of_ble_eq_true rfl) (Nat.le_of_ble_eq_true rfl) ?_
  refine va_putF (D := G) (ci := 0) (v := .ref q1) (ty := .array .int) (C := RX0) (T := TX0) (N := 3) hx hb hts inX0 tyX0 tyX0_ok nmX0 hown hK hP hD hS 0 rfl rfl 0 (by decide) (hts _ (Gw_t1 108 rfl rfl)) (fun _ h9 => h9) rfl hin rfl (by decide +kernel) rfl rfl (Nat.le_of_ble_eq_true rfl) (dec_at dX0_init 5) (fun H locs hP hD hS => ?_)
  have hP : va_P G vwCl [(h0, .inr (0, [.ref q1, .int 0, .int 0])), (q1, aZ cI 196)] H := hP
  have hD : va_D A [(h0, .inr (0, [.ref q1, .int 0, .int 0])), (q1, aZ cI 196)] := hD
  refine lv_aload_n hx hb (dec_at dX0_init 6) rfl (lv_at hl 0 rfl) ?_
  refine lv_iconst (v := 1) hx hb (dec_at dX0_init 7) (by decide) ?_
  refine va_put (D := G) (ci := 0) (v := .int 1) (ty := .int) (C := RX0) (T := TX0) (N := 3) hx hb hts inX0 tyX0 tyX0_ok nmX0 hown hK hP hD hS 0 rfl rfl 1 (by decide) (hts _ (Gw_t1 109 rfl rfl)) (fun _ h9 => h9) rfl (by decide +kernel) rfl rfl (Nat.le_of_ble_eq_true rfl) (dec_at dX0_init 8) (fun H locs hP hD hS => ?_)
  have hP : va_P G vwCl [(h0, .inr (0, [.ref q1, .int 1, .int 0])), (q1, aZ cI 196)] H := hP
  have hD : va_D A [(h0, .inr (0, [.ref q1, .int 1, .int 0])), (q1, aZ cI 196)] := hD
  refine lv_aload_n hx hb (dec_at dX0_init 9) rfl (lv_at hl 0 rfl) ?_
  refine lv_iconst (v := (-1)) hx hb (dec_at dX0_init 10) (by decide) ?_
  refine va_put (D := G) (ci := 0) (v := .int (-1)) (ty := .int) (C := RX0) (T := TX0) (N := 3) hx hb hts inX0 tyX0 tyX0_ok nmX0 hown hK hP hD hS 0 rfl rfl 2 (by decide) (hts _ (Gw_t1 111 rfl rfl)) (fun _ h9 => h9) rfl (by decide +kernel) rfl rfl (Nat.le_of_ble_eq_true rfl) (dec_at dX0_init 11) (fun H locs hP hD hS => ?_)
  have hP : va_P G vwCl [(h0, .inr (0, [.ref q1, .int 1, .int (-1)])), (q1, aZ cI 196)] H := hP
  have hD : va_D A [(h0, .inr (0, [.ref q1, .int 1, .int (-1)])), (q1, aZ cI 196)] := hD
  have hP9 := hP.sub (ws' := [(h0, .inr (0, [.ref q1, .int 1, .int (-1)])), (q1, aZ cI 196)]) [0, 1] rfl
  have hD9 := hD.sub (ws' := [(h0, .inr (0, [.ref q1, .int 1, .int (-1)])), (q1, aZ cI 196)]) [0, 1] (by decide) rfl
  exact W.vret hx hb hr (fun t ht hW => ⟨⟨(), rfl, trivial, q1, by rw [ht]; exact hP9, hD9⟩, hS.F ht⟩) hS.2.2 (dec_at dX0_init 12)

set_option maxRecDepth 100000 in
set_option maxHeartbeats 8000000 in
theorem k_moves (l : Launch) (G : va_G) (cI : ClassId) (h0 sz : Nat) : Met l yX1_init (.code yX1_init cX1_init 1 none :: Gw) ({ frames := 2, cells := 3, slots := 200, locals := 60 }) (va_Pc [.ref h0] (fun U => U.heap.size = sz ∧ va_P G vwCl [(h0, .inr (1, [.null, .null, .null, .int 0]))] U.heap ∧ va_K G vwCl [(cI, .int)] U ∧ va_D (fun _ => True) [(h0, .inr (1, [.null, .null, .null, .int 0]))])) (va_Qv (fun (_ : Unit) => True) (fun (_ : Unit) t => ∃ (z0 z1 z2 : Nat), va_P G vwCl [(h0, .inr (1, [.ref z0, .ref z1, .ref z2, .int 0])), (z0, aZ cI 40), (z1, aZ cI 40), (z2, aZ cI 120)] t.heap ∧ va_D (va_A [(h0, .inr (1, [.null, .null, .null, .int 0]))] sz) [(h0, .inr (1, [.ref z0, .ref z1, .ref z2, .int 0])), (z0, aZ cI 40), (z1, aZ cI 40), (z2, aZ cI 120)]) (va_A [(h0, .inr (1, [.null, .null, .null, .int 0]))] sz)) 3 200 (va_A [(h0, .inr (1, [.null, .null, .null, .int 0]))] sz) := by
  refine Met.ofW (cc := cX1_init) (maxL := 1) (ret := none) (by decide +kernel) rfl ?_
  intro p e s m args below meth c s₁ B hml hv
  obtain ⟨rfl, hsz, hP, hK, hD0⟩ := hv
  have hx := B.exec
  have hb := B.bytes
  have hr := B.returns
  have hts : ∀ w ∈ Gw, w.before _ s = true := fun w hw => atoms_spec (ws := .code yX1_init cX1_init 1 none :: Gw) B.pre w (List.mem_cons_of_mem _ hw)
  have hown : s.vm.findClass RX1 = some m.cls := findClass_of_methodNamed B.named
  have hlocks := B.notSynchronized
  have hin : meth.name = "<init>" := (name_of_methodNamed B.named B.method).1
  subst hsz
  have hD := hD0.self (sz := s.heap.size)
  generalize hAe : va_A [(h0, .inr (1, [.null, .null, .null, .int 0]))] s.heap.size = A at hD ⊢
  have hA : ∀ q : Nat, s.heap.size ≤ q → A q := fun q h => by rw [← hAe]; exact Or.inr h
  have hS : va_S A s.heap s.heap [] := va_S.rf
  have hP : va_P G vwCl [(h0, .inr (1, [.null, .null, .null, .int 0]))] s.heap := hP
  have hl := lv_entry ([.ref h0]) (n := 1) (Nat.le_of_ble_eq_true rfl)
  rw [lg_entry_eq]
  generalize (lg_sl ([.ref h0]) ++ List.replicate (1 - (lg_sl ([.ref h0])).length) Slot.unset).toArray = ls at hl ⊢
  have hl : lv_has ls 1 [(0, .ref h0)] := hl
  refine lv_aload_n hx hb (dec_at dX1_init 0) rfl (lv_at hl 0 rfl) ?_
  refine W.objInit hx hb hown (hts _ (Gw_t1 125 rfl rfl)) (hts _ (Gw_t1 15 rfl rfl)) (hts _ (Gw_t1 16 rfl rfl)) rfl (by rw [hml]; exact hl.1) rfl (dec_at dX1_init 1) (Nat.le_of_ble_eq_true rfl) (Nat.le_of_ble_eq_true rfl) ?_
  refine W.eq (g2 := F0 m 4 ls []) rfl ?_
  refine lv_aload_n hx hb (dec_at dX1_init 2) rfl (lv_at hl 0 rfl) ?_
  refine lv_bipush (v := 40) hx hb (dec_at dX1_init 3) (by decide) ?_
  refine n_newa (N' := 40) hx hb hts hK rfl hP hD hS hA (by decide) (by decide) (Nat.le_of_ble_eq_true rfl) (Nat.le_of_ble_eq_true rfl) (Nat.le_of_ble_eq_true rfl) (dec_at dX1_init 4) (fun q1 H hP hD hS => ?_)
  have hP : va_P G vwCl [(h0, .inr (1, [.null, .null, .null, .int 0])), (q1, aZ cI 40)] H := hP
  have hD : va_D A [(h0, .inr (1, [.null, .null, .null, .int 0])), (q1, aZ cI 40)] := hD
  refine W.widen (k := 1) (n := 40) (Nat.le_of_ble_eq_true rfl) (Nat.le_of_ble_eq_true rfl) ?_
  refine va_putF (D := G) (ci := 1) (v := .ref q1) (ty := .array .int) (C := RX1) (T := TX1) (N := 4) hx hb hts inX1 tyX1 tyX1_ok nmX1 hown hK hP hD hS 0 rfl rfl 0 (by decide) (hts _ (Gw_t1 126 rfl rfl)) (fun _ h9 => h9) rfl hin rfl (by decide +kernel) rfl rfl (Nat.le_of_ble_eq_true rfl) (dec_at dX1_init 5) (fun H locs hP hD hS => ?_)
  have hP : va_P G vwCl [(h0, .inr (1, [.ref q1, .null, .null, .int 0])), (q1, aZ cI 40)] H := hP
  have hD : va_D A [(h0, .inr (1, [.ref q1, .null, .null, .int 0])), (q1, aZ cI 40)] := hD
  refine lv_aload_n hx hb (dec_at dX1_init 6) rfl (lv_at hl 0 rfl) ?_
  refine lv_bipush (v := 40) hx hb (dec_at dX1_init 7) (by decide) ?_
  refine n_newa (N' := 40) hx hb hts hK rfl hP hD hS hA (by decide) (by decide) (Nat.le_of_ble_eq_true rfl) (Nat.le_of_ble_eq_true rfl) (Nat.le_of_ble_eq_true rfl) (dec_at dX1_init 8) (fun q2 H hP hD hS => ?_)
  have hP : va_P G vwCl [(h0, .inr (1, [.ref q1, .null, .null, .int 0])), (q1, aZ cI 40), (q2, aZ cI 40)] H := hP
  have hD : va_D A [(h0, .inr (1, [.ref q1, .null, .null, .int 0])), (q1, aZ cI 40), (q2, aZ cI 40)] := hD
  refine W.widen (k := 2) (n := 80) (Nat.le_of_ble_eq_true rfl) (Nat.le_of_ble_eq_true rfl) ?_
  refine va_putF (D := G) (ci := 1) (v := .ref q2) (ty := .array .int) (C := RX1) (T := TX1) (N := 4) hx hb hts inX1 tyX1 tyX1_ok nmX1 hown hK hP hD hS 0 rfl rfl 1 (by decide) (hts _ (Gw_t1 127 rfl rfl)) (fun _ h9 => h9) rfl hin rfl (by decide +kernel) rfl rfl (Nat.le_of_ble_eq_true rfl) (dec_at dX1_init 9) (fun H locs hP hD hS => ?_)
  have hP : va_P G vwCl [(h0, .inr (1, [.ref q1, .ref q2, .null, .int 0])), (q1, aZ cI 40), (q2, aZ cI 40)] H := hP
  have hD : va_D A [(h0, .inr (1, [.ref q1, .ref q2, .null, .int 0])), (q1, aZ cI 40), (q2, aZ cI 40)] := hD
  refine lv_aload_n hx hb (dec_at dX1_init 10) rfl (lv_at hl 0 rfl) ?_
  refine lv_bipush (v := 120) hx hb (dec_at dX1_init 11) (by decide) ?_
  refine n_newa (N' := 120) hx hb hts hK rfl hP hD hS hA (by decide) (by decide) (Nat.le_of_ble_eq_true rfl) (Nat.le_of_ble_eq_true rfl) (Nat.le_of_ble_eq_true rfl) (dec_at dX1_init 12) (fun q3 H hP hD hS => ?_)
  have hP : va_P G vwCl [(h0, .inr (1, [.ref q1, .ref q2, .null, .int 0])), (q1, aZ cI 40), (q2, aZ cI 40), (q3, aZ cI 120)] H := hP
  have hD : va_D A [(h0, .inr (1, [.ref q1, .ref q2, .null, .int 0])), (q1, aZ cI 40), (q2, aZ cI 40), (q3, aZ cI 120)] := hD
  refine W.widen (k := 3) (n := 200) (Nat.le_of_ble_eq_true rfl) (Nat.le_of_ble_eq_true rfl) ?_
  refine va_putF (D := G) (ci := 1) (v := .ref q3) (ty := .array .int) (C := RX1) (T := TX1) (N := 4) hx hb hts inX1 tyX1 tyX1_ok nmX1 hown hK hP hD hS 0 rfl rfl 2 (by decide) (hts _ (Gw_t1 128 rfl rfl)) (fun _ h9 => h9) rfl hin rfl (by decide +kernel) rfl rfl (Nat.le_of_ble_eq_true rfl) (dec_at dX1_init 13) (fun H locs hP hD hS => ?_)
  have hP : va_P G vwCl [(h0, .inr (1, [.ref q1, .ref q2, .ref q3, .int 0])), (q1, aZ cI 40), (q2, aZ cI 40), (q3, aZ cI 120)] H := hP
  have hD : va_D A [(h0, .inr (1, [.ref q1, .ref q2, .ref q3, .int 0])), (q1, aZ cI 40), (q2, aZ cI 40), (q3, aZ cI 120)] := hD
  refine lv_aload_n hx hb (dec_at dX1_init 14) rfl (lv_at hl 0 rfl) ?_
  refine lv_iconst (v := 0) hx hb (dec_at dX1_init 15) (by decide) ?_
  refine va_put (D := G) (ci := 1) (v := .int 0) (ty := .int) (C := RX1) (T := TX1) (N := 4) hx hb hts inX1 tyX1 tyX1_ok nmX1 hown hK hP hD hS 0 rfl rfl 3 (by decide) (hts _ (Gw_t1 130 rfl rfl)) (fun _ h9 => h9) rfl (by decide +kernel) rfl rfl (Nat.le_of_ble_eq_true rfl) (dec_at dX1_init 16) (fun H locs hP hD hS => ?_)
  have hP : va_P G vwCl [(h0, .inr (1, [.ref q1, .ref q2, .ref q3, .int 0])), (q1, aZ cI 40), (q2, aZ cI 40), (q3, aZ cI 120)] H := hP
  have hD : va_D A [(h0, .inr (1, [.ref q1, .ref q2, .ref q3, .int 0])), (q1, aZ cI 40), (q2, aZ cI 40), (q3, aZ cI 120)] := hD
  have hP9 := hP.sub (ws' := [(h0, .inr (1, [.ref q1, .ref q2, .ref q3, .int 0])), (q1, aZ cI 40), (q2, aZ cI 40), (q3, aZ cI 120)]) [0, 1, 2, 3] rfl
  have hD9 := hD.sub (ws' := [(h0, .inr (1, [.ref q1, .ref q2, .ref q3, .int 0])), (q1, aZ cI 40), (q2, aZ cI 40), (q3, aZ cI 120)]) [0, 1, 2, 3] (by decide) rfl
  exact W.vret hx hb hr (fun t ht hW => ⟨⟨(), rfl, trivial, q1, q2, q3, by rw [ht]; exact hP9, hD9⟩, hS.F ht⟩) hS.2.2 (dec_at dX1_init 17)

set_option maxRecDepth 100000 in
set_option maxHeartbeats 8000000 in
theorem k_net0 (l : Launch) (G : va_G) (cI : ClassId) (h0 sz : Nat) : Met l yX2_init (.code yX2_init cX2_init 4 none :: Gw) ({ frames := 2, cells := 9, slots := 463, locals := 60 }) (va_Pc [.ref h0, .int 14, .int 14, .int 42] (fun U => U.heap.size = sz ∧ va_P G vwCl [(h0, .inr (2, [.int 0, .int 0, .int 0, .null, .null, .null, .null, .null, .null, .null, .null, .null]))] U.heap ∧ va_K G vwCl [(cI, .int)] U ∧ va_D (fun _ => True) [(h0, .inr (2, [.int 0, .int 0, .int 0, .null, .null, .null, .null, .null, .null, .null, .null, .null]))])) (va_Qv (fun (_ : Unit) => True) (fun (_ : Unit) t => ∃ (z0 z1 z2 z3 z4 z5 z6 z7 z8 : Nat), va_P G vwCl [(h0, .inr (2, [.int 0, .int 0, .int 0, .ref z0, .ref z1, .ref z2, .ref z3, .ref z4, .ref z5, .ref z6, .ref z7, .ref z8])), (z0, aZ cI 42), (z1, aZ cI 15), (z2, aZ cI 84), (z3, aZ cI 84), (z4, aZ cI 84), (z5, aZ cI 84), (z6, aZ cI 42), (z7, aZ cI 14), (z8, aZ cI 14)] t.heap ∧ va_D (va_A [(h0, .inr (2, [.int 0, .int 0, .int 0, .null, .null, .null, .null, .null, .null, .null, .null, .null]))] sz) [(h0, .inr (2, [.int 0, .int 0, .int 0, .ref z0, .ref z1, .ref z2, .ref z3, .ref z4, .ref z5, .ref z6, .ref z7, .ref z8])), (z0, aZ cI 42), (z1, aZ cI 15), (z2, aZ cI 84), (z3, aZ cI 84), (z4, aZ cI 84), (z5, aZ cI 84), (z6, aZ cI 42), (z7, aZ cI 14), (z8, aZ cI 14)]) (va_A [(h0, .inr (2, [.int 0, .int 0, .int 0, .null, .null, .null, .null, .null, .null, .null, .null, .null]))] sz)) 9 463 (va_A [(h0, .inr (2, [.int 0, .int 0, .int 0, .null, .null, .null, .null, .null, .null, .null, .null, .null]))] sz) := by
  refine Met.ofW (cc := cX2_init) (maxL := 4) (ret := none) (by decide +kernel) rfl ?_
  intro p e s m args below meth c s₁ B hml hv
  obtain ⟨rfl, hsz, hP, hK, hD0⟩ := hv
  have hx := B.exec
  have hb := B.bytes
  have hr := B.returns
  have hts : ∀ w ∈ Gw, w.before _ s = true := fun w hw => atoms_spec (ws := .code yX2_init cX2_init 4 none :: Gw) B.pre w (List.mem_cons_of_mem _ hw)
  have hown : s.vm.findClass RX2 = some m.cls := findClass_of_methodNamed B.named
  have hlocks := B.notSynchronized
  have hin : meth.name = "<init>" := (name_of_methodNamed B.named B.method).1
  subst hsz
  have hD := hD0.self (sz := s.heap.size)
  generalize hAe : va_A [(h0, .inr (2, [.int 0, .int 0, .int 0, .null, .null, .null, .null, .null, .null, .null, .null, .null]))] s.heap.size = A at hD ⊢
  have hA : ∀ q : Nat, s.heap.size ≤ q → A q := fun q h => by rw [← hAe]; exact Or.inr h
  have hS : va_S A s.heap s.heap [] := va_S.rf
  have hP : va_P G vwCl [(h0, .inr (2, [.int 0, .int 0, .int 0, .null, .null, .null, .null, .null, .null, .null, .null, .null]))] s.heap := hP
  have hl := lv_entry ([.ref h0, .int 14, .int 14, .int 42]) (n := 4) (Nat.le_of_ble_eq_true rfl)
  rw [lg_entry_eq]
  generalize (lg_sl ([.ref h0, .int 14, .int 14, .int 42]) ++ List.replicate (4 - (lg_sl ([.ref h0, .int 14, .int 14, .int 42])).length) Slot.unset).toArray = ls at hl ⊢
  have hl : lv_has ls 4 [(0, .ref h0), (1, .int 14), (2, .int 14), (3, .int 42)] := hl
  refine lv_aload_n hx hb (dec_at dX2_init 0) rfl (lv_at hl 0 rfl) ?_
  refine W.objInit hx hb hown (hts _ (Gw_t1 49 rfl rfl)) (hts _ (Gw_t1 15 rfl rfl)) (hts _ (Gw_t1 16 rfl rfl)) rfl (by rw [hml]; exact hl.1) rfl (dec_at dX2_init 1) (Nat.le_of_ble_eq_true rfl) (Nat.le_of_ble_eq_true rfl) ?_
  refine W.eq (g2 := F0 m 4 ls []) rfl ?_
  refine lv_aload_n hx hb (dec_at dX2_init 2) rfl (lv_at hl 0 rfl) ?_
  refine lv_iconst (v := 3) hx hb (dec_at dX2_init 3) (by decide) ?_
  refine lv_iload_n hx hb (dec_at dX2_init 4) rfl (lv_at hl 1 rfl) ?_
  refine lv_imul hx hb (dec_at dX2_init 5) ?_
  refine lv_topi (fun y1 ey1 => ?_)
  obtain rfl : y1 = 42 := ey1.trans (by decide)
  refine n_newa (N' := 42) hx hb hts hK rfl hP hD hS hA (by decide) (by decide) (Nat.le_of_ble_eq_true rfl) (Nat.le_of_ble_eq_true rfl) (Nat.le_of_ble_eq_true rfl) (dec_at dX2_init 6) (fun q2 H hP hD hS => ?_)
  have hP : va_P G vwCl [(h0, .inr (2, [.int 0, .int 0, .int 0, .null, .null, .null, .null, .null, .null, .null, .null, .null])), (q2, aZ cI 42)] H := hP
  have hD : va_D A [(h0, .inr (2, [.int 0, .int 0, .int 0, .null, .null, .null, .null, .null, .null, .null, .null, .null])), (q2, aZ cI 42)] := hD
  refine W.widen (k := 1) (n := 42) (Nat.le_of_ble_eq_true rfl) (Nat.le_of_ble_eq_true rfl) ?_
  refine va_putF (D := G) (ci := 2) (v := .ref q2) (ty := .array .int) (C := RX2) (T := TX2) (N := 12) hx hb hts inX2 tyX2 tyX2_ok nmX2 hown hK hP hD hS 0 rfl rfl 3 (by decide) (hts _ (Gw_t1 58 rfl rfl)) (fun _ h9 => h9) rfl hin rfl (by decide +kernel) rfl rfl (Nat.le_of_ble_eq_true rfl) (dec_at dX2_init 7) (fun H locs hP hD hS => ?_)
  have hP : va_P G vwCl [(h0, .inr (2, [.int 0, .int 0, .int 0, .ref q2, .null, .null, .null, .null, .null, .null, .null, .null])), (q2, aZ cI 42)] H := hP
  have hD : va_D A [(h0, .inr (2, [.int 0, .int 0, .int 0, .ref q2, .null, .null, .null, .null, .null, .null, .null, .null])), (q2, aZ cI 42)] := hD
  refine lv_aload_n hx hb (dec_at dX2_init 8) rfl (lv_at hl 0 rfl) ?_
  refine lv_iload_n hx hb (dec_at dX2_init 9) rfl (lv_at hl 2 rfl) ?_
  refine lv_iconst (v := 1) hx hb (dec_at dX2_init 10) (by decide) ?_
  refine lv_iadd hx hb (dec_at dX2_init 11) ?_
  refine lv_topi (fun y3 ey3 => ?_)
  obtain rfl : y3 = 15 := ey3.trans (by decide)
  refine n_newa (N' := 15) hx hb hts hK rfl hP hD hS hA (by decide) (by decide) (Nat.le_of_ble_eq_true rfl) (Nat.le_of_ble_eq_true rfl) (Nat.le_of_ble_eq_true rfl) (dec_at dX2_init 12) (fun q4 H hP hD hS => ?_)
  have hP : va_P G vwCl [(h0, .inr (2, [.int 0, .int 0, .int 0, .ref q2, .null, .null, .null, .null, .null, .null, .null, .null])), (q2, aZ cI 42), (q4, aZ cI 15)] H := hP
  have hD : va_D A [(h0, .inr (2, [.int 0, .int 0, .int 0, .ref q2, .null, .null, .null, .null, .null, .null, .null, .null])), (q2, aZ cI 42), (q4, aZ cI 15)] := hD
  refine W.widen (k := 2) (n := 57) (Nat.le_of_ble_eq_true rfl) (Nat.le_of_ble_eq_true rfl) ?_
  refine va_putF (D := G) (ci := 2) (v := .ref q4) (ty := .array .int) (C := RX2) (T := TX2) (N := 12) hx hb hts inX2 tyX2 tyX2_ok nmX2 hown hK hP hD hS 0 rfl rfl 4 (by decide) (hts _ (Gw_t1 61 rfl rfl)) (fun _ h9 => h9) rfl hin rfl (by decide +kernel) rfl rfl (Nat.le_of_ble_eq_true rfl) (dec_at dX2_init 13) (fun H locs hP hD hS => ?_)
  have hP : va_P G vwCl [(h0, .inr (2, [.int 0, .int 0, .int 0, .ref q2, .ref q4, .null, .null, .null, .null, .null, .null, .null])), (q2, aZ cI 42), (q4, aZ cI 15)] H := hP
  have hD : va_D A [(h0, .inr (2, [.int 0, .int 0, .int 0, .ref q2, .ref q4, .null, .null, .null, .null, .null, .null, .null])), (q2, aZ cI 42), (q4, aZ cI 15)] := hD
  refine lv_aload_n hx hb (dec_at dX2_init 14) rfl (lv_at hl 0 rfl) ?_
  refine lv_iconst (v := 2) hx hb (dec_at dX2_init 15) (by decide) ?_
  refine lv_iload_n hx hb (dec_at dX2_init 16) rfl (lv_at hl 3 rfl) ?_
  refine lv_imul hx hb (dec_at dX2_init 17) ?_
  refine lv_topi (fun y5 ey5 => ?_)
  obtain rfl : y5 = 84 := ey5.trans (by decide)
  refine n_newa (N' := 84) hx hb hts hK rfl hP hD hS hA (by decide) (by decide) (Nat.le_of_ble_eq_true rfl) (Nat.le_of_ble_eq_true rfl) (Nat.le_of_ble_eq_true rfl) (dec_at dX2_init 18) (fun q6 H hP hD hS => ?_)
  have hP : va_P G vwCl [(h0, .inr (2, [.int 0, .int 0, .int 0, .ref q2, .ref q4, .null, .null, .null, .null, .null, .null, .null])), (q2, aZ cI 42), (q4, aZ cI 15), (q6, aZ cI 84)] H := hP
  have hD : va_D A [(h0, .inr (2, [.int 0, .int 0, .int 0, .ref q2, .ref q4, .null, .null, .null, .null, .null, .null, .null])), (q2, aZ cI 42), (q4, aZ cI 15), (q6, aZ cI 84)] := hD
  refine W.widen (k := 3) (n := 141) (Nat.le_of_ble_eq_true rfl) (Nat.le_of_ble_eq_true rfl) ?_
  refine va_putF (D := G) (ci := 2) (v := .ref q6) (ty := .array .int) (C := RX2) (T := TX2) (N := 12) hx hb hts inX2 tyX2 tyX2_ok nmX2 hown hK hP hD hS 0 rfl rfl 5 (by decide) (hts _ (Gw_t1 64 rfl rfl)) (fun _ h9 => h9) rfl hin rfl (by decide +kernel) rfl rfl (Nat.le_of_ble_eq_true rfl) (dec_at dX2_init 19) (fun H locs hP hD hS => ?_)
  have hP : va_P G vwCl [(h0, .inr (2, [.int 0, .int 0, .int 0, .ref q2, .ref q4, .ref q6, .null, .null, .null, .null, .null, .null])), (q2, aZ cI 42), (q4, aZ cI 15), (q6, aZ cI 84)] H := hP
  have hD : va_D A [(h0, .inr (2, [.int 0, .int 0, .int 0, .ref q2, .ref q4, .ref q6, .null, .null, .null, .null, .null, .null])), (q2, aZ cI 42), (q4, aZ cI 15), (q6, aZ cI 84)] := hD
  refine lv_aload_n hx hb (dec_at dX2_init 20) rfl (lv_at hl 0 rfl) ?_
  refine lv_iconst (v := 2) hx hb (dec_at dX2_init 21) (by decide) ?_
  refine lv_iload_n hx hb (dec_at dX2_init 22) rfl (lv_at hl 3 rfl) ?_
  refine lv_imul hx hb (dec_at dX2_init 23) ?_
  refine lv_topi (fun y7 ey7 => ?_)
  obtain rfl : y7 = 84 := ey7.trans (by decide)
  refine n_newa (N' := 84) hx hb hts hK rfl hP hD hS hA (by decide) (by decide) (Nat.le_of_ble_eq_true rfl) (Nat.le_of_ble_eq_true rfl) (Nat.le_of_ble_eq_true rfl) (dec_at dX2_init 24) (fun q8 H hP hD hS => ?_)
  have hP : va_P G vwCl [(h0, .inr (2, [.int 0, .int 0, .int 0, .ref q2, .ref q4, .ref q6, .null, .null, .null, .null, .null, .null])), (q2, aZ cI 42), (q4, aZ cI 15), (q6, aZ cI 84), (q8, aZ cI 84)] H := hP
  have hD : va_D A [(h0, .inr (2, [.int 0, .int 0, .int 0, .ref q2, .ref q4, .ref q6, .null, .null, .null, .null, .null, .null])), (q2, aZ cI 42), (q4, aZ cI 15), (q6, aZ cI 84), (q8, aZ cI 84)] := hD
  refine W.widen (k := 4) (n := 225) (Nat.le_of_ble_eq_true rfl) (Nat.le_of_ble_eq_true rfl) ?_
  refine va_putF (D := G) (ci := 2) (v := .ref q8) (ty := .array .int) (C := RX2) (T := TX2) (N := 12) hx hb hts inX2 tyX2 tyX2_ok nmX2 hown hK hP hD hS 0 rfl rfl 6 (by decide) (hts _ (Gw_t1 67 rfl rfl)) (fun _ h9 => h9) rfl hin rfl (by decide +kernel) rfl rfl (Nat.le_of_ble_eq_true rfl) (dec_at dX2_init 25) (fun H locs hP hD hS => ?_)
  have hP : va_P G vwCl [(h0, .inr (2, [.int 0, .int 0, .int 0, .ref q2, .ref q4, .ref q6, .ref q8, .null, .null, .null, .null, .null])), (q2, aZ cI 42), (q4, aZ cI 15), (q6, aZ cI 84), (q8, aZ cI 84)] H := hP
  have hD : va_D A [(h0, .inr (2, [.int 0, .int 0, .int 0, .ref q2, .ref q4, .ref q6, .ref q8, .null, .null, .null, .null, .null])), (q2, aZ cI 42), (q4, aZ cI 15), (q6, aZ cI 84), (q8, aZ cI 84)] := hD
  refine lv_aload_n hx hb (dec_at dX2_init 26) rfl (lv_at hl 0 rfl) ?_
  refine lv_iconst (v := 2) hx hb (dec_at dX2_init 27) (by decide) ?_
  refine lv_iload_n hx hb (dec_at dX2_init 28) rfl (lv_at hl 3 rfl) ?_
  refine lv_imul hx hb (dec_at dX2_init 29) ?_
  refine lv_topi (fun y9 ey9 => ?_)
  obtain rfl : y9 = 84 := ey9.trans (by decide)
  refine n_newa (N' := 84) hx hb hts hK rfl hP hD hS hA (by decide) (by decide) (Nat.le_of_ble_eq_true rfl) (Nat.le_of_ble_eq_true rfl) (Nat.le_of_ble_eq_true rfl) (dec_at dX2_init 30) (fun q10 H hP hD hS => ?_)
  have hP : va_P G vwCl [(h0, .inr (2, [.int 0, .int 0, .int 0, .ref q2, .ref q4, .ref q6, .ref q8, .null, .null, .null, .null, .null])), (q2, aZ cI 42), (q4, aZ cI 15), (q6, aZ cI 84), (q8, aZ cI 84), (q10, aZ cI 84)] H := hP
  have hD : va_D A [(h0, .inr (2, [.int 0, .int 0, .int 0, .ref q2, .ref q4, .ref q6, .ref q8, .null, .null, .null, .null, .null])), (q2, aZ cI 42), (q4, aZ cI 15), (q6, aZ cI 84), (q8, aZ cI 84), (q10, aZ cI 84)] := hD
  refine W.widen (k := 5) (n := 309) (Nat.le_of_ble_eq_true rfl) (Nat.le_of_ble_eq_true rfl) ?_
  refine va_putF (D := G) (ci := 2) (v := .ref q10) (ty := .array .int) (C := RX2) (T := TX2) (N := 12) hx hb hts inX2 tyX2 tyX2_ok nmX2 hown hK hP hD hS 0 rfl rfl 7 (by decide) (hts _ (Gw_t1 69 rfl rfl)) (fun _ h9 => h9) rfl hin rfl (by decide +kernel) rfl rfl (Nat.le_of_ble_eq_true rfl) (dec_at dX2_init 31) (fun H locs hP hD hS => ?_)
  have hP : va_P G vwCl [(h0, .inr (2, [.int 0, .int 0, .int 0, .ref q2, .ref q4, .ref q6, .ref q8, .ref q10, .null, .null, .null, .null])), (q2, aZ cI 42), (q4, aZ cI 15), (q6, aZ cI 84), (q8, aZ cI 84), (q10, aZ cI 84)] H := hP
  have hD : va_D A [(h0, .inr (2, [.int 0, .int 0, .int 0, .ref q2, .ref q4, .ref q6, .ref q8, .ref q10, .null, .null, .null, .null])), (q2, aZ cI 42), (q4, aZ cI 15), (q6, aZ cI 84), (q8, aZ cI 84), (q10, aZ cI 84)] := hD
  refine lv_aload_n hx hb (dec_at dX2_init 32) rfl (lv_at hl 0 rfl) ?_
  refine lv_iconst (v := 2) hx hb (dec_at dX2_init 33) (by decide) ?_
  refine lv_iload_n hx hb (dec_at dX2_init 34) rfl (lv_at hl 3 rfl) ?_
  refine lv_imul hx hb (dec_at dX2_init 35) ?_
  refine lv_topi (fun y11 ey11 => ?_)
  obtain rfl : y11 = 84 := ey11.trans (by decide)
  refine n_newa (N' := 84) hx hb hts hK rfl hP hD hS hA (by decide) (by decide) (Nat.le_of_ble_eq_true rfl) (Nat.le_of_ble_eq_true rfl) (Nat.le_of_ble_eq_true rfl) (dec_at dX2_init 36) (fun q12 H hP hD hS => ?_)
  have hP : va_P G vwCl [(h0, .inr (2, [.int 0, .int 0, .int 0, .ref q2, .ref q4, .ref q6, .ref q8, .ref q10, .null, .null, .null, .null])), (q2, aZ cI 42), (q4, aZ cI 15), (q6, aZ cI 84), (q8, aZ cI 84), (q10, aZ cI 84), (q12, aZ cI 84)] H := hP
  have hD : va_D A [(h0, .inr (2, [.int 0, .int 0, .int 0, .ref q2, .ref q4, .ref q6, .ref q8, .ref q10, .null, .null, .null, .null])), (q2, aZ cI 42), (q4, aZ cI 15), (q6, aZ cI 84), (q8, aZ cI 84), (q10, aZ cI 84), (q12, aZ cI 84)] := hD
  refine W.widen (k := 6) (n := 393) (Nat.le_of_ble_eq_true rfl) (Nat.le_of_ble_eq_true rfl) ?_
  refine va_putF (D := G) (ci := 2) (v := .ref q12) (ty := .array .int) (C := RX2) (T := TX2) (N := 12) hx hb hts inX2 tyX2 tyX2_ok nmX2 hown hK hP hD hS 0 rfl rfl 8 (by decide) (hts _ (Gw_t1 71 rfl rfl)) (fun _ h9 => h9) rfl hin rfl (by decide +kernel) rfl rfl (Nat.le_of_ble_eq_true rfl) (dec_at dX2_init 37) (fun H locs hP hD hS => ?_)
  have hP : va_P G vwCl [(h0, .inr (2, [.int 0, .int 0, .int 0, .ref q2, .ref q4, .ref q6, .ref q8, .ref q10, .ref q12, .null, .null, .null])), (q2, aZ cI 42), (q4, aZ cI 15), (q6, aZ cI 84), (q8, aZ cI 84), (q10, aZ cI 84), (q12, aZ cI 84)] H := hP
  have hD : va_D A [(h0, .inr (2, [.int 0, .int 0, .int 0, .ref q2, .ref q4, .ref q6, .ref q8, .ref q10, .ref q12, .null, .null, .null])), (q2, aZ cI 42), (q4, aZ cI 15), (q6, aZ cI 84), (q8, aZ cI 84), (q10, aZ cI 84), (q12, aZ cI 84)] := hD
  refine lv_aload_n hx hb (dec_at dX2_init 38) rfl (lv_at hl 0 rfl) ?_
  refine lv_iload_n hx hb (dec_at dX2_init 39) rfl (lv_at hl 3 rfl) ?_
  refine n_newa (N' := 42) hx hb hts hK rfl hP hD hS hA (by decide) (by decide) (Nat.le_of_ble_eq_true rfl) (Nat.le_of_ble_eq_true rfl) (Nat.le_of_ble_eq_true rfl) (dec_at dX2_init 40) (fun q13 H hP hD hS => ?_)
  have hP : va_P G vwCl [(h0, .inr (2, [.int 0, .int 0, .int 0, .ref q2, .ref q4, .ref q6, .ref q8, .ref q10, .ref q12, .null, .null, .null])), (q2, aZ cI 42), (q4, aZ cI 15), (q6, aZ cI 84), (q8, aZ cI 84), (q10, aZ cI 84), (q12, aZ cI 84), (q13, aZ cI 42)] H := hP
  have hD : va_D A [(h0, .inr (2, [.int 0, .int 0, .int 0, .ref q2, .ref q4, .ref q6, .ref q8, .ref q10, .ref q12, .null, .null, .null])), (q2, aZ cI 42), (q4, aZ cI 15), (q6, aZ cI 84), (q8, aZ cI 84), (q10, aZ cI 84), (q12, aZ cI 84), (q13, aZ cI 42)] := hD
  refine W.widen (k := 7) (n := 435) (Nat.le_of_ble_eq_true rfl) (Nat.le_of_ble_eq_true rfl) ?_
  refine va_putF (D := G) (ci := 2) (v := .ref q13) (ty := .array .int) (C := RX2) (T := TX2) (N := 12) hx hb hts inX2 tyX2 tyX2_ok nmX2 hown hK hP hD hS 0 rfl rfl 9 (by decide) (hts _ (Gw_t1 72 rfl rfl)) (fun _ h9 => h9) rfl hin rfl (by decide +kernel) rfl rfl (Nat.le_of_ble_eq_true rfl) (dec_at dX2_init 41) (fun H locs hP hD hS => ?_)
  have hP : va_P G vwCl [(h0, .inr (2, [.int 0, .int 0, .int 0, .ref q2, .ref q4, .ref q6, .ref q8, .ref q10, .ref q12, .ref q13, .null, .null])), (q2, aZ cI 42), (q4, aZ cI 15), (q6, aZ cI 84), (q8, aZ cI 84), (q10, aZ cI 84), (q12, aZ cI 84), (q13, aZ cI 42)] H := hP
  have hD : va_D A [(h0, .inr (2, [.int 0, .int 0, .int 0, .ref q2, .ref q4, .ref q6, .ref q8, .ref q10, .ref q12, .ref q13, .null, .null])), (q2, aZ cI 42), (q4, aZ cI 15), (q6, aZ cI 84), (q8, aZ cI 84), (q10, aZ cI 84), (q12, aZ cI 84), (q13, aZ cI 42)] := hD
  refine lv_aload_n hx hb (dec_at dX2_init 42) rfl (lv_at hl 0 rfl) ?_
  refine lv_iload_n hx hb (dec_at dX2_init 43) rfl (lv_at hl 1 rfl) ?_
  refine n_newa (N' := 14) hx hb hts hK rfl hP hD hS hA (by decide) (by decide) (Nat.le_of_ble_eq_true rfl) (Nat.le_of_ble_eq_true rfl) (Nat.le_of_ble_eq_true rfl) (dec_at dX2_init 44) (fun q14 H hP hD hS => ?_)
  have hP : va_P G vwCl [(h0, .inr (2, [.int 0, .int 0, .int 0, .ref q2, .ref q4, .ref q6, .ref q8, .ref q10, .ref q12, .ref q13, .null, .null])), (q2, aZ cI 42), (q4, aZ cI 15), (q6, aZ cI 84), (q8, aZ cI 84), (q10, aZ cI 84), (q12, aZ cI 84), (q13, aZ cI 42), (q14, aZ cI 14)] H := hP
  have hD : va_D A [(h0, .inr (2, [.int 0, .int 0, .int 0, .ref q2, .ref q4, .ref q6, .ref q8, .ref q10, .ref q12, .ref q13, .null, .null])), (q2, aZ cI 42), (q4, aZ cI 15), (q6, aZ cI 84), (q8, aZ cI 84), (q10, aZ cI 84), (q12, aZ cI 84), (q13, aZ cI 42), (q14, aZ cI 14)] := hD
  refine W.widen (k := 8) (n := 449) (Nat.le_of_ble_eq_true rfl) (Nat.le_of_ble_eq_true rfl) ?_
  refine va_putF (D := G) (ci := 2) (v := .ref q14) (ty := .array .int) (C := RX2) (T := TX2) (N := 12) hx hb hts inX2 tyX2 tyX2_ok nmX2 hown hK hP hD hS 0 rfl rfl 10 (by decide) (hts _ (Gw_t1 73 rfl rfl)) (fun _ h9 => h9) rfl hin rfl (by decide +kernel) rfl rfl (Nat.le_of_ble_eq_true rfl) (dec_at dX2_init 45) (fun H locs hP hD hS => ?_)
  have hP : va_P G vwCl [(h0, .inr (2, [.int 0, .int 0, .int 0, .ref q2, .ref q4, .ref q6, .ref q8, .ref q10, .ref q12, .ref q13, .ref q14, .null])), (q2, aZ cI 42), (q4, aZ cI 15), (q6, aZ cI 84), (q8, aZ cI 84), (q10, aZ cI 84), (q12, aZ cI 84), (q13, aZ cI 42), (q14, aZ cI 14)] H := hP
  have hD : va_D A [(h0, .inr (2, [.int 0, .int 0, .int 0, .ref q2, .ref q4, .ref q6, .ref q8, .ref q10, .ref q12, .ref q13, .ref q14, .null])), (q2, aZ cI 42), (q4, aZ cI 15), (q6, aZ cI 84), (q8, aZ cI 84), (q10, aZ cI 84), (q12, aZ cI 84), (q13, aZ cI 42), (q14, aZ cI 14)] := hD
  refine lv_aload_n hx hb (dec_at dX2_init 46) rfl (lv_at hl 0 rfl) ?_
  refine lv_iload_n hx hb (dec_at dX2_init 47) rfl (lv_at hl 1 rfl) ?_
  refine n_newa (N' := 14) hx hb hts hK rfl hP hD hS hA (by decide) (by decide) (Nat.le_of_ble_eq_true rfl) (Nat.le_of_ble_eq_true rfl) (Nat.le_of_ble_eq_true rfl) (dec_at dX2_init 48) (fun q15 H hP hD hS => ?_)
  have hP : va_P G vwCl [(h0, .inr (2, [.int 0, .int 0, .int 0, .ref q2, .ref q4, .ref q6, .ref q8, .ref q10, .ref q12, .ref q13, .ref q14, .null])), (q2, aZ cI 42), (q4, aZ cI 15), (q6, aZ cI 84), (q8, aZ cI 84), (q10, aZ cI 84), (q12, aZ cI 84), (q13, aZ cI 42), (q14, aZ cI 14), (q15, aZ cI 14)] H := hP
  have hD : va_D A [(h0, .inr (2, [.int 0, .int 0, .int 0, .ref q2, .ref q4, .ref q6, .ref q8, .ref q10, .ref q12, .ref q13, .ref q14, .null])), (q2, aZ cI 42), (q4, aZ cI 15), (q6, aZ cI 84), (q8, aZ cI 84), (q10, aZ cI 84), (q12, aZ cI 84), (q13, aZ cI 42), (q14, aZ cI 14), (q15, aZ cI 14)] := hD
  refine W.widen (k := 9) (n := 463) (Nat.le_of_ble_eq_true rfl) (Nat.le_of_ble_eq_true rfl) ?_
  refine va_putF (D := G) (ci := 2) (v := .ref q15) (ty := .array .int) (C := RX2) (T := TX2) (N := 12) hx hb hts inX2 tyX2 tyX2_ok nmX2 hown hK hP hD hS 0 rfl rfl 11 (by decide) (hts _ (Gw_t1 75 rfl rfl)) (fun _ h9 => h9) rfl hin rfl (by decide +kernel) rfl rfl (Nat.le_of_ble_eq_true rfl) (dec_at dX2_init 49) (fun H locs hP hD hS => ?_)
  have hP : va_P G vwCl [(h0, .inr (2, [.int 0, .int 0, .int 0, .ref q2, .ref q4, .ref q6, .ref q8, .ref q10, .ref q12, .ref q13, .ref q14, .ref q15])), (q2, aZ cI 42), (q4, aZ cI 15), (q6, aZ cI 84), (q8, aZ cI 84), (q10, aZ cI 84), (q12, aZ cI 84), (q13, aZ cI 42), (q14, aZ cI 14), (q15, aZ cI 14)] H := hP
  have hD : va_D A [(h0, .inr (2, [.int 0, .int 0, .int 0, .ref q2, .ref q4, .ref q6, .ref q8, .ref q10, .ref q12, .ref q13, .ref q14, .ref q15])), (q2, aZ cI 42), (q4, aZ cI 15), (q6, aZ cI 84), (q8, aZ cI 84), (q10, aZ cI 84), (q12, aZ cI 84), (q13, aZ cI 42), (q14, aZ cI 14), (q15, aZ cI 14)] := hD
  have hP9 := hP.sub (ws' := [(h0, .inr (2, [.int 0, .int 0, .int 0, .ref q2, .ref q4, .ref q6, .ref q8, .ref q10, .ref q12, .ref q13, .ref q14, .ref q15])), (q2, aZ cI 42), (q4, aZ cI 15), (q6, aZ cI 84), (q8, aZ cI 84), (q10, aZ cI 84), (q12, aZ cI 84), (q13, aZ cI 42), (q14, aZ cI 14), (q15, aZ cI 14)]) [0, 1, 2, 3, 4, 5, 6, 7, 8, 9] rfl
  have hD9 := hD.sub (ws' := [(h0, .inr (2, [.int 0, .int 0, .int 0, .ref q2, .ref q4, .ref q6, .ref q8, .ref q10, .ref q12, .ref q13, .ref q14, .ref q15])), (q2, aZ cI 42), (q4, aZ cI 15), (q6, aZ cI 84), (q8, aZ cI 84), (q10, aZ cI 84), (q12, aZ cI 84), (q13, aZ cI 42), (q14, aZ cI 14), (q15, aZ cI 14)]) [0, 1, 2, 3, 4, 5, 6, 7, 8, 9] (by decide) rfl
  exact W.vret hx hb hr (fun t ht hW => ⟨⟨(), rfl, trivial, q2, q4, q6, q8, q10, q12, q13, q14, q15, by rw [ht]; exact hP9, hD9⟩, hS.F ht⟩) hS.2.2 (dec_at dX2_init 50)

set_option maxRecDepth 100000 in
set_option maxHeartbeats 8000000 in
theorem k_net1 (l : Launch) (G : va_G) (cI : ClassId) (h0 sz : Nat) : Met l yX2_init (.code yX2_init cX2_init 4 none :: Gw) ({ frames := 2, cells := 9, slots := 995, locals := 60 }) (va_Pc [.ref h0, .int 42, .int 28, .int 84] (fun U => U.heap.size = sz ∧ va_P G vwCl [(h0, .inr (2, [.int 0, .int 0, .int 0, .null, .null, .null, .null, .null, .null, .null, .null, .null]))] U.heap ∧ va_K G vwCl [(cI, .int)] U ∧ va_D (fun _ => True) [(h0, .inr (2, [.int 0, .int 0, .int 0, .null, .null, .null, .null, .null, .null, .null, .null, .null]))])) (va_Qv (fun (_ : Unit) => True) (fun (_ : Unit) t => ∃ (z0 z1 z2 z3 z4 z5 z6 z7 z8 : Nat), va_P G vwCl [(h0, .inr (2, [.int 0, .int 0, .int 0, .ref z0, .ref z1, .ref z2, .ref z3, .ref z4, .ref z5, .ref z6, .ref z7, .ref z8])), (z0, aZ cI 126), (z1, aZ cI 29), (z2, aZ cI 168), (z3, aZ cI 168), (z4, aZ cI 168), (z5, aZ cI 168), (z6, aZ cI 84), (z7, aZ cI 42), (z8, aZ cI 42)] t.heap ∧ va_D (va_A [(h0, .inr (2, [.int 0, .int 0, .int 0, .null, .null, .null, .null, .null, .null, .null, .null, .null]))] sz) [(h0, .inr (2, [.int 0, .int 0, .int 0, .ref z0, .ref z1, .ref z2, .ref z3, .ref z4, .ref z5, .ref z6, .ref z7, .ref z8])), (z0, aZ cI 126), (z1, aZ cI 29), (z2, aZ cI 168), (z3, aZ cI 168), (z4, aZ cI 168), (z5, aZ cI 168), (z6, aZ cI 84), (z7, aZ cI 42), (z8, aZ cI 42)]) (va_A [(h0, .inr (2, [.int 0, .int 0, .int 0, .null, .null, .null, .null, .null, .null, .null, .null, .null]))] sz)) 9 995 (va_A [(h0, .inr (2, [.int 0, .int 0, .int 0, .null, .null, .null, .null, .null, .null, .null, .null, .null]))] sz) := by
  refine Met.ofW (cc := cX2_init) (maxL := 4) (ret := none) (by decide +kernel) rfl ?_
  intro p e s m args below meth c s₁ B hml hv
  obtain ⟨rfl, hsz, hP, hK, hD0⟩ := hv
  have hx := B.exec
  have hb := B.bytes
  have hr := B.returns
  have hts : ∀ w ∈ Gw, w.before _ s = true := fun w hw => atoms_spec (ws := .code yX2_init cX2_init 4 none :: Gw) B.pre w (List.mem_cons_of_mem _ hw)
  have hown : s.vm.findClass RX2 = some m.cls := findClass_of_methodNamed B.named
  have hlocks := B.notSynchronized
  have hin : meth.name = "<init>" := (name_of_methodNamed B.named B.method).1
  subst hsz
  have hD := hD0.self (sz := s.heap.size)
  generalize hAe : va_A [(h0, .inr (2, [.int 0, .int 0, .int 0, .null, .null, .null, .null, .null, .null, .null, .null, .null]))] s.heap.size = A at hD ⊢
  have hA : ∀ q : Nat, s.heap.size ≤ q → A q := fun q h => by rw [← hAe]; exact Or.inr h
  have hS : va_S A s.heap s.heap [] := va_S.rf
  have hP : va_P G vwCl [(h0, .inr (2, [.int 0, .int 0, .int 0, .null, .null, .null, .null, .null, .null, .null, .null, .null]))] s.heap := hP
  have hl := lv_entry ([.ref h0, .int 42, .int 28, .int 84]) (n := 4) (Nat.le_of_ble_eq_true rfl)
  rw [lg_entry_eq]
  generalize (lg_sl ([.ref h0, .int 42, .int 28, .int 84]) ++ List.replicate (4 - (lg_sl ([.ref h0, .int 42, .int 28, .int 84])).length) Slot.unset).toArray = ls at hl ⊢
  have hl : lv_has ls 4 [(0, .ref h0), (1, .int 42), (2, .int 28), (3, .int 84)] := hl
  refine lv_aload_n hx hb (dec_at dX2_init 0) rfl (lv_at hl 0 rfl) ?_
  refine W.objInit hx hb hown (hts _ (Gw_t1 49 rfl rfl)) (hts _ (Gw_t1 15 rfl rfl)) (hts _ (Gw_t1 16 rfl rfl)) rfl (by rw [hml]; exact hl.1) rfl (dec_at dX2_init 1) (Nat.le_of_ble_eq_true rfl) (Nat.le_of_ble_eq_true rfl) ?_
  refine W.eq (g2 := F0 m 4 ls []) rfl ?_
  refine lv_aload_n hx hb (dec_at dX2_init 2) rfl (lv_at hl 0 rfl) ?_
  refine lv_iconst (v := 3) hx hb (dec_at dX2_init 3) (by decide) ?_
  refine lv_iload_n hx hb (dec_at dX2_init 4) rfl (lv_at hl 1 rfl) ?_
  refine lv_imul hx hb (dec_at dX2_init 5) ?_
  refine lv_topi (fun y1 ey1 => ?_)
  obtain rfl : y1 = 126 := ey1.trans (by decide)
  refine n_newa (N' := 126) hx hb hts hK rfl hP hD hS hA (by decide) (by decide) (Nat.le_of_ble_eq_true rfl) (Nat.le_of_ble_eq_true rfl) (Nat.le_of_ble_eq_true rfl) (dec_at dX2_init 6) (fun q2 H hP hD hS => ?_)
  have hP : va_P G vwCl [(h0, .inr (2, [.int 0, .int 0, .int 0, .null, .null, .null, .null, .null, .null, .null, .null, .null])), (q2, aZ cI 126)] H := hP
  have hD : va_D A [(h0, .inr (2, [.int 0, .int 0, .int 0, .null, .null, .null, .null, .null, .null, .null, .null, .null])), (q2, aZ cI 126)] := hD
  refine W.widen (k := 1) (n := 126) (Nat.le_of_ble_eq_true rfl) (Nat.le_of_ble_eq_true rfl) ?_
  refine va_putF (D := G) (ci := 2) (v := .ref q2) (ty := .array .int) (C := RX2) (T := TX2) (N := 12) hx hb hts inX2 tyX2 tyX2_ok nmX2 hown hK hP hD hS 0 rfl rfl 3 (by decide) (hts _ (Gw_t1 58 rfl rfl)) (fun _ h9 => h9) rfl hin rfl (by decide +kernel) rfl rfl (Nat.le_of_ble_eq_true rfl) (dec_at dX2_init 7) (fun H locs hP hD hS => ?_)
  have hP : va_P G vwCl [(h0, .inr (2, [.int 0, .int 0, .int 0, .ref q2, .null, .null, .null, .null, .null, .null, .null, .null])), (q2, aZ cI 126)] H := hP
  have hD : va_D A [(h0, .inr (2, [.int 0, .int 0, .int 0, .ref q2, .null, .null, .null, .null, .null, .null, .null, .null])), (q2, aZ cI 126)] := hD
  refine lv_aload_n hx hb (dec_at dX2_init 8) rfl (lv_at hl 0 rfl) ?_
  refine lv_iload_n hx hb (dec_at dX2_init 9) rfl (lv_at hl 2 rfl) ?_
  refine lv_iconst (v := 1) hx hb (dec_at dX2_init 10) (by decide) ?_
  refine lv_iadd hx hb (dec_at dX2_init 11) ?_
  refine lv_topi (fun y3 ey3 => ?_)
  obtain rfl : y3 = 29 := ey3.trans (by decide)
  refine n_newa (N' := 29) hx hb hts hK rfl hP hD hS hA (by decide) (by decide) (Nat.le_of_ble_eq_true rfl) (Nat.le_of_ble_eq_true rfl) (Nat.le_of_ble_eq_true rfl) (dec_at dX2_init 12) (fun q4 H hP hD hS => ?_)
  have hP : va_P G vwCl [(h0, .inr (2, [.int 0, .int 0, .int 0, .ref q2, .null, .null, .null, .null, .null, .null, .null, .null])), (q2, aZ cI 126), (q4, aZ cI 29)] H := hP
  have hD : va_D A [(h0, .inr (2, [.int 0, .int 0, .int 0, .ref q2, .null, .null, .null, .null, .null, .null, .null, .null])), (q2, aZ cI 126), (q4, aZ cI 29)] := hD
  refine W.widen (k := 2) (n := 155) (Nat.le_of_ble_eq_true rfl) (Nat.le_of_ble_eq_true rfl) ?_
  refine va_putF (D := G) (ci := 2) (v := .ref q4) (ty := .array .int) (C := RX2) (T := TX2) (N := 12) hx hb hts inX2 tyX2 tyX2_ok nmX2 hown hK hP hD hS 0 rfl rfl 4 (by decide) (hts _ (Gw_t1 61 rfl rfl)) (fun _ h9 => h9) rfl hin rfl (by decide +kernel) rfl rfl (Nat.le_of_ble_eq_true rfl) (dec_at dX2_init 13) (fun H locs hP hD hS => ?_)
  have hP : va_P G vwCl [(h0, .inr (2, [.int 0, .int 0, .int 0, .ref q2, .ref q4, .null, .null, .null, .null, .null, .null, .null])), (q2, aZ cI 126), (q4, aZ cI 29)] H := hP
  have hD : va_D A [(h0, .inr (2, [.int 0, .int 0, .int 0, .ref q2, .ref q4, .null, .null, .null, .null, .null, .null, .null])), (q2, aZ cI 126), (q4, aZ cI 29)] := hD
  refine lv_aload_n hx hb (dec_at dX2_init 14) rfl (lv_at hl 0 rfl) ?_
  refine lv_iconst (v := 2) hx hb (dec_at dX2_init 15) (by decide) ?_
  refine lv_iload_n hx hb (dec_at dX2_init 16) rfl (lv_at hl 3 rfl) ?_
  refine lv_imul hx hb (dec_at dX2_init 17) ?_
  refine lv_topi (fun y5 ey5 => ?_)
  obtain rfl : y5 = 168 := ey5.trans (by decide)
  refine n_newa (N' := 168) hx hb hts hK rfl hP hD hS hA (by decide) (by decide) (Nat.le_of_ble_eq_true rfl) (Nat.le_of_ble_eq_true rfl) (Nat.le_of_ble_eq_true rfl) (dec_at dX2_init 18) (fun q6 H hP hD hS => ?_)
  have hP : va_P G vwCl [(h0, .inr (2, [.int 0, .int 0, .int 0, .ref q2, .ref q4, .null, .null, .null, .null, .null, .null, .null])), (q2, aZ cI 126), (q4, aZ cI 29), (q6, aZ cI 168)] H := hP
  have hD : va_D A [(h0, .inr (2, [.int 0, .int 0, .int 0, .ref q2, .ref q4, .null, .null, .null, .null, .null, .null, .null])), (q2, aZ cI 126), (q4, aZ cI 29), (q6, aZ cI 168)] := hD
  refine W.widen (k := 3) (n := 323) (Nat.le_of_ble_eq_true rfl) (Nat.le_of_ble_eq_true rfl) ?_
  refine va_putF (D := G) (ci := 2) (v := .ref q6) (ty := .array .int) (C := RX2) (T := TX2) (N := 12) hx hb hts inX2 tyX2 tyX2_ok nmX2 hown hK hP hD hS 0 rfl rfl 5 (by decide) (hts _ (Gw_t1 64 rfl rfl)) (fun _ h9 => h9) rfl hin rfl (by decide +kernel) rfl rfl (Nat.le_of_ble_eq_true rfl) (dec_at dX2_init 19) (fun H locs hP hD hS => ?_)
  have hP : va_P G vwCl [(h0, .inr (2, [.int 0, .int 0, .int 0, .ref q2, .ref q4, .ref q6, .null, .null, .null, .null, .null, .null])), (q2, aZ cI 126), (q4, aZ cI 29), (q6, aZ cI 168)] H := hP
  have hD : va_D A [(h0, .inr (2, [.int 0, .int 0, .int 0, .ref q2, .ref q4, .ref q6, .null, .null, .null, .null, .null, .null])), (q2, aZ cI 126), (q4, aZ cI 29), (q6, aZ cI 168)] := hD
  refine lv_aload_n hx hb (dec_at dX2_init 20) rfl (lv_at hl 0 rfl) ?_
  refine lv_iconst (v := 2) hx hb (dec_at dX2_init 21) (by decide) ?_
  refine lv_iload_n hx hb (dec_at dX2_init 22) rfl (lv_at hl 3 rfl) ?_
  refine lv_imul hx hb (dec_at dX2_init 23) ?_
  refine lv_topi (fun y7 ey7 => ?_)
  obtain rfl : y7 = 168 := ey7.trans (by decide)
  refine n_newa (N' := 168) hx hb hts hK rfl hP hD hS hA (by decide) (by decide) (Nat.le_of_ble_eq_true rfl) (Nat.le_of_ble_eq_true rfl) (Nat.le_of_ble_eq_true rfl) (dec_at dX2_init 24) (fun q8 H hP hD hS => ?_)
  have hP : va_P G vwCl [(h0, .inr (2, [.int 0, .int 0, .int 0, .ref q2, .ref q4, .ref q6, .null, .null, .null, .null, .null, .null])), (q2, aZ cI 126), (q4, aZ cI 29), (q6, aZ cI 168), (q8, aZ cI 168)] H := hP
  have hD : va_D A [(h0, .inr (2, [.int 0, .int 0, .int 0, .ref q2, .ref q4, .ref q6, .null, .null, .null, .null, .null, .null])), (q2, aZ cI 126), (q4, aZ cI 29), (q6, aZ cI 168), (q8, aZ cI 168)] := hD
  refine W.widen (k := 4) (n := 491) (Nat.le_of_ble_eq_true rfl) (Nat.le_of_ble_eq_true rfl) ?_
  refine va_putF (D := G) (ci := 2) (v := .ref q8) (ty := .array .int) (C := RX2) (T := TX2) (N := 12) hx hb hts inX2 tyX2 tyX2_ok nmX2 hown hK hP hD hS 0 rfl rfl 6 (by decide) (hts _ (Gw_t1 67 rfl rfl)) (fun _ h9 => h9) rfl hin rfl (by decide +kernel) rfl rfl (Nat.le_of_ble_eq_true rfl) (dec_at dX2_init 25) (fun H locs hP hD hS => ?_)
  have hP : va_P G vwCl [(h0, .inr (2, [.int 0, .int 0, .int 0, .ref q2, .ref q4, .ref q6, .ref q8, .null, .null, .null, .null, .null])), (q2, aZ cI 126), (q4, aZ cI 29), (q6, aZ cI 168), (q8, aZ cI 168)] H := hP
  have hD : va_D A [(h0, .inr (2, [.int 0, .int 0, .int 0, .ref q2, .ref q4, .ref q6, .ref q8, .null, .null, .null, .null, .null])), (q2, aZ cI 126), (q4, aZ cI 29), (q6, aZ cI 168), (q8, aZ cI 168)] := hD
  refine lv_aload_n hx hb (dec_at dX2_init 26) rfl (lv_at hl 0 rfl) ?_
  refine lv_iconst (v := 2) hx hb (dec_at dX2_init 27) (by decide) ?_
  refine lv_iload_n hx hb (dec_at dX2_init 28) rfl (lv_at hl 3 rfl) ?_
  refine lv_imul hx hb (dec_at dX2_init 29) ?_
  refine lv_topi (fun y9 ey9 => ?_)
  obtain rfl : y9 = 168 := ey9.trans (by decide)
  refine n_newa (N' := 168) hx hb hts hK rfl hP hD hS hA (by decide) (by decide) (Nat.le_of_ble_eq_true rfl) (Nat.le_of_ble_eq_true rfl) (Nat.le_of_ble_eq_true rfl) (dec_at dX2_init 30) (fun q10 H hP hD hS => ?_)
  have hP : va_P G vwCl [(h0, .inr (2, [.int 0, .int 0, .int 0, .ref q2, .ref q4, .ref q6, .ref q8, .null, .null, .null, .null, .null])), (q2, aZ cI 126), (q4, aZ cI 29), (q6, aZ cI 168), (q8, aZ cI 168), (q10, aZ cI 168)] H := hP
  have hD : va_D A [(h0, .inr (2, [.int 0, .int 0, .int 0, .ref q2, .ref q4, .ref q6, .ref q8, .null, .null, .null, .null, .null])), (q2, aZ cI 126), (q4, aZ cI 29), (q6, aZ cI 168), (q8, aZ cI 168), (q10, aZ cI 168)] := hD
  refine W.widen (k := 5) (n := 659) (Nat.le_of_ble_eq_true rfl) (Nat.le_of_ble_eq_true rfl) ?_
  refine va_putF (D := G) (ci := 2) (v := .ref q10) (ty := .array .int) (C := RX2) (T := TX2) (N := 12) hx hb hts inX2 tyX2 tyX2_ok nmX2 hown hK hP hD hS 0 rfl rfl 7 (by decide) (hts _ (Gw_t1 69 rfl rfl)) (fun _ h9 => h9) rfl hin rfl (by decide +kernel) rfl rfl (Nat.le_of_ble_eq_true rfl) (dec_at dX2_init 31) (fun H locs hP hD hS => ?_)
  have hP : va_P G vwCl [(h0, .inr (2, [.int 0, .int 0, .int 0, .ref q2, .ref q4, .ref q6, .ref q8, .ref q10, .null, .null, .null, .null])), (q2, aZ cI 126), (q4, aZ cI 29), (q6, aZ cI 168), (q8, aZ cI 168), (q10, aZ cI 168)] H := hP
  have hD : va_D A [(h0, .inr (2, [.int 0, .int 0, .int 0, .ref q2, .ref q4, .ref q6, .ref q8, .ref q10, .null, .null, .null, .null])), (q2, aZ cI 126), (q4, aZ cI 29), (q6, aZ cI 168), (q8, aZ cI 168), (q10, aZ cI 168)] := hD
  refine lv_aload_n hx hb (dec_at dX2_init 32) rfl (lv_at hl 0 rfl) ?_
  refine lv_iconst (v := 2) hx hb (dec_at dX2_init 33) (by decide) ?_
  refine lv_iload_n hx hb (dec_at dX2_init 34) rfl (lv_at hl 3 rfl) ?_
  refine lv_imul hx hb (dec_at dX2_init 35) ?_
  refine lv_topi (fun y11 ey11 => ?_)
  obtain rfl : y11 = 168 := ey11.trans (by decide)
  refine n_newa (N' := 168) hx hb hts hK rfl hP hD hS hA (by decide) (by decide) (Nat.le_of_ble_eq_true rfl) (Nat.le_of_ble_eq_true rfl) (Nat.le_of_ble_eq_true rfl) (dec_at dX2_init 36) (fun q12 H hP hD hS => ?_)
  have hP : va_P G vwCl [(h0, .inr (2, [.int 0, .int 0, .int 0, .ref q2, .ref q4, .ref q6, .ref q8, .ref q10, .null, .null, .null, .null])), (q2, aZ cI 126), (q4, aZ cI 29), (q6, aZ cI 168), (q8, aZ cI 168), (q10, aZ cI 168), (q12, aZ cI 168)] H := hP
  have hD : va_D A [(h0, .inr (2, [.int 0, .int 0, .int 0, .ref q2, .ref q4, .ref q6, .ref q8, .ref q10, .null, .null, .null, .null])), (q2, aZ cI 126), (q4, aZ cI 29), (q6, aZ cI 168), (q8, aZ cI 168), (q10, aZ cI 168), (q12, aZ cI 168)] := hD
  refine W.widen (k := 6) (n := 827) (Nat.le_of_ble_eq_true rfl) (Nat.le_of_ble_eq_true rfl) ?_
  refine va_putF (D := G) (ci := 2) (v := .ref q12) (ty := .array .int) (C := RX2) (T := TX2) (N := 12) hx hb hts inX2 tyX2 tyX2_ok nmX2 hown hK hP hD hS 0 rfl rfl 8 (by decide) (hts _ (Gw_t1 71 rfl rfl)) (fun _ h9 => h9) rfl hin rfl (by decide +kernel) rfl rfl (Nat.le_of_ble_eq_true rfl) (dec_at dX2_init 37) (fun H locs hP hD hS => ?_)
  have hP : va_P G vwCl [(h0, .inr (2, [.int 0, .int 0, .int 0, .ref q2, .ref q4, .ref q6, .ref q8, .ref q10, .ref q12, .null, .null, .null])), (q2, aZ cI 126), (q4, aZ cI 29), (q6, aZ cI 168), (q8, aZ cI 168), (q10, aZ cI 168), (q12, aZ cI 168)] H := hP
  have hD : va_D A [(h0, .inr (2, [.int 0, .int 0, .int 0, .ref q2, .ref q4, .ref q6, .ref q8, .ref q10, .ref q12, .null, .null, .null])), (q2, aZ cI 126), (q4, aZ cI 29), (q6, aZ cI 168), (q8, aZ cI 168), (q10, aZ cI 168), (q12, aZ cI 168)] := hD
  refine lv_aload_n hx hb (dec_at dX2_init 38) rfl (lv_at hl 0 rfl) ?_
  refine lv_iload_n hx hb (dec_at dX2_init 39) rfl (lv_at hl 3 rfl) ?_
  refine n_newa (N' := 84) hx hb hts hK rfl hP hD hS hA (by decide) (by decide) (Nat.le_of_ble_eq_true rfl) (Nat.le_of_ble_eq_true rfl) (Nat.le_of_ble_eq_true rfl) (dec_at dX2_init 40) (fun q13 H hP hD hS => ?_)
  have hP : va_P G vwCl [(h0, .inr (2, [.int 0, .int 0, .int 0, .ref q2, .ref q4, .ref q6, .ref q8, .ref q10, .ref q12, .null, .null, .null])), (q2, aZ cI 126), (q4, aZ cI 29), (q6, aZ cI 168), (q8, aZ cI 168), (q10, aZ cI 168), (q12, aZ cI 168), (q13, aZ cI 84)] H := hP
  have hD : va_D A [(h0, .inr (2, [.int 0, .int 0, .int 0, .ref q2, .ref q4, .ref q6, .ref q8, .ref q10, .ref q12, .null, .null, .null])), (q2, aZ cI 126), (q4, aZ cI 29), (q6, aZ cI 168), (q8, aZ cI 168), (q10, aZ cI 168), (q12, aZ cI 168), (q13, aZ cI 84)] := hD
  refine W.widen (k := 7) (n := 911) (Nat.le_of_ble_eq_true rfl) (Nat.le_of_ble_eq_true rfl) ?_
  refine va_putF (D := G) (ci := 2) (v := .ref q13) (ty := .array .int) (C := RX2) (T := TX2) (N := 12) hx hb hts inX2 tyX2 tyX2_ok nmX2 hown hK hP hD hS 0 rfl rfl 9 (by decide) (hts _ (Gw_t1 72 rfl rfl)) (fun _ h9 => h9) rfl hin rfl (by decide +kernel) rfl rfl (Nat.le_of_ble_eq_true rfl) (dec_at dX2_init 41) (fun H locs hP hD hS => ?_)
  have hP : va_P G vwCl [(h0, .inr (2, [.int 0, .int 0, .int 0, .ref q2, .ref q4, .ref q6, .ref q8, .ref q10, .ref q12, .ref q13, .null, .null])), (q2, aZ cI 126), (q4, aZ cI 29), (q6, aZ cI 168), (q8, aZ cI 168), (q10, aZ cI 168), (q12, aZ cI 168), (q13, aZ cI 84)] H := hP
  have hD : va_D A [(h0, .inr (2, [.int 0, .int 0, .int 0, .ref q2, .ref q4, .ref q6, .ref q8, .ref q10, .ref q12, .ref q13, .null, .null])), (q2, aZ cI 126), (q4, aZ cI 29), (q6, aZ cI 168), (q8, aZ cI 168), (q10, aZ cI 168), (q12, aZ cI 168), (q13, aZ cI 84)] := hD
  refine lv_aload_n hx hb (dec_at dX2_init 42) rfl (lv_at hl 0 rfl) ?_
  refine lv_iload_n hx hb (dec_at dX2_init 43) rfl (lv_at hl 1 rfl) ?_
  refine n_newa (N' := 42) hx hb hts hK rfl hP hD hS hA (by decide) (by decide) (Nat.le_of_ble_eq_true rfl) (Nat.le_of_ble_eq_true rfl) (Nat.le_of_ble_eq_true rfl) (dec_at dX2_init 44) (fun q14 H hP hD hS => ?_)
  have hP : va_P G vwCl [(h0, .inr (2, [.int 0, .int 0, .int 0, .ref q2, .ref q4, .ref q6, .ref q8, .ref q10, .ref q12, .ref q13, .null, .null])), (q2, aZ cI 126), (q4, aZ cI 29), (q6, aZ cI 168), (q8, aZ cI 168), (q10, aZ cI 168), (q12, aZ cI 168), (q13, aZ cI 84), (q14, aZ cI 42)] H := hP
  have hD : va_D A [(h0, .inr (2, [.int 0, .int 0, .int 0, .ref q2, .ref q4, .ref q6, .ref q8, .ref q10, .ref q12, .ref q13, .null, .null])), (q2, aZ cI 126), (q4, aZ cI 29), (q6, aZ cI 168), (q8, aZ cI 168), (q10, aZ cI 168), (q12, aZ cI 168), (q13, aZ cI 84), (q14, aZ cI 42)] := hD
  refine W.widen (k := 8) (n := 953) (Nat.le_of_ble_eq_true rfl) (Nat.le_of_ble_eq_true rfl) ?_
  refine va_putF (D := G) (ci := 2) (v := .ref q14) (ty := .array .int) (C := RX2) (T := TX2) (N := 12) hx hb hts inX2 tyX2 tyX2_ok nmX2 hown hK hP hD hS 0 rfl rfl 10 (by decide) (hts _ (Gw_t1 73 rfl rfl)) (fun _ h9 => h9) rfl hin rfl (by decide +kernel) rfl rfl (Nat.le_of_ble_eq_true rfl) (dec_at dX2_init 45) (fun H locs hP hD hS => ?_)
  have hP : va_P G vwCl [(h0, .inr (2, [.int 0, .int 0, .int 0, .ref q2, .ref q4, .ref q6, .ref q8, .ref q10, .ref q12, .ref q13, .ref q14, .null])), (q2, aZ cI 126), (q4, aZ cI 29), (q6, aZ cI 168), (q8, aZ cI 168), (q10, aZ cI 168), (q12, aZ cI 168), (q13, aZ cI 84), (q14, aZ cI 42)] H := hP
  have hD : va_D A [(h0, .inr (2, [.int 0, .int 0, .int 0, .ref q2, .ref q4, .ref q6, .ref q8, .ref q10, .ref q12, .ref q13, .ref q14, .null])), (q2, aZ cI 126), (q4, aZ cI 29), (q6, aZ cI 168), (q8, aZ cI 168), (q10, aZ cI 168), (q12, aZ cI 168), (q13, aZ cI 84), (q14, aZ cI 42)] := hD
  refine lv_aload_n hx hb (dec_at dX2_init 46) rfl (lv_at hl 0 rfl) ?_
  refine lv_iload_n hx hb (dec_at dX2_init 47) rfl (lv_at hl 1 rfl) ?_
  refine n_newa (N' := 42) hx hb hts hK rfl hP hD hS hA (by decide) (by decide) (Nat.le_of_ble_eq_true rfl) (Nat.le_of_ble_eq_true rfl) (Nat.le_of_ble_eq_true rfl) (dec_at dX2_init 48) (fun q15 H hP hD hS => ?_)
  have hP : va_P G vwCl [(h0, .inr (2, [.int 0, .int 0, .int 0, .ref q2, .ref q4, .ref q6, .ref q8, .ref q10, .ref q12, .ref q13, .ref q14, .null])), (q2, aZ cI 126), (q4, aZ cI 29), (q6, aZ cI 168), (q8, aZ cI 168), (q10, aZ cI 168), (q12, aZ cI 168), (q13, aZ cI 84), (q14, aZ cI 42), (q15, aZ cI 42)] H := hP
  have hD : va_D A [(h0, .inr (2, [.int 0, .int 0, .int 0, .ref q2, .ref q4, .ref q6, .ref q8, .ref q10, .ref q12, .ref q13, .ref q14, .null])), (q2, aZ cI 126), (q4, aZ cI 29), (q6, aZ cI 168), (q8, aZ cI 168), (q10, aZ cI 168), (q12, aZ cI 168), (q13, aZ cI 84), (q14, aZ cI 42), (q15, aZ cI 42)] := hD
  refine W.widen (k := 9) (n := 995) (Nat.le_of_ble_eq_true rfl) (Nat.le_of_ble_eq_true rfl) ?_
  refine va_putF (D := G) (ci := 2) (v := .ref q15) (ty := .array .int) (C := RX2) (T := TX2) (N := 12) hx hb hts inX2 tyX2 tyX2_ok nmX2 hown hK hP hD hS 0 rfl rfl 11 (by decide) (hts _ (Gw_t1 75 rfl rfl)) (fun _ h9 => h9) rfl hin rfl (by decide +kernel) rfl rfl (Nat.le_of_ble_eq_true rfl) (dec_at dX2_init 49) (fun H locs hP hD hS => ?_)
  have hP : va_P G vwCl [(h0, .inr (2, [.int 0, .int 0, .int 0, .ref q2, .ref q4, .ref q6, .ref q8, .ref q10, .ref q12, .ref q13, .ref q14, .ref q15])), (q2, aZ cI 126), (q4, aZ cI 29), (q6, aZ cI 168), (q8, aZ cI 168), (q10, aZ cI 168), (q12, aZ cI 168), (q13, aZ cI 84), (q14, aZ cI 42), (q15, aZ cI 42)] H := hP
  have hD : va_D A [(h0, .inr (2, [.int 0, .int 0, .int 0, .ref q2, .ref q4, .ref q6, .ref q8, .ref q10, .ref q12, .ref q13, .ref q14, .ref q15])), (q2, aZ cI 126), (q4, aZ cI 29), (q6, aZ cI 168), (q8, aZ cI 168), (q10, aZ cI 168), (q12, aZ cI 168), (q13, aZ cI 84), (q14, aZ cI 42), (q15, aZ cI 42)] := hD
  have hP9 := hP.sub (ws' := [(h0, .inr (2, [.int 0, .int 0, .int 0, .ref q2, .ref q4, .ref q6, .ref q8, .ref q10, .ref q12, .ref q13, .ref q14, .ref q15])), (q2, aZ cI 126), (q4, aZ cI 29), (q6, aZ cI 168), (q8, aZ cI 168), (q10, aZ cI 168), (q12, aZ cI 168), (q13, aZ cI 84), (q14, aZ cI 42), (q15, aZ cI 42)]) [0, 1, 2, 3, 4, 5, 6, 7, 8, 9] rfl
  have hD9 := hD.sub (ws' := [(h0, .inr (2, [.int 0, .int 0, .int 0, .ref q2, .ref q4, .ref q6, .ref q8, .ref q10, .ref q12, .ref q13, .ref q14, .ref q15])), (q2, aZ cI 126), (q4, aZ cI 29), (q6, aZ cI 168), (q8, aZ cI 168), (q10, aZ cI 168), (q12, aZ cI 168), (q13, aZ cI 84), (q14, aZ cI 42), (q15, aZ cI 42)]) [0, 1, 2, 3, 4, 5, 6, 7, 8, 9] (by decide) rfl
  exact W.vret hx hb hr (fun t ht hW => ⟨⟨(), rfl, trivial, q2, q4, q6, q8, q10, q12, q13, q14, q15, by rw [ht]; exact hP9, hD9⟩, hS.F ht⟩) hS.2.2 (dec_at dX2_init 50)

set_option maxRecDepth 100000 in
set_option maxHeartbeats 8000000 in
theorem k_net2 (l : Launch) (G : va_G) (cI : ClassId) (h0 sz : Nat) : Met l yX2_init (.code yX2_init cX2_init 4 none :: Gw) ({ frames := 2, cells := 9, slots := 2003, locals := 60 }) (va_Pc [.ref h0, .int 84, .int 70, .int 168] (fun U => U.heap.size = sz ∧ va_P G vwCl [(h0, .inr (2, [.int 0, .int 0, .int 0, .null, .null, .null, .null, .null, .null, .null, .null, .null]))] U.heap ∧ va_K G vwCl [(cI, .int)] U ∧ va_D (fun _ => True) [(h0, .inr (2, [.int 0, .int 0, .int 0, .null, .null, .null, .null, .null, .null, .null, .null, .null]))])) (va_Qv (fun (_ : Unit) => True) (fun (_ : Unit) t => ∃ (z0 z1 z2 z3 z4 z5 z6 z7 z8 : Nat), va_P G vwCl [(h0, .inr (2, [.int 0, .int 0, .int 0, .ref z0, .ref z1, .ref z2, .ref z3, .ref z4, .ref z5, .ref z6, .ref z7, .ref z8])), (z0, aZ cI 252), (z1, aZ cI 71), (z2, aZ cI 336), (z3, aZ cI 336), (z4, aZ cI 336), (z5, aZ cI 336), (z6, aZ cI 168), (z7, aZ cI 84), (z8, aZ cI 84)] t.heap ∧ va_D (va_A [(h0, .inr (2, [.int 0, .int 0, .int 0, .null, .null, .null, .null, .null, .null, .null, .null, .null]))] sz) [(h0, .inr (2, [.int 0, .int 0, .int 0, .ref z0, .ref z1, .ref z2, .ref z3, .ref z4, .ref z5, .ref z6, .ref z7, .ref z8])), (z0, aZ cI 252), (z1, aZ cI 71), (z2, aZ cI 336), (z3, aZ cI 336), (z4, aZ cI 336), (z5, aZ cI 336), (z6, aZ cI 168), (z7, aZ cI 84), (z8, aZ cI 84)]) (va_A [(h0, .inr (2, [.int 0, .int 0, .int 0, .null, .null, .null, .null, .null, .null, .null, .null, .null]))] sz)) 9 2003 (va_A [(h0, .inr (2, [.int 0, .int 0, .int 0, .null, .null, .null, .null, .null, .null, .null, .null, .null]))] sz) := by
  refine Met.ofW (cc := cX2_init) (maxL := 4) (ret := none) (by decide +kernel) rfl ?_
  intro p e s m args below meth c s₁ B hml hv
  obtain ⟨rfl, hsz, hP, hK, hD0⟩ := hv
  have hx := B.exec
  have hb := B.bytes
  have hr := B.returns
  have hts : ∀ w ∈ Gw, w.before _ s = true := fun w hw => atoms_spec (ws := .code yX2_init cX2_init 4 none :: Gw) B.pre w (List.mem_cons_of_mem _ hw)
  have hown : s.vm.findClass RX2 = some m.cls := findClass_of_methodNamed B.named
  have hlocks := B.notSynchronized
  have hin : meth.name = "<init>" := (name_of_methodNamed B.named B.method).1
  subst hsz
  have hD := hD0.self (sz := s.heap.size)
  generalize hAe : va_A [(h0, .inr (2, [.int 0, .int 0, .int 0, .null, .null, .null, .null, .null, .null, .null, .null, .null]))] s.heap.size = A at hD ⊢
  have hA : ∀ q : Nat, s.heap.size ≤ q → A q := fun q h => by rw [← hAe]; exact Or.inr h
  have hS : va_S A s.heap s.heap [] := va_S.rf
  have hP : va_P G vwCl [(h0, .inr (2, [.int 0, .int 0, .int 0, .null, .null, .null, .null, .null, .null, .null, .null, .null]))] s.heap := hP
  have hl := lv_entry ([.ref h0, .int 84, .int 70, .int 168]) (n := 4) (Nat.le_of_ble_eq_true rfl)
  rw [lg_entry_eq]
  generalize (lg_sl ([.ref h0, .int 84, .int 70, .int 168]) ++ List.replicate (4 - (lg_sl ([.ref h0, .int 84, .int 70, .int 168])).length) Slot.unset).toArray = ls at hl ⊢
  have hl : lv_has ls 4 [(0, .ref h0), (1, .int 84), (2, .int 70), (3, .int 168)] := hl
  refine lv_aload_n hx hb (dec_at dX2_init 0) rfl (lv_at hl 0 rfl) ?_
  refine W.objInit hx hb hown (hts _ (Gw_t1 49 rfl rfl)) (hts _ (Gw_t1 15 rfl rfl)) (hts _ (Gw_t1 16 rfl rfl)) rfl (by rw [hml]; exact hl.1) rfl (dec_at dX2_init 1) (Nat.le_of_ble_eq_true rfl) (Nat.le_of_ble_eq_true rfl) ?_
  refine W.eq (g2 := F0 m 4 ls []) rfl ?_
  refine lv_aload_n hx hb (dec_at dX2_init 2) rfl (lv_at hl 0 rfl) ?_
  refine lv_iconst (v := 3) hx hb (dec_at dX2_init 3) (by decide) ?_
  refine lv_iload_n hx hb (dec_at dX2_init 4) rfl (lv_at hl 1 rfl) ?_
  refine lv_imul hx hb (dec_at dX2_init 5) ?_
  refine lv_topi (fun y1 ey1 => ?_)
  obtain rfl : y1 = 252 := ey1.trans (by decide)
  refine n_newa (N' := 252) hx hb hts hK rfl hP hD hS hA (by decide) (by decide) (Nat.le_of_ble_eq_true rfl) (Nat.le_of_ble_eq_true rfl) (Nat.le_of_ble_eq_true rfl) (dec_at dX2_init 6) (fun q2 H hP hD hS => ?_)
  have hP : va_P G vwCl [(h0, .inr (2, [.int 0, .int 0, .int 0, .null, .null, .null, .null, .null, .null, .null, .null, .null])), (q2, aZ cI 252)] H := hP
  have hD : va_D A [(h0, .inr (2, [.int 0, .int 0, .int 0, .null, .null, .null, .null, .null, .null, .null, .null, .null])), (q2, aZ cI 252)] := hD
  refine W.widen (k := 1) (n := 252) (Nat.le_of_ble_eq_true rfl) (Nat.le_of_ble_eq_true rfl) ?_
  refine va_putF (D := G) (ci := 2) (v := .ref q2) (ty := .array .int) (C := RX2) (T := TX2) (N := 12) hx hb hts inX2 tyX2 tyX2_ok nmX2 hown hK hP hD hS 0 rfl rfl 3 (by decide) (hts _ (Gw_t1 58 rfl rfl)) (fun _ h9 => h9) rfl hin rfl (by decide +kernel) rfl rfl (Nat.le_of_ble_eq_true rfl) (dec_at dX2_init 7) (fun H locs hP hD hS => ?_)
  have hP : va_P G vwCl [(h0, .inr (2, [.int 0, .int 0, .int 0, .ref q2, .null, .null, .null, .null, .null, .null, .null, .null])), (q2, aZ cI 252)] H := hP
  have hD : va_D A [(h0, .inr (2, [.int 0, .int 0, .int 0, .ref q2, .null, .null, .null, .null, .null, .null, .null, .null])), (q2, aZ cI 252)] := hD
  refine lv_aload_n hx hb (dec_at dX2_init 8) rfl (lv_at hl 0 rfl) ?_
  refine lv_iload_n hx hb (dec_at dX2_init 9) rfl (lv_at hl 2 rfl) ?_
  refine lv_iconst (v := 1) hx hb (dec_at dX2_init 10) (by decide) ?_
  refine lv_iadd hx hb (dec_at dX2_init 11) ?_
  refine lv_topi (fun y3 ey3 => ?_)
  obtain rfl : y3 = 71 := ey3.trans (by decide)
  refine n_newa (N' := 71) hx hb hts hK rfl hP hD hS hA (by decide) (by decide) (Nat.le_of_ble_eq_true rfl) (Nat.le_of_ble_eq_true rfl) (Nat.le_of_ble_eq_true rfl) (dec_at dX2_init 12) (fun q4 H hP hD hS => ?_)
  have hP : va_P G vwCl [(h0, .inr (2, [.int 0, .int 0, .int 0, .ref q2, .null, .null, .null, .null, .null, .null, .null, .null])), (q2, aZ cI 252), (q4, aZ cI 71)] H := hP
  have hD : va_D A [(h0, .inr (2, [.int 0, .int 0, .int 0, .ref q2, .null, .null, .null, .null, .null, .null, .null, .null])), (q2, aZ cI 252), (q4, aZ cI 71)] := hD
  refine W.widen (k := 2) (n := 323) (Nat.le_of_ble_eq_true rfl) (Nat.le_of_ble_eq_true rfl) ?_
  refine va_putF (D := G) (ci := 2) (v := .ref q4) (ty := .array .int) (C := RX2) (T := TX2) (N := 12) hx hb hts inX2 tyX2 tyX2_ok nmX2 hown hK hP hD hS 0 rfl rfl 4 (by decide) (hts _ (Gw_t1 61 rfl rfl)) (fun _ h9 => h9) rfl hin rfl (by decide +kernel) rfl rfl (Nat.le_of_ble_eq_true rfl) (dec_at dX2_init 13) (fun H locs hP hD hS => ?_)
  have hP : va_P G vwCl [(h0, .inr (2, [.int 0, .int 0, .int 0, .ref q2, .ref q4, .null, .null, .null, .null, .null, .null, .null])), (q2, aZ cI 252), (q4, aZ cI 71)] H := hP
  have hD : va_D A [(h0, .inr (2, [.int 0, .int 0, .int 0, .ref q2, .ref q4, .null, .null, .null, .null, .null, .null, .null])), (q2, aZ cI 252), (q4, aZ cI 71)] := hD
  refine lv_aload_n hx hb (dec_at dX2_init 14) rfl (lv_at hl 0 rfl) ?_
  refine lv_iconst (v := 2) hx hb (dec_at dX2_init 15) (by decide) ?_
  refine lv_iload_n hx hb (dec_at dX2_init 16) rfl (lv_at hl 3 rfl) ?_
  refine lv_imul hx hb (dec_at dX2_init 17) ?_
  refine lv_topi (fun y5 ey5 => ?_)
  obtain rfl : y5 = 336 := ey5.trans (by decide)
  refine n_newa (N' := 336) hx hb hts hK rfl hP hD hS hA (by decide) (by decide) (Nat.le_of_ble_eq_true rfl) (Nat.le_of_ble_eq_true rfl) (Nat.le_of_ble_eq_true rfl) (dec_at dX2_init 18) (fun q6 H hP hD hS => ?_)
  have hP : va_P G vwCl [(h0, .inr (2, [.int 0, .int 0, .int 0, .ref q2, .ref q4, .null, .null, .null, .null, .null, .null, .null])), (q2, aZ cI 252), (q4, aZ cI 71), (q6, aZ cI 336)] H := hP
  have hD : va_D A [(h0, .inr (2, [.int 0, .int 0, .int 0, .ref q2, .ref q4, .null, .null, .null, .null, .null, .null, .null])), (q2, aZ cI 252), (q4, aZ cI 71), (q6, aZ cI 336)] := hD
  refine W.widen (k := 3) (n := 659) (Nat.le_of_ble_eq_true rfl) (Nat.le_of_ble_eq_true rfl) ?_
  refine va_putF (D := G) (ci := 2) (v := .ref q6) (ty := .array .int) (C := RX2) (T := TX2) (N := 12) hx hb hts inX2 tyX2 tyX2_ok nmX2 hown hK hP hD hS 0 rfl rfl 5 (by decide) (hts _ (Gw_t1 64 rfl rfl)) (fun _ h9 => h9) rfl hin rfl (by decide +kernel) rfl rfl (Nat.le_of_ble_eq_true rfl) (dec_at dX2_init 19) (fun H locs hP hD hS => ?_)
  have hP : va_P G vwCl [(h0, .inr (2, [.int 0, .int 0, .int 0, .ref q2, .ref q4, .ref q6, .null, .null, .null, .null, .null, .null])), (q2, aZ cI 252), (q4, aZ cI 71), (q6, aZ cI 336)] H := hP
  have hD : va_D A [(h0, .inr (2, [.int 0, .int 0, .int 0, .ref q2, .ref q4, .ref q6, .null, .null, .null, .null, .null, .null])), (q2, aZ cI 252), (q4, aZ cI 71), (q6, aZ cI 336)] := hD
  refine lv_aload_n hx hb (dec_at dX2_init 20) rfl (lv_at hl 0 rfl) ?_
  refine lv_iconst (v := 2) hx hb (dec_at dX2_init 21) (by decide) ?_
  refine lv_iload_n hx hb (dec_at dX2_init 22) rfl (lv_at hl 3 rfl) ?_
  refine lv_imul hx hb (dec_at dX2_init 23) ?_
  refine lv_topi (fun y7 ey7 => ?_)
  obtain rfl : y7 = 336 := ey7.trans (by decide)
  refine n_newa (N' := 336) hx hb hts hK rfl hP hD hS hA (by decide) (by decide) (Nat.le_of_ble_eq_true rfl) (Nat.le_of_ble_eq_true rfl) (Nat.le_of_ble_eq_true rfl) (dec_at dX2_init 24) (fun q8 H hP hD hS => ?_)
  have hP : va_P G vwCl [(h0, .inr (2, [.int 0, .int 0, .int 0, .ref q2, .ref q4, .ref q6, .null, .null, .null, .null, .null, .null])), (q2, aZ cI 252), (q4, aZ cI 71), (q6, aZ cI 336), (q8, aZ cI 336)] H := hP
  have hD : va_D A [(h0, .inr (2, [.int 0, .int 0, .int 0, .ref q2, .ref q4, .ref q6, .null, .null, .null, .null, .null, .null])), (q2, aZ cI 252), (q4, aZ cI 71), (q6, aZ cI 336), (q8, aZ cI 336)] := hD
  refine W.widen (k := 4) (n := 995) (Nat.le_of_ble_eq_true rfl) (Nat.le_of_ble_eq_true rfl) ?_
  refine va_putF (D := G) (ci := 2) (v := .ref q8) (ty := .array .int) (C := RX2) (T := TX2) (N := 12) hx hb hts inX2 tyX2 tyX2_ok nmX2 hown hK hP hD hS 0 rfl rfl 6 (by decide) (hts _ (Gw_t1 67 rfl rfl)) (fun _ h9 => h9) rfl hin rfl (by decide +kernel) rfl rfl (Nat.le_of_ble_eq_true rfl) (dec_at dX2_init 25) (fun H locs hP hD hS => ?_)
  have hP : va_P G vwCl [(h0, .inr (2, [.int 0, .int 0, .int 0, .ref q2, .ref q4, .ref q6, .ref q8, .null, .null, .null, .null, .null])), (q2, aZ cI 252), (q4, aZ cI 71), (q6, aZ cI 336), (q8, aZ cI 336)] H := hP
  have hD : va_D A [(h0, .inr (2, [.int 0, .int 0, .int 0, .ref q2, .ref q4, .ref q6, .ref q8, .null, .null, .null, .null, .null])), (q2, aZ cI 252), (q4, aZ cI 71), (q6, aZ cI 336), (q8, aZ cI 336)] := hD
  refine lv_aload_n hx hb (dec_at dX2_init 26) rfl (lv_at hl 0 rfl) ?_
  refine lv_iconst (v := 2) hx hb (dec_at dX2_init 27) (by decide) ?_
  refine lv_iload_n hx hb (dec_at dX2_init 28) rfl (lv_at hl 3 rfl) ?_
  refine lv_imul hx hb (dec_at dX2_init 29) ?_
  refine lv_topi (fun y9 ey9 => ?_)
  obtain rfl : y9 = 336 := ey9.trans (by decide)
  refine n_newa (N' := 336) hx hb hts hK rfl hP hD hS hA (by decide) (by decide) (Nat.le_of_ble_eq_true rfl) (Nat.le_of_ble_eq_true rfl) (Nat.le_of_ble_eq_true rfl) (dec_at dX2_init 30) (fun q10 H hP hD hS => ?_)
  have hP : va_P G vwCl [(h0, .inr (2, [.int 0, .int 0, .int 0, .ref q2, .ref q4, .ref q6, .ref q8, .null, .null, .null, .null, .null])), (q2, aZ cI 252), (q4, aZ cI 71), (q6, aZ cI 336), (q8, aZ cI 336), (q10, aZ cI 336)] H := hP
  have hD : va_D A [(h0, .inr (2, [.int 0, .int 0, .int 0, .ref q2, .ref q4, .ref q6, .ref q8, .null, .null, .null, .null, .null])), (q2, aZ cI 252), (q4, aZ cI 71), (q6, aZ cI 336), (q8, aZ cI 336), (q10, aZ cI 336)] := hD
  refine W.widen (k := 5) (n := 1331) (Nat.le_of_ble_eq_true rfl) (Nat.le_of_ble_eq_true rfl) ?_
  refine va_putF (D := G) (ci := 2) (v := .ref q10) (ty := .array .int) (C := RX2) (T := TX2) (N := 12) hx hb hts inX2 tyX2 tyX2_ok nmX2 hown hK hP hD hS 0 rfl rfl 7 (by decide) (hts _ (Gw_t1 69 rfl rfl)) (fun _ h9 => h9) rfl hin rfl (by decide +kernel) rfl rfl (Nat.le_of_ble_eq_true rfl) (dec_at dX2_init 31) (fun H locs hP hD hS => ?_)
  have hP : va_P G vwCl [(h0, .inr (2, [.int 0, .int 0, .int 0, .ref q2, .ref q4, .ref q6, .ref q8, .ref q10, .null, .null, .null, .null])), (q2, aZ cI 252), (q4, aZ cI 71), (q6, aZ cI 336), (q8, aZ cI 336), (q10, aZ cI 336)] H := hP
  have hD : va_D A [(h0, .inr (2, [.int 0, .int 0, .int 0, .ref q2, .ref q4, .ref q6, .ref q8, .ref q10, .null, .null, .null, .null])), (q2, aZ cI 252), (q4, aZ cI 71), (q6, aZ cI 336), (q8, aZ cI 336), (q10, aZ cI 336)] := hD
  refine lv_aload_n hx hb (dec_at dX2_init 32) rfl (lv_at hl 0 rfl) ?_
  refine lv_iconst (v := 2) hx hb (dec_at dX2_init 33) (by decide) ?_
  refine lv_iload_n hx hb (dec_at dX2_init 34) rfl (lv_at hl 3 rfl) ?_
  refine lv_imul hx hb (dec_at dX2_init 35) ?_
  refine lv_topi (fun y11 ey11 => ?_)
  obtain rfl : y11 = 336 := ey11.trans (by decide)
  refine n_newa (N' := 336) hx hb hts hK rfl hP hD hS hA (by decide) (by decide) (Nat.le_of_ble_eq_true rfl) (Nat.le_of_ble_eq_true rfl) (Nat.le_of_ble_eq_true rfl) (dec_at dX2_init 36) (fun q12 H hP hD hS => ?_)
  have hP : va_P G vwCl [(h0, .inr (2, [.int 0, .int 0, .int 0, .ref q2, .ref q4, .ref q6, .ref q8, .ref q10, .null, .null, .null, .null])), (q2, aZ cI 252), (q4, aZ cI 71), (q6, aZ cI 336), (q8, aZ cI 336), (q10, aZ cI 336), (q12, aZ cI 336)] H := hP
  have hD : va_D A [(h0, .inr (2, [.int 0, .int 0, .int 0, .ref q2, .ref q4, .ref q6, .ref q8, .ref q10, .null, .null, .null, .null])), (q2, aZ cI 252), (q4, aZ cI 71), (q6, aZ cI 336), (q8, aZ cI 336), (q10, aZ cI 336), (q12, aZ cI 336)] := hD
  refine W.widen (k := 6) (n := 1667) (Nat.le_of_ble_eq_true rfl) (Nat.le_of_ble_eq_true rfl) ?_
  refine va_putF (D := G) (ci := 2) (v := .ref q12) (ty := .array .int) (C := RX2) (T := TX2) (N := 12) hx hb hts inX2 tyX2 tyX2_ok nmX2 hown hK hP hD hS 0 rfl rfl 8 (by decide) (hts _ (Gw_t1 71 rfl rfl)) (fun _ h9 => h9) rfl hin rfl (by decide +kernel) rfl rfl (Nat.le_of_ble_eq_true rfl) (dec_at dX2_init 37) (fun H locs hP hD hS => ?_)
  have hP : va_P G vwCl [(h0, .inr (2, [.int 0, .int 0, .int 0, .ref q2, .ref q4, .ref q6, .ref q8, .ref q10, .ref q12, .null, .null, .null])), (q2, aZ cI 252), (q4, aZ cI 71), (q6, aZ cI 336), (q8, aZ cI 336), (q10, aZ cI 336), (q12, aZ cI 336)] H := hP
  have hD : va_D A [(h0, .inr (2, [.int 0, .int 0, .int 0, .ref q2, .ref q4, .ref q6, .ref q8, .ref q10, .ref q12, .null, .null, .null])), (q2, aZ cI 252), (q4, aZ cI 71), (q6, aZ cI 336), (q8, aZ cI 336), (q10, aZ cI 336), (q12, aZ cI 336)] := hD
  refine lv_aload_n hx hb (dec_at dX2_init 38) rfl (lv_at hl 0 rfl) ?_
  refine lv_iload_n hx hb (dec_at dX2_init 39) rfl (lv_at hl 3 rfl) ?_
  refine n_newa (N' := 168) hx hb hts hK rfl hP hD hS hA (by decide) (by decide) (Nat.le_of_ble_eq_true rfl) (Nat.le_of_ble_eq_true rfl) (Nat.le_of_ble_eq_true rfl) (dec_at dX2_init 40) (fun q13 H hP hD hS => ?_)
  have hP : va_P G vwCl [(h0, .inr (2, [.int 0, .int 0, .int 0, .ref q2, .ref q4, .ref q6, .ref q8, .ref q10, .ref q12, .null, .null, .null])), (q2, aZ cI 252), (q4, aZ cI 71), (q6, aZ cI 336), (q8, aZ cI 336), (q10, aZ cI 336), (q12, aZ cI 336), (q13, aZ cI 168)] H := hP
  have hD : va_D A [(h0, .inr (2, [.int 0, .int 0, .int 0, .ref q2, .ref q4, .ref q6, .ref q8, .ref q10, .ref q12, .null, .null, .null])), (q2, aZ cI 252), (q4, aZ cI 71), (q6, aZ cI 336), (q8, aZ cI 336), (q10, aZ cI 336), (q12, aZ cI 336), (q13, aZ cI 168)] := hD
  refine W.widen (k := 7) (n := 1835) (Nat.le_of_ble_eq_true rfl) (Nat.le_of_ble_eq_true rfl) ?_
  refine va_putF (D := G) (ci := 2) (v := .ref q13) (ty := .array .int) (C := RX2) (T := TX2) (N := 12) hx hb hts inX2 tyX2 tyX2_ok nmX2 hown hK hP hD hS 0 rfl rfl 9 (by decide) (hts _ (Gw_t1 72 rfl rfl)) (fun _ h9 => h9) rfl hin rfl (by decide +kernel) rfl rfl (Nat.le_of_ble_eq_true rfl) (dec_at dX2_init 41) (fun H locs hP hD hS => ?_)
  have hP : va_P G vwCl [(h0, .inr (2, [.int 0, .int 0, .int 0, .ref q2, .ref q4, .ref q6, .ref q8, .ref q10, .ref q12, .ref q13, .null, .null])), (q2, aZ cI 252), (q4, aZ cI 71), (q6, aZ cI 336), (q8, aZ cI 336), (q10, aZ cI 336), (q12, aZ cI 336), (q13, aZ cI 168)] H := hP
  have hD : va_D A [(h0, .inr (2, [.int 0, .int 0, .int 0, .ref q2, .ref q4, .ref q6, .ref q8, .ref q10, .ref q12, .ref q13, .null, .null])), (q2, aZ cI 252), (q4, aZ cI 71), (q6, aZ cI 336), (q8, aZ cI 336), (q10, aZ cI 336), (q12, aZ cI 336), (q13, aZ cI 168)] := hD
  refine lv_aload_n hx hb (dec_at dX2_init 42) rfl (lv_at hl 0 rfl) ?_
  refine lv_iload_n hx hb (dec_at dX2_init 43) rfl (lv_at hl 1 rfl) ?_
  refine n_newa (N' := 84) hx hb hts hK rfl hP hD hS hA (by decide) (by decide) (Nat.le_of_ble_eq_true rfl) (Nat.le_of_ble_eq_true rfl) (Nat.le_of_ble_eq_true rfl) (dec_at dX2_init 44) (fun q14 H hP hD hS => ?_)
  have hP : va_P G vwCl [(h0, .inr (2, [.int 0, .int 0, .int 0, .ref q2, .ref q4, .ref q6, .ref q8, .ref q10, .ref q12, .ref q13, .null, .null])), (q2, aZ cI 252), (q4, aZ cI 71), (q6, aZ cI 336), (q8, aZ cI 336), (q10, aZ cI 336), (q12, aZ cI 336), (q13, aZ cI 168), (q14, aZ cI 84)] H := hP
  have hD : va_D A [(h0, .inr (2, [.int 0, .int 0, .int 0, .ref q2, .ref q4, .ref q6, .ref q8, .ref q10, .ref q12, .ref q13, .null, .null])), (q2, aZ cI 252), (q4, aZ cI 71), (q6, aZ cI 336), (q8, aZ cI 336), (q10, aZ cI 336), (q12, aZ cI 336), (q13, aZ cI 168), (q14, aZ cI 84)] := hD
  refine W.widen (k := 8) (n := 1919) (Nat.le_of_ble_eq_true rfl) (Nat.le_of_ble_eq_true rfl) ?_
  refine va_putF (D := G) (ci := 2) (v := .ref q14) (ty := .array .int) (C := RX2) (T := TX2) (N := 12) hx hb hts inX2 tyX2 tyX2_ok nmX2 hown hK hP hD hS 0 rfl rfl 10 (by decide) (hts _ (Gw_t1 73 rfl rfl)) (fun _ h9 => h9) rfl hin rfl (by decide +kernel) rfl rfl (Nat.le_of_ble_eq_true rfl) (dec_at dX2_init 45) (fun H locs hP hD hS => ?_)
  have hP : va_P G vwCl [(h0, .inr (2, [.int 0, .int 0, .int 0, .ref q2, .ref q4, .ref q6, .ref q8, .ref q10, .ref q12, .ref q13, .ref q14, .null])), (q2, aZ cI 252), (q4, aZ cI 71), (q6, aZ cI 336), (q8, aZ cI 336), (q10, aZ cI 336), (q12, aZ cI 336), (q13, aZ cI 168), (q14, aZ cI 84)] H := hP
  have hD : va_D A [(h0, .inr (2, [.int 0, .int 0, .int 0, .ref q2, .ref q4, .ref q6, .ref q8, .ref q10, .ref q12, .ref q13, .ref q14, .null])), (q2, aZ cI 252), (q4, aZ cI 71), (q6, aZ cI 336), (q8, aZ cI 336), (q10, aZ cI 336), (q12, aZ cI 336), (q13, aZ cI 168), (q14, aZ cI 84)] := hD
  refine lv_aload_n hx hb (dec_at dX2_init 46) rfl (lv_at hl 0 rfl) ?_
  refine lv_iload_n hx hb (dec_at dX2_init 47) rfl (lv_at hl 1 rfl) ?_
  refine n_newa (N' := 84) hx hb hts hK rfl hP hD hS hA (by decide) (by decide) (Nat.le_of_ble_eq_true rfl) (Nat.le_of_ble_eq_true rfl) (Nat.le_of_ble_eq_true rfl) (dec_at dX2_init 48) (fun q15 H hP hD hS => ?_)
  have hP : va_P G vwCl [(h0, .inr (2, [.int 0, .int 0, .int 0, .ref q2, .ref q4, .ref q6, .ref q8, .ref q10, .ref q12, .ref q13, .ref q14, .null])), (q2, aZ cI 252), (q4, aZ cI 71), (q6, aZ cI 336), (q8, aZ cI 336), (q10, aZ cI 336), (q12, aZ cI 336), (q13, aZ cI 168), (q14, aZ cI 84), (q15, aZ cI 84)] H := hP
  have hD : va_D A [(h0, .inr (2, [.int 0, .int 0, .int 0, .ref q2, .ref q4, .ref q6, .ref q8, .ref q10, .ref q12, .ref q13, .ref q14, .null])), (q2, aZ cI 252), (q4, aZ cI 71), (q6, aZ cI 336), (q8, aZ cI 336), (q10, aZ cI 336), (q12, aZ cI 336), (q13, aZ cI 168), (q14, aZ cI 84), (q15, aZ cI 84)] := hD
  refine W.widen (k := 9) (n := 2003) (Nat.le_of_ble_eq_true rfl) (Nat.le_of_ble_eq_true rfl) ?_
  refine va_putF (D := G) (ci := 2) (v := .ref q15) (ty := .array .int) (C := RX2) (T := TX2) (N := 12) hx hb hts inX2 tyX2 tyX2_ok nmX2 hown hK hP hD hS 0 rfl rfl 11 (by decide) (hts _ (Gw_t1 75 rfl rfl)) (fun _ h9 => h9) rfl hin rfl (by decide +kernel) rfl rfl (Nat.le_of_ble_eq_true rfl) (dec_at dX2_init 49) (fun H locs hP hD hS => ?_)
  have hP : va_P G vwCl [(h0, .inr (2, [.int 0, .int 0, .int 0, .ref q2, .ref q4, .ref q6, .ref q8, .ref q10, .ref q12, .ref q13, .ref q14, .ref q15])), (q2, aZ cI 252), (q4, aZ cI 71), (q6, aZ cI 336), (q8, aZ cI 336), (q10, aZ cI 336), (q12, aZ cI 336), (q13, aZ cI 168), (q14, aZ cI 84), (q15, aZ cI 84)] H := hP
  have hD : va_D A [(h0, .inr (2, [.int 0, .int 0, .int 0, .ref q2, .ref q4, .ref q6, .ref q8, .ref q10, .ref q12, .ref q13, .ref q14, .ref q15])), (q2, aZ cI 252), (q4, aZ cI 71), (q6, aZ cI 336), (q8, aZ cI 336), (q10, aZ cI 336), (q12, aZ cI 336), (q13, aZ cI 168), (q14, aZ cI 84), (q15, aZ cI 84)] := hD
  have hP9 := hP.sub (ws' := [(h0, .inr (2, [.int 0, .int 0, .int 0, .ref q2, .ref q4, .ref q6, .ref q8, .ref q10, .ref q12, .ref q13, .ref q14, .ref q15])), (q2, aZ cI 252), (q4, aZ cI 71), (q6, aZ cI 336), (q8, aZ cI 336), (q10, aZ cI 336), (q12, aZ cI 336), (q13, aZ cI 168), (q14, aZ cI 84), (q15, aZ cI 84)]) [0, 1, 2, 3, 4, 5, 6, 7, 8, 9] rfl
  have hD9 := hD.sub (ws' := [(h0, .inr (2, [.int 0, .int 0, .int 0, .ref q2, .ref q4, .ref q6, .ref q8, .ref q10, .ref q12, .ref q13, .ref q14, .ref q15])), (q2, aZ cI 252), (q4, aZ cI 71), (q6, aZ cI 336), (q8, aZ cI 336), (q10, aZ cI 336), (q12, aZ cI 336), (q13, aZ cI 168), (q14, aZ cI 84), (q15, aZ cI 84)]) [0, 1, 2, 3, 4, 5, 6, 7, 8, 9] (by decide) rfl
  exact W.vret hx hb hr (fun t ht hW => ⟨⟨(), rfl, trivial, q2, q4, q6, q8, q10, q12, q13, q14, q15, by rw [ht]; exact hP9, hD9⟩, hS.F ht⟩) hS.2.2 (dec_at dX2_init 50)

set_option maxRecDepth 100000 in
set_option maxHeartbeats 8000000 in
theorem k_net3 (l : Launch) (G : va_G) (cI : ClassId) (h0 sz : Nat) : Met l yX2_init (.code yX2_init cX2_init 4 none :: Gw) ({ frames := 2, cells := 9, slots := 4019, locals := 60 }) (va_Pc [.ref h0, .int 168, .int 154, .int 336] (fun U => U.heap.size = sz ∧ va_P G vwCl [(h0, .inr (2, [.int 0, .int 0, .int 0, .null, .null, .null, .null, .null, .null, .null, .null, .null]))] U.heap ∧ va_K G vwCl [(cI, .int)] U ∧ va_D (fun _ => True) [(h0, .inr (2, [.int 0, .int 0, .int 0, .null, .null, .null, .null, .null, .null, .null, .null, .null]))])) (va_Qv (fun (_ : Unit) => True) (fun (_ : Unit) t => ∃ (z0 z1 z2 z3 z4 z5 z6 z7 z8 : Nat), va_P G vwCl [(h0, .inr (2, [.int 0, .int 0, .int 0, .ref z0, .ref z1, .ref z2, .ref z3, .ref z4, .ref z5, .ref z6, .ref z7, .ref z8])), (z0, aZ cI 504), (z1, aZ cI 155), (z2, aZ cI 672), (z3, aZ cI 672), (z4, aZ cI 672), (z5, aZ cI 672), (z6, aZ cI 336), (z7, aZ cI 168), (z8, aZ cI 168)] t.heap ∧ va_D (va_A [(h0, .inr (2, [.int 0, .int 0, .int 0, .null, .null, .null, .null, .null, .null, .null, .null, .null]))] sz) [(h0, .inr (2, [.int 0, .int 0, .int 0, .ref z0, .ref z1, .ref z2, .ref z3, .ref z4, .ref z5, .ref z6, .ref z7, .ref z8])), (z0, aZ cI 504), (z1, aZ cI 155), (z2, aZ cI 672), (z3, aZ cI 672), (z4, aZ cI 672), (z5, aZ cI 672), (z6, aZ cI 336), (z7, aZ cI 168), (z8, aZ cI 168)]) (va_A [(h0, .inr (2, [.int 0, .int 0, .int 0, .null, .null, .null, .null, .null, .null, .null, .null, .null]))] sz)) 9 4019 (va_A [(h0, .inr (2, [.int 0, .int 0, .int 0, .null, .null, .null, .null, .null, .null, .null, .null, .null]))] sz) := by
  refine Met.ofW (cc := cX2_init) (maxL := 4) (ret := none) (by decide +kernel) rfl ?_
  intro p e s m args below meth c s₁ B hml hv
  obtain ⟨rfl, hsz, hP, hK, hD0⟩ := hv
  have hx := B.exec
  have hb := B.bytes
  have hr := B.returns
  have hts : ∀ w ∈ Gw, w.before _ s = true := fun w hw => atoms_spec (ws := .code yX2_init cX2_init 4 none :: Gw) B.pre w (List.mem_cons_of_mem _ hw)
  have hown : s.vm.findClass RX2 = some m.cls := findClass_of_methodNamed B.named
  have hlocks := B.notSynchronized
  have hin : meth.name = "<init>" := (name_of_methodNamed B.named B.method).1
  subst hsz
  have hD := hD0.self (sz := s.heap.size)
  generalize hAe : va_A [(h0, .inr (2, [.int 0, .int 0, .int 0, .null, .null, .null, .null, .null, .null, .null, .null, .null]))] s.heap.size = A at hD ⊢
  have hA : ∀ q : Nat, s.heap.size ≤ q → A q := fun q h => by rw [← hAe]; exact Or.inr h
  have hS : va_S A s.heap s.heap [] := va_S.rf
  have hP : va_P G vwCl [(h0, .inr (2, [.int 0, .int 0, .int 0, .null, .null, .null, .null, .null, .null, .null, .null, .null]))] s.heap := hP
  have hl := lv_entry ([.ref h0, .int 168, .int 154, .int 336]) (n := 4) (Nat.le_of_ble_eq_true rfl)
  rw [lg_entry_eq]
  generalize (lg_sl ([.ref h0, .int 168, .int 154, .int 336]) ++ List.replicate (4 - (lg_sl ([.ref h0, .int 168, .int 154, .int 336])).length) Slot.unset).toArray = ls at hl ⊢
  have hl : lv_has ls 4 [(0, .ref h0), (1, .int 168), (2, .int 154), (3, .int 336)] := hl
  refine lv_aload_n hx hb (dec_at dX2_init 0) rfl (lv_at hl 0 rfl) ?_
  refine W.objInit hx hb hown (hts _ (Gw_t1 49 rfl rfl)) (hts _ (Gw_t1 15 rfl rfl)) (hts _ (Gw_t1 16 rfl rfl)) rfl (by rw [hml]; exact hl.1) rfl (dec_at dX2_init 1) (Nat.le_of_ble_eq_true rfl) (Nat.le_of_ble_eq_true rfl) ?_
  refine W.eq (g2 := F0 m 4 ls []) rfl ?_
  refine lv_aload_n hx hb (dec_at dX2_init 2) rfl (lv_at hl 0 rfl) ?_
  refine lv_iconst (v := 3) hx hb (dec_at dX2_init 3) (by decide) ?_
  refine lv_iload_n hx hb (dec_at dX2_init 4) rfl (lv_at hl 1 rfl) ?_
  refine lv_imul hx hb (dec_at dX2_init 5) ?_
  refine lv_topi (fun y1 ey1 => ?_)
  obtain rfl : y1 = 504 := ey1.trans (by decide)
  refine n_newa (N' := 504) hx hb hts hK rfl hP hD hS hA (by decide) (by decide) (Nat.le_of_ble_eq_true rfl) (Nat.le_of_ble_eq_true rfl) (Nat.le_of_ble_eq_true rfl) (dec_at dX2_init 6) (fun q2 H hP hD hS => ?_)
  have hP : va_P G vwCl [(h0, .inr (2, [.int 0, .int 0, .int 0, .null, .null, .null, .null, .null, .null, .null, .null, .null])), (q2, aZ cI 504)] H := hP
  have hD : va_D A [(h0, .inr (2, [.int 0, .int 0, .int 0, .null, .null, .null, .null, .null, .null, .null, .null, .null])), (q2, aZ cI 504)] := hD
  refine W.widen (k := 1) (n := 504) (Nat.le_of_ble_eq_true rfl) (Nat.le_of_ble_eq_true rfl) ?_
  refine va_putF (D := G) (ci := 2) (v := .ref q2) (ty := .array .int) (C := RX2) (T := TX2) (N := 12) hx hb hts inX2 tyX2 tyX2_ok nmX2 hown hK hP hD hS 0 rfl rfl 3 (by decide) (hts _ (Gw_t1 58 rfl rfl)) (fun _ h9 => h9) rfl hin rfl (by decide +kernel) rfl rfl (Nat.le_of_ble_eq_true rfl) (dec_at dX2_init 7) (fun H locs hP hD hS => ?_)
  have hP : va_P G vwCl [(h0, .inr (2, [.int 0, .int 0, .int 0, .ref q2, .null, .null, .null, .null, .null, .null, .null, .null])), (q2, aZ cI 504)] H := hP
  have hD : va_D A [(h0, .inr (2, [.int 0, .int 0, .int 0, .ref q2, .null, .null, .null, .null, .null, .null, .null, .null])), (q2, aZ cI 504)] := hD
  refine lv_aload_n hx hb (dec_at dX2_init 8) rfl (lv_at hl 0 rfl) ?_
  refine lv_iload_n hx hb (dec_at dX2_init 9) rfl (lv_at hl 2 rfl) ?_
  refine lv_iconst (v := 1) hx hb (dec_at dX2_init 10) (by decide) ?_
  refine lv_iadd hx hb (dec_at dX2_init 11) ?_
  refine lv_topi (fun y3 ey3 => ?_)
  obtain rfl : y3 = 155 := ey3.trans (by decide)
  refine n_newa (N' := 155) hx hb hts hK rfl hP hD hS hA (by decide) (by decide) (Nat.le_of_ble_eq_true rfl) (Nat.le_of_ble_eq_true rfl) (Nat.le_of_ble_eq_true rfl) (dec_at dX2_init 12) (fun q4 H hP hD hS => ?_)
  have hP : va_P G vwCl [(h0, .inr (2, [.int 0, .int 0, .int 0, .ref q2, .null, .null, .null, .null, .null, .null, .null, .null])), (q2, aZ cI 504), (q4, aZ cI 155)] H := hP
  have hD : va_D A [(h0, .inr (2, [.int 0, .int 0, .int 0, .ref q2, .null, .null, .null, .null, .null, .null, .null, .null])), (q2, aZ cI 504), (q4, aZ cI 155)] := hD
  refine W.widen (k := 2) (n := 659) (Nat.le_of_ble_eq_true rfl) (Nat.le_of_ble_eq_true rfl) ?_
  refine va_putF (D := G) (ci := 2) (v := .ref q4) (ty := .array .int) (C := RX2) (T := TX2) (N := 12) hx hb hts inX2 tyX2 tyX2_ok nmX2 hown hK hP hD hS 0 rfl rfl 4 (by decide) (hts _ (Gw_t1 61 rfl rfl)) (fun _ h9 => h9) rfl hin rfl (by decide +kernel) rfl rfl (Nat.le_of_ble_eq_true rfl) (dec_at dX2_init 13) (fun H locs hP hD hS => ?_)
  have hP : va_P G vwCl [(h0, .inr (2, [.int 0, .int 0, .int 0, .ref q2, .ref q4, .null, .null, .null, .null, .null, .null, .null])), (q2, aZ cI 504), (q4, aZ cI 155)] H := hP
  have hD : va_D A [(h0, .inr (2, [.int 0, .int 0, .int 0, .ref q2, .ref q4, .null, .null, .null, .null, .null, .null, .null])), (q2, aZ cI 504), (q4, aZ cI 155)] := hD
  refine lv_aload_n hx hb (dec_at dX2_init 14) rfl (lv_at hl 0 rfl) ?_
  refine lv_iconst (v := 2) hx hb (dec_at dX2_init 15) (by decide) ?_
  refine lv_iload_n hx hb (dec_at dX2_init 16) rfl (lv_at hl 3 rfl) ?_
  refine lv_imul hx hb (dec_at dX2_init 17) ?_
  refine lv_topi (fun y5 ey5 => ?_)
  obtain rfl : y5 = 672 := ey5.trans (by decide)
  refine n_newa (N' := 672) hx hb hts hK rfl hP hD hS hA (by decide) (by decide) (Nat.le_of_ble_eq_true rfl) (Nat.le_of_ble_eq_true rfl) (Nat.le_of_ble_eq_true rfl) (dec_at dX2_init 18) (fun q6 H hP hD hS => ?_)
  have hP : va_P G vwCl [(h0, .inr (2, [.int 0, .int 0, .int 0, .ref q2, .ref q4, .null, .null, .null, .null, .null, .null, .null])), (q2, aZ cI 504), (q4, aZ cI 155), (q6, aZ cI 672)] H := hP
  have hD : va_D A [(h0, .inr (2, [.int 0, .int 0, .int 0, .ref q2, .ref q4, .null, .null, .null, .null, .null, .null, .null])), (q2, aZ cI 504), (q4, aZ cI 155), (q6, aZ cI 672)] := hD
  refine W.widen (k := 3) (n := 1331) (Nat.le_of_ble_eq_true rfl) (Nat.le_of_ble_eq_true rfl) ?_
  refine va_putF (D := G) (ci := 2) (v := .ref q6) (ty := .array .int) (C := RX2) (T := TX2) (N := 12) hx hb hts inX2 tyX2 tyX2_ok nmX2 hown hK hP hD hS 0 rfl rfl 5 (by decide) (hts _ (Gw_t1 64 rfl rfl)) (fun _ h9 => h9) rfl hin rfl (by decide +kernel) rfl rfl (Nat.le_of_ble_eq_true rfl) (dec_at dX2_init 19) (fun H locs hP hD hS => ?_)
  have hP : va_P G vwCl [(h0, .inr (2, [.int 0, .int 0, .int 0, .ref q2, .ref q4, .ref q6, .null, .null, .null, .null, .null, .null])), (q2, aZ cI 504), (q4, aZ cI 155), (q6, aZ cI 672)] H := hP
  have hD : va_D A [(h0, .inr (2, [.int 0, .int 0, .int 0, .ref q2, .ref q4, .ref q6, .null, .null, .null, .null, .null, .null])), (q2, aZ cI 504), (q4, aZ cI 155), (q6, aZ cI 672)] := hD
  refine lv_aload_n hx hb (dec_at dX2_init 20) rfl (lv_at hl 0 rfl) ?_
  refine lv_iconst (v := 2) hx hb (dec_at dX2_init 21) (by decide) ?_
  refine lv_iload_n hx hb (dec_at dX2_init 22) rfl (lv_at hl 3 rfl) ?_
  refine lv_imul hx hb (dec_at dX2_init 23) ?_
  refine lv_topi (fun y7 ey7 => ?_)
  obtain rfl : y7 = 672 := ey7.trans (by decide)
  refine n_newa (N' := 672) hx hb hts hK rfl hP hD hS hA (by decide) (by decide) (Nat.le_of_ble_eq_true rfl) (Nat.le_of_ble_eq_true rfl) (Nat.le_of_ble_eq_true rfl) (dec_at dX2_init 24) (fun q8 H hP hD hS => ?_)
  have hP : va_P G vwCl [(h0, .inr (2, [.int 0, .int 0, .int 0, .ref q2, .ref q4, .ref q6, .null, .null, .null, .null, .null, .null])), (q2, aZ cI 504), (q4, aZ cI 155), (q6, aZ cI 672), (q8, aZ cI 672)] H := hP
  have hD : va_D A [(h0, .inr (2, [.int 0, .int 0, .int 0, .ref q2, .ref q4, .ref q6, .null, .null, .null, .null, .null, .null])), (q2, aZ cI 504), (q4, aZ cI 155), (q6, aZ cI 672), (q8, aZ cI 672)] := hD
  refine W.widen (k := 4) (n := 2003) (Nat.le_of_ble_eq_true rfl) (Nat.le_of_ble_eq_true rfl) ?_
  refine va_putF (D := G) (ci := 2) (v := .ref q8) (ty := .array .int) (C := RX2) (T := TX2) (N := 12) hx hb hts inX2 tyX2 tyX2_ok nmX2 hown hK hP hD hS 0 rfl rfl 6 (by decide) (hts _ (Gw_t1 67 rfl rfl)) (fun _ h9 => h9) rfl hin rfl (by decide +kernel) rfl rfl (Nat.le_of_ble_eq_true rfl) (dec_at dX2_init 25) (fun H locs hP hD hS => ?_)
  have hP : va_P G vwCl [(h0, .inr (2, [.int 0, .int 0, .int 0, .ref q2, .ref q4, .ref q6, .ref q8, .null, .null, .null, .null, .null])), (q2, aZ cI 504), (q4, aZ cI 155), (q6, aZ cI 672), (q8, aZ cI 672)] H := hP
  have hD : va_D A [(h0, .inr (2, [.int 0, .int 0, .int 0, .ref q2, .ref q4, .ref q6, .ref q8, .null, .null, .null, .null, .null])), (q2, aZ cI 504), (q4, aZ cI 155), (q6, aZ cI 672), (q8, aZ cI 672)] := hD
  refine lv_aload_n hx hb (dec_at dX2_init 26) rfl (lv_at hl 0 rfl) ?_
  refine lv_iconst (v := 2) hx hb (dec_at dX2_init 27) (by decide) ?_
  refine lv_iload_n hx hb (dec_at dX2_init 28) rfl (lv_at hl 3 rfl) ?_
  refine lv_imul hx hb (dec_at dX2_init 29) ?_
  refine lv_topi (fun y9 ey9 => ?_)
  obtain rfl : y9 = 672 := ey9.trans (by decide)
  refine n_newa (N' := 672) hx hb hts hK rfl hP hD hS hA (by decide) (by decide) (Nat.le_of_ble_eq_true rfl) (Nat.le_of_ble_eq_true rfl) (Nat.le_of_ble_eq_true rfl) (dec_at dX2_init 30) (fun q10 H hP hD hS => ?_)
  have hP : va_P G vwCl [(h0, .inr (2, [.int 0, .int 0, .int 0, .ref q2, .ref q4, .ref q6, .ref q8, .null, .null, .null, .null, .null])), (q2, aZ cI 504), (q4, aZ cI 155), (q6, aZ cI 672), (q8, aZ cI 672), (q10, aZ cI 672)] H := hP
  have hD : va_D A [(h0, .inr (2, [.int 0, .int 0, .int 0, .ref q2, .ref q4, .ref q6, .ref q8, .null, .null, .null, .null, .null])), (q2, aZ cI 504), (q4, aZ cI 155), (q6, aZ cI 672), (q8, aZ cI 672), (q10, aZ cI 672)] := hD
  refine W.widen (k := 5) (n := 2675) (Nat.le_of_ble_eq_true rfl) (Nat.le_of_ble_eq_true rfl) ?_
  refine va_putF (D := G) (ci := 2) (v := .ref q10) (ty := .array .int) (C := RX2) (T := TX2) (N := 12) hx hb hts inX2 tyX2 tyX2_ok nmX2 hown hK hP hD hS 0 rfl rfl 7 (by decide) (hts _ (Gw_t1 69 rfl rfl)) (fun _ h9 => h9) rfl hin rfl (by decide +kernel) rfl rfl (Nat.le_of_ble_eq_true rfl) (dec_at dX2_init 31) (fun H locs hP hD hS => ?_)
  have hP : va_P G vwCl [(h0, .inr (2, [.int 0, .int 0, .int 0, .ref q2, .ref q4, .ref q6, .ref q8, .ref q10, .null, .null, .null, .null])), (q2, aZ cI 504), (q4, aZ cI 155), (q6, aZ cI 672), (q8, aZ cI 672), (q10, aZ cI 672)] H := hP
  have hD : va_D A [(h0, .inr (2, [.int 0, .int 0, .int 0, .ref q2, .ref q4, .ref q6, .ref q8, .ref q10, .null, .null, .null, .null])), (q2, aZ cI 504), (q4, aZ cI 155), (q6, aZ cI 672), (q8, aZ cI 672), (q10, aZ cI 672)] := hD
  refine lv_aload_n hx hb (dec_at dX2_init 32) rfl (lv_at hl 0 rfl) ?_
  refine lv_iconst (v := 2) hx hb (dec_at dX2_init 33) (by decide) ?_
  refine lv_iload_n hx hb (dec_at dX2_init 34) rfl (lv_at hl 3 rfl) ?_
  refine lv_imul hx hb (dec_at dX2_init 35) ?_
  refine lv_topi (fun y11 ey11 => ?_)
  obtain rfl : y11 = 672 := ey11.trans (by decide)
  refine n_newa (N' := 672) hx hb hts hK rfl hP hD hS hA (by decide) (by decide) (Nat.le_of_ble_eq_true rfl) (Nat.le_of_ble_eq_true rfl) (Nat.le_of_ble_eq_true rfl) (dec_at dX2_init 36) (fun q12 H hP hD hS => ?_)
  have hP : va_P G vwCl [(h0, .inr (2, [.int 0, .int 0, .int 0, .ref q2, .ref q4, .ref q6, .ref q8, .ref q10, .null, .null, .null, .null])), (q2, aZ cI 504), (q4, aZ cI 155), (q6, aZ cI 672), (q8, aZ cI 672), (q10, aZ cI 672), (q12, aZ cI 672)] H := hP
  have hD : va_D A [(h0, .inr (2, [.int 0, .int 0, .int 0, .ref q2, .ref q4, .ref q6, .ref q8, .ref q10, .null, .null, .null, .null])), (q2, aZ cI 504), (q4, aZ cI 155), (q6, aZ cI 672), (q8, aZ cI 672), (q10, aZ cI 672), (q12, aZ cI 672)] := hD
  refine W.widen (k := 6) (n := 3347) (Nat.le_of_ble_eq_true rfl) (Nat.le_of_ble_eq_true rfl) ?_
  refine va_putF (D := G) (ci := 2) (v := .ref q12) (ty := .array .int) (C := RX2) (T := TX2) (N := 12) hx hb hts inX2 tyX2 tyX2_ok nmX2 hown hK hP hD hS 0 rfl rfl 8 (by decide) (hts _ (Gw_t1 71 rfl rfl)) (fun _ h9 => h9) rfl hin rfl (by decide +kernel) rfl rfl (Nat.le_of_ble_eq_true rfl) (dec_at dX2_init 37) (fun H locs hP hD hS => ?_)
  have hP : va_P G vwCl [(h0, .inr (2, [.int 0, .int 0, .int 0, .ref q2, .ref q4, .ref q6, .ref q8, .ref q10, .ref q12, .null, .null, .null])), (q2, aZ cI 504), (q4, aZ cI 155), (q6, aZ cI 672), (q8, aZ cI 672), (q10, aZ cI 672), (q12, aZ cI 672)] H := hP
  have hD : va_D A [(h0, .inr (2, [.int 0, .int 0, .int 0, .ref q2, .ref q4, .ref q6, .ref q8, .ref q10, .ref q12, .null, .null, .null])), (q2, aZ cI 504), (q4, aZ cI 155), (q6, aZ cI 672), (q8, aZ cI 672), (q10, aZ cI 672), (q12, aZ cI 672)] := hD
  refine lv_aload_n hx hb (dec_at dX2_init 38) rfl (lv_at hl 0 rfl) ?_
  refine lv_iload_n hx hb (dec_at dX2_init 39) rfl (lv_at hl 3 rfl) ?_
  refine n_newa (N' := 336) hx hb hts hK rfl hP hD hS hA (by decide) (by decide) (Nat.le_of_ble_eq_true rfl) (Nat.le_of_ble_eq_true rfl) (Nat.le_of_ble_eq_true rfl) (dec_at dX2_init 40) (fun q13 H hP hD hS => ?_)
  have hP : va_P G vwCl [(h0, .inr (2, [.int 0, .int 0, .int 0, .ref q2, .ref q4, .ref q6, .ref q8, .ref q10, .ref q12, .null, .null, .null])), (q2, aZ cI 504), (q4, aZ cI 155), (q6, aZ cI 672), (q8, aZ cI 672), (q10, aZ cI 672), (q12, aZ cI 672), (q13, aZ cI 336)] H := hP
  have hD : va_D A [(h0, .inr (2, [.int 0, .int 0, .int 0, .ref q2, .ref q4, .ref q6, .ref q8, .ref q10, .ref q12, .null, .null, .null])), (q2, aZ cI 504), (q4, aZ cI 155), (q6, aZ cI 672), (q8, aZ cI 672), (q10, aZ cI 672), (q12, aZ cI 672), (q13, aZ cI 336)] := hD
  refine W.widen (k := 7) (n := 3683) (Nat.le_of_ble_eq_true rfl) (Nat.le_of_ble_eq_true rfl) ?_
  refine va_putF (D := G) (ci := 2) (v := .ref q13) (ty := .array .int) (C := RX2) (T := TX2) (N := 12) hx hb hts inX2 tyX2 tyX2_ok nmX2 hown hK hP hD hS 0 rfl rfl 9 (by decide) (hts _ (Gw_t1 72 rfl rfl)) (fun _ h9 => h9) rfl hin rfl (by decide +kernel) rfl rfl (Nat.le_of_ble_eq_true rfl) (dec_at dX2_init 41) (fun H locs hP hD hS => ?_)
  have hP : va_P G vwCl [(h0, .inr (2, [.int 0, .int 0, .int 0, .ref q2, .ref q4, .ref q6, .ref q8, .ref q10, .ref q12, .ref q13, .null, .null])), (q2, aZ cI 504), (q4, aZ cI 155), (q6, aZ cI 672), (q8, aZ cI 672), (q10, aZ cI 672), (q12, aZ cI 672), (q13, aZ cI 336)] H := hP
  have hD : va_D A [(h0, .inr (2, [.int 0, .int 0, .int 0, .ref q2, .ref q4, .ref q6, .ref q8, .ref q10, .ref q12, .ref q13, .null, .null])), (q2, aZ cI 504), (q4, aZ cI 155), (q6, aZ cI 672), (q8, aZ cI 672), (q10, aZ cI 672), (q12, aZ cI 672), (q13, aZ cI 336)] := hD
  refine lv_aload_n hx hb (dec_at dX2_init 42) rfl (lv_at hl 0 rfl) ?_
  refine lv_iload_n hx hb (dec_at dX2_init 43) rfl (lv_at hl 1 rfl) ?_
  refine n_newa (N' := 168) hx hb hts hK rfl hP hD hS hA (by decide) (by decide) (Nat.le_of_ble_eq_true rfl) (Nat.le_of_ble_eq_true rfl) (Nat.le_of_ble_eq_true rfl) (dec_at dX2_init 44) (fun q14 H hP hD hS => ?_)
  have hP : va_P G vwCl [(h0, .inr (2, [.int 0, .int 0, .int 0, .ref q2, .ref q4, .ref q6, .ref q8, .ref q10, .ref q12, .ref q13, .null, .null])), (q2, aZ cI 504), (q4, aZ cI 155), (q6, aZ cI 672), (q8, aZ cI 672), (q10, aZ cI 672), (q12, aZ cI 672), (q13, aZ cI 336), (q14, aZ cI 168)] H := hP
  have hD : va_D A [(h0, .inr (2, [.int 0, .int 0, .int 0, .ref q2, .ref q4, .ref q6, .ref q8, .ref q10, .ref q12, .ref q13, .null, .null])), (q2, aZ cI 504), (q4, aZ cI 155), (q6, aZ cI 672), (q8, aZ cI 672), (q10, aZ cI 672), (q12, aZ cI 672), (q13, aZ cI 336), (q14, aZ cI 168)] := hD
  refine W.widen (k := 8) (n := 3851) (Nat.le_of_ble_eq_true rfl) (Nat.le_of_ble_eq_true rfl) ?_
  refine va_putF (D := G) (ci := 2) (v := .ref q14) (ty := .array .int) (C := RX2) (T := TX2) (N := 12) hx hb hts inX2 tyX2 tyX2_ok nmX2 hown hK hP hD hS 0 rfl rfl 10 (by decide) (hts _ (Gw_t1 73 rfl rfl)) (fun _ h9 => h9) rfl hin rfl (by decide +kernel) rfl rfl (Nat.le_of_ble_eq_true rfl) (dec_at dX2_init 45) (fun H locs hP hD hS => ?_)
  have hP : va_P G vwCl [(h0, .inr (2, [.int 0, .int 0, .int 0, .ref q2, .ref q4, .ref q6, .ref q8, .ref q10, .ref q12, .ref q13, .ref q14, .null])), (q2, aZ cI 504), (q4, aZ cI 155), (q6, aZ cI 672), (q8, aZ cI 672), (q10, aZ cI 672), (q12, aZ cI 672), (q13, aZ cI 336), (q14, aZ cI 168)] H := hP
  have hD : va_D A [(h0, .inr (2, [.int 0, .int 0, .int 0, .ref q2, .ref q4, .ref q6, .ref q8, .ref q10, .ref q12, .ref q13, .ref q14, .null])), (q2, aZ cI 504), (q4, aZ cI 155), (q6, aZ cI 672), (q8, aZ cI 672), (q10, aZ cI 672), (q12, aZ cI 672), (q13, aZ cI 336), (q14, aZ cI 168)] := hD
  refine lv_aload_n hx hb (dec_at dX2_init 46) rfl (lv_at hl 0 rfl) ?_
  refine lv_iload_n hx hb (dec_at dX2_init 47) rfl (lv_at hl 1 rfl) ?_
  refine n_newa (N' := 168) hx hb hts hK rfl hP hD hS hA (by decide) (by decide) (Nat.le_of_ble_eq_true rfl) (Nat.le_of_ble_eq_true rfl) (Nat.le_of_ble_eq_true rfl) (dec_at dX2_init 48) (fun q15 H hP hD hS => ?_)
  have hP : va_P G vwCl [(h0, .inr (2, [.int 0, .int 0, .int 0, .ref q2, .ref q4, .ref q6, .ref q8, .ref q10, .ref q12, .ref q13, .ref q14, .null])), (q2, aZ cI 504), (q4, aZ cI 155), (q6, aZ cI 672), (q8, aZ cI 672), (q10, aZ cI 672), (q12, aZ cI 672), (q13, aZ cI 336), (q14, aZ cI 168), (q15, aZ cI 168)] H := hP
  have hD : va_D A [(h0, .inr (2, [.int 0, .int 0, .int 0, .ref q2, .ref q4, .ref q6, .ref q8, .ref q10, .ref q12, .ref q13, .ref q14, .null])), (q2, aZ cI 504), (q4, aZ cI 155), (q6, aZ cI 672), (q8, aZ cI 672), (q10, aZ cI 672), (q12, aZ cI 672), (q13, aZ cI 336), (q14, aZ cI 168), (q15, aZ cI 168)] := hD
  refine W.widen (k := 9) (n := 4019) (Nat.le_of_ble_eq_true rfl) (Nat.le_of_ble_eq_true rfl) ?_
  refine va_putF (D := G) (ci := 2) (v := .ref q15) (ty := .array .int) (C := RX2) (T := TX2) (N := 12) hx hb hts inX2 tyX2 tyX2_ok nmX2 hown hK hP hD hS 0 rfl rfl 11 (by decide) (hts _ (Gw_t1 75 rfl rfl)) (fun _ h9 => h9) rfl hin rfl (by decide +kernel) rfl rfl (Nat.le_of_ble_eq_true rfl) (dec_at dX2_init 49) (fun H locs hP hD hS => ?_)
  have hP : va_P G vwCl [(h0, .inr (2, [.int 0, .int 0, .int 0, .ref q2, .ref q4, .ref q6, .ref q8, .ref q10, .ref q12, .ref q13, .ref q14, .ref q15])), (q2, aZ cI 504), (q4, aZ cI 155), (q6, aZ cI 672), (q8, aZ cI 672), (q10, aZ cI 672), (q12, aZ cI 672), (q13, aZ cI 336), (q14, aZ cI 168), (q15, aZ cI 168)] H := hP
  have hD : va_D A [(h0, .inr (2, [.int 0, .int 0, .int 0, .ref q2, .ref q4, .ref q6, .ref q8, .ref q10, .ref q12, .ref q13, .ref q14, .ref q15])), (q2, aZ cI 504), (q4, aZ cI 155), (q6, aZ cI 672), (q8, aZ cI 672), (q10, aZ cI 672), (q12, aZ cI 672), (q13, aZ cI 336), (q14, aZ cI 168), (q15, aZ cI 168)] := hD
  have hP9 := hP.sub (ws' := [(h0, .inr (2, [.int 0, .int 0, .int 0, .ref q2, .ref q4, .ref q6, .ref q8, .ref q10, .ref q12, .ref q13, .ref q14, .ref q15])), (q2, aZ cI 504), (q4, aZ cI 155), (q6, aZ cI 672), (q8, aZ cI 672), (q10, aZ cI 672), (q12, aZ cI 672), (q13, aZ cI 336), (q14, aZ cI 168), (q15, aZ cI 168)]) [0, 1, 2, 3, 4, 5, 6, 7, 8, 9] rfl
  have hD9 := hD.sub (ws' := [(h0, .inr (2, [.int 0, .int 0, .int 0, .ref q2, .ref q4, .ref q6, .ref q8, .ref q10, .ref q12, .ref q13, .ref q14, .ref q15])), (q2, aZ cI 504), (q4, aZ cI 155), (q6, aZ cI 672), (q8, aZ cI 672), (q10, aZ cI 672), (q12, aZ cI 672), (q13, aZ cI 336), (q14, aZ cI 168), (q15, aZ cI 168)]) [0, 1, 2, 3, 4, 5, 6, 7, 8, 9] (by decide) rfl
  exact W.vret hx hb hr (fun t ht hW => ⟨⟨(), rfl, trivial, q2, q4, q6, q8, q10, q12, q13, q14, q15, by rw [ht]; exact hP9, hD9⟩, hS.F ht⟩) hS.2.2 (dec_at dX2_init 50)

set_option maxRecDepth 100000 in
set_option maxHeartbeats 8000000 in
theorem k_model (l : Launch) (G : va_G) (cI : ClassId) (h0 sz : Nat) : Met l yX6_init (.code yX6_init cX6_init 1 none :: Gw) ({ frames := 2, cells := 12, slots := 9460, locals := 60 }) (va_Pc [.ref h0] (fun U => U.heap.size = sz ∧ va_P G vwCl [(h0, .inr (6, [.int 0, .int 0, .int 0, .null, .int 0, .int 0, .int 0, .null, .null, .null, .null, .null, .null, .null, .null, .null, .int 0, .int 0, .int 0, .null, .null]))] U.heap ∧ va_K G vwCl [(cI, .int)] U ∧ va_D (fun _ => True) [(h0, .inr (6, [.int 0, .int 0, .int 0, .null, .int 0, .int 0, .int 0, .null, .null, .null, .null, .null, .null, .null, .null, .null, .int 0, .int 0, .int 0, .null, .null]))])) (va_Qv (fun (_ : Unit) => True) (fun (_ : Unit) t => ∃ (z0 z1 z2 z3 z4 z5 z6 z7 z8 z9 z10 z11 : Nat), va_P G vwCl [(h0, .inr (6, [.int 0, .int (-1), .int 0, .ref z0, .int 1, .int 0, .int 0, .ref z1, .ref z2, .ref z3, .ref z4, .ref z5, .ref z6, .ref z7, .ref z8, .ref z9, .int 0, .int 0, .int 0, .ref z10, .ref z11])), (z0, aZ cI 8), (z1, aZ cI 4), (z2, aZ cI 4), (z3, aZ cI 4), (z4, aZ cI 2400), (z5, aZ cI 640), (z6, aZ cI 640), (z7, aZ cI 2800), (z8, aZ cI 1400), (z9, aZ cI 1400), (z10, aZ cI 40), (z11, aZ cI 120)] t.heap ∧ va_D (va_A [(h0, .inr (6, [.int 0, .int 0, .int 0, .null, .int 0, .int 0, .int 0, .null, .null, .null, .null, .null, .null, .null, .null, .null, .int 0, .int 0, .int 0, .null, .null]))] sz) [(h0, .inr (6, [.int 0, .int (-1), .int 0, .ref z0, .int 1, .int 0, .int 0, .ref z1, .ref z2, .ref z3, .ref z4, .ref z5, .ref z6, .ref z7, .ref z8, .ref z9, .int 0, .int 0, .int 0, .ref z10, .ref z11])), (z0, aZ cI 8), (z1, aZ cI 4), (z2, aZ cI 4), (z3, aZ cI 4), (z4, aZ cI 2400), (z5, aZ cI 640), (z6, aZ cI 640), (z7, aZ cI 2800), (z8, aZ cI 1400), (z9, aZ cI 1400), (z10, aZ cI 40), (z11, aZ cI 120)]) (va_A [(h0, .inr (6, [.int 0, .int 0, .int 0, .null, .int 0, .int 0, .int 0, .null, .null, .null, .null, .null, .null, .null, .null, .null, .int 0, .int 0, .int 0, .null, .null]))] sz)) 12 9460 (va_A [(h0, .inr (6, [.int 0, .int 0, .int 0, .null, .int 0, .int 0, .int 0, .null, .null, .null, .null, .null, .null, .null, .null, .null, .int 0, .int 0, .int 0, .null, .null]))] sz) := by
  refine Met.ofW (cc := cX6_init) (maxL := 1) (ret := none) (by decide +kernel) rfl ?_
  intro p e s m args below meth c s₁ B hml hv
  obtain ⟨rfl, hsz, hP, hK, hD0⟩ := hv
  have hx := B.exec
  have hb := B.bytes
  have hr := B.returns
  have hts : ∀ w ∈ Gw, w.before _ s = true := fun w hw => atoms_spec (ws := .code yX6_init cX6_init 1 none :: Gw) B.pre w (List.mem_cons_of_mem _ hw)
  have hown : s.vm.findClass RX6 = some m.cls := findClass_of_methodNamed B.named
  have hlocks := B.notSynchronized
  have hin : meth.name = "<init>" := (name_of_methodNamed B.named B.method).1
  subst hsz
  have hD := hD0.self (sz := s.heap.size)
  generalize hAe : va_A [(h0, .inr (6, [.int 0, .int 0, .int 0, .null, .int 0, .int 0, .int 0, .null, .null, .null, .null, .null, .null, .null, .null, .null, .int 0, .int 0, .int 0, .null, .null]))] s.heap.size = A at hD ⊢
  have hA : ∀ q : Nat, s.heap.size ≤ q → A q := fun q h => by rw [← hAe]; exact Or.inr h
  have hS : va_S A s.heap s.heap [] := va_S.rf
  have hP : va_P G vwCl [(h0, .inr (6, [.int 0, .int 0, .int 0, .null, .int 0, .int 0, .int 0, .null, .null, .null, .null, .null, .null, .null, .null, .null, .int 0, .int 0, .int 0, .null, .null]))] s.heap := hP
  have hl := lv_entry ([.ref h0]) (n := 1) (Nat.le_of_ble_eq_true rfl)
  rw [lg_entry_eq]
  generalize (lg_sl ([.ref h0]) ++ List.replicate (1 - (lg_sl ([.ref h0])).length) Slot.unset).toArray = ls at hl ⊢
  have hl : lv_has ls 1 [(0, .ref h0)] := hl
  refine lv_aload_n hx hb (dec_at dX6_init 0) rfl (lv_at hl 0 rfl) ?_
  refine W.objInit hx hb hown (hts _ (Gw_t3 81 rfl rfl)) (hts _ (Gw_t1 15 rfl rfl)) (hts _ (Gw_t1 16 rfl rfl)) rfl (by rw [hml]; exact hl.1) rfl (dec_at dX6_init 1) (Nat.le_of_ble_eq_true rfl) (Nat.le_of_ble_eq_true rfl) ?_
  refine W.eq (g2 := F0 m 4 ls []) rfl ?_
  refine lv_aload_n hx hb (dec_at dX6_init 2) rfl (lv_at hl 0 rfl) ?_
  refine lv_bipush (v := 8) hx hb (dec_at dX6_init 3) (by decide) ?_
  refine n_newa (N' := 8) hx hb hts hK rfl hP hD hS hA (by decide) (by decide) (Nat.le_of_ble_eq_true rfl) (Nat.le_of_ble_eq_true rfl) (Nat.le_of_ble_eq_true rfl) (dec_at dX6_init 4) (fun q1 H hP hD hS => ?_)
  have hP : va_P G vwCl [(h0, .inr (6, [.int 0, .int 0, .int 0, .null, .int 0, .int 0, .int 0, .null, .null, .null, .null, .null, .null, .null, .null, .null, .int 0, .int 0, .int 0, .null, .null])), (q1, aZ cI 8)] H := hP
  have hD : va_D A [(h0, .inr (6, [.int 0, .int 0, .int 0, .null, .int 0, .int 0, .int 0, .null, .null, .null, .null, .null, .null, .null, .null, .null, .int 0, .int 0, .int 0, .null, .null])), (q1, aZ cI 8)] := hD
  refine W.widen (k := 1) (n := 8) (Nat.le_of_ble_eq_true rfl) (Nat.le_of_ble_eq_true rfl) ?_
  refine va_putF (D := G) (ci := 6) (v := .ref q1) (ty := .array .int) (C := RX6) (T := TX6) (N := 21) hx hb hts inX6 tyX6 tyX6_ok nmX6 hown hK hP hD hS 0 rfl rfl 3 (by decide) (hts _ (Gw_t3 85 rfl rfl)) (fun _ h9 => h9) rfl hin rfl (by decide +kernel) rfl rfl (Nat.le_of_ble_eq_true rfl) (dec_at dX6_init 5) (fun H locs hP hD hS => ?_)
  have hP : va_P G vwCl [(h0, .inr (6, [.int 0, .int 0, .int 0, .ref q1, .int 0, .int 0, .int 0, .null, .null, .null, .null, .null, .null, .null, .null, .null, .int 0, .int 0, .int 0, .null, .null])), (q1, aZ cI 8)] H := hP
  have hD : va_D A [(h0, .inr (6, [.int 0, .int 0, .int 0, .ref q1, .int 0, .int 0, .int 0, .null, .null, .null, .null, .null, .null, .null, .null, .null, .int 0, .int 0, .int 0, .null, .null])), (q1, aZ cI 8)] := hD
  refine lv_aload_n hx hb (dec_at dX6_init 6) rfl (lv_at hl 0 rfl) ?_
  refine lv_iconst (v := 4) hx hb (dec_at dX6_init 7) (by decide) ?_
  refine n_newa (N' := 4) hx hb hts hK rfl hP hD hS hA (by decide) (by decide) (Nat.le_of_ble_eq_true rfl) (Nat.le_of_ble_eq_true rfl) (Nat.le_of_ble_eq_true rfl) (dec_at dX6_init 8) (fun q2 H hP hD hS => ?_)
  have hP : va_P G vwCl [(h0, .inr (6, [.int 0, .int 0, .int 0, .ref q1, .int 0, .int 0, .int 0, .null, .null, .null, .null, .null, .null, .null, .null, .null, .int 0, .int 0, .int 0, .null, .null])), (q1, aZ cI 8), (q2, aZ cI 4)] H := hP
  have hD : va_D A [(h0, .inr (6, [.int 0, .int 0, .int 0, .ref q1, .int 0, .int 0, .int 0, .null, .null, .null, .null, .null, .null, .null, .null, .null, .int 0, .int 0, .int 0, .null, .null])), (q1, aZ cI 8), (q2, aZ cI 4)] := hD
  refine W.widen (k := 2) (n := 12) (Nat.le_of_ble_eq_true rfl) (Nat.le_of_ble_eq_true rfl) ?_
  refine va_putF (D := G) (ci := 6) (v := .ref q2) (ty := .array .int) (C := RX6) (T := TX6) (N := 21) hx hb hts inX6 tyX6 tyX6_ok nmX6 hown hK hP hD hS 0 rfl rfl 7 (by decide) (hts _ (Gw_t3 89 rfl rfl)) (fun _ h9 => h9) rfl hin rfl (by decide +kernel) rfl rfl (Nat.le_of_ble_eq_true rfl) (dec_at dX6_init 9) (fun H locs hP hD hS => ?_)
  have hP : va_P G vwCl [(h0, .inr (6, [.int 0, .int 0, .int 0, .ref q1, .int 0, .int 0, .int 0, .ref q2, .null, .null, .null, .null, .null, .null, .null, .null, .int 0, .int 0, .int 0, .null, .null])), (q1, aZ cI 8), (q2, aZ cI 4)] H := hP
  have hD : va_D A [(h0, .inr (6, [.int 0, .int 0, .int 0, .ref q1, .int 0, .int 0, .int 0, .ref q2, .null, .null, .null, .null, .null, .null, .null, .null, .int 0, .int 0, .int 0, .null, .null])), (q1, aZ cI 8), (q2, aZ cI 4)] := hD
  refine lv_aload_n hx hb (dec_at dX6_init 10) rfl (lv_at hl 0 rfl) ?_
  refine lv_iconst (v := 4) hx hb (dec_at dX6_init 11) (by decide) ?_
  refine n_newa (N' := 4) hx hb hts hK rfl hP hD hS hA (by decide) (by decide) (Nat.le_of_ble_eq_true rfl) (Nat.le_of_ble_eq_true rfl) (Nat.le_of_ble_eq_true rfl) (dec_at dX6_init 12) (fun q3 H hP hD hS => ?_)
  have hP : va_P G vwCl [(h0, .inr (6, [.int 0, .int 0, .int 0, .ref q1, .int 0, .int 0, .int 0, .ref q2, .null, .null, .null, .null, .null, .null, .null, .null, .int 0, .int 0, .int 0, .null, .null])), (q1, aZ cI 8), (q2, aZ cI 4), (q3, aZ cI 4)] H := hP
  have hD : va_D A [(h0, .inr (6, [.int 0, .int 0, .int 0, .ref q1, .int 0, .int 0, .int 0, .ref q2, .null, .null, .null, .null, .null, .null, .null, .null, .int 0, .int 0, .int 0, .null, .null])), (q1, aZ cI 8), (q2, aZ cI 4), (q3, aZ cI 4)] := hD
  refine W.widen (k := 3) (n := 16) (Nat.le_of_ble_eq_true rfl) (Nat.le_of_ble_eq_true rfl) ?_
  refine va_putF (D := G) (ci := 6) (v := .ref q3) (ty := .array .int) (C := RX6) (T := TX6) (N := 21) hx hb hts inX6 tyX6 tyX6_ok nmX6 hown hK hP hD hS 0 rfl rfl 8 (by decide) (hts _ (Gw_t3 90 rfl rfl)) (fun _ h9 => h9) rfl hin rfl (by decide +kernel) rfl rfl (Nat.le_of_ble_eq_true rfl) (dec_at dX6_init 13) (fun H locs hP hD hS => ?_)
  have hP : va_P G vwCl [(h0, .inr (6, [.int 0, .int 0, .int 0, .ref q1, .int 0, .int 0, .int 0, .ref q2, .ref q3, .null, .null, .null, .null, .null, .null, .null, .int 0, .int 0, .int 0, .null, .null])), (q1, aZ cI 8), (q2, aZ cI 4), (q3, aZ cI 4)] H := hP
  have hD : va_D A [(h0, .inr (6, [.int 0, .int 0, .int 0, .ref q1, .int 0, .int 0, .int 0, .ref q2, .ref q3, .null, .null, .null, .null, .null, .null, .null, .int 0, .int 0, .int 0, .null, .null])), (q1, aZ cI 8), (q2, aZ cI 4), (q3, aZ cI 4)] := hD
  refine lv_aload_n hx hb (dec_at dX6_init 14) rfl (lv_at hl 0 rfl) ?_
  refine lv_iconst (v := 4) hx hb (dec_at dX6_init 15) (by decide) ?_
  refine n_newa (N' := 4) hx hb hts hK rfl hP hD hS hA (by decide) (by decide) (Nat.le_of_ble_eq_true rfl) (Nat.le_of_ble_eq_true rfl) (Nat.le_of_ble_eq_true rfl) (dec_at dX6_init 16) (fun q4 H hP hD hS => ?_)
  have hP : va_P G vwCl [(h0, .inr (6, [.int 0, .int 0, .int 0, .ref q1, .int 0, .int 0, .int 0, .ref q2, .ref q3, .null, .null, .null, .null, .null, .null, .null, .int 0, .int 0, .int 0, .null, .null])), (q1, aZ cI 8), (q2, aZ cI 4), (q3, aZ cI 4), (q4, aZ cI 4)] H := hP
  have hD : va_D A [(h0, .inr (6, [.int 0, .int 0, .int 0, .ref q1, .int 0, .int 0, .int 0, .ref q2, .ref q3, .null, .null, .null, .null, .null, .null, .null, .int 0, .int 0, .int 0, .null, .null])), (q1, aZ cI 8), (q2, aZ cI 4), (q3, aZ cI 4), (q4, aZ cI 4)] := hD
  refine W.widen (k := 4) (n := 20) (Nat.le_of_ble_eq_true rfl) (Nat.le_of_ble_eq_true rfl) ?_
  refine va_putF (D := G) (ci := 6) (v := .ref q4) (ty := .array .int) (C := RX6) (T := TX6) (N := 21) hx hb hts inX6 tyX6 tyX6_ok nmX6 hown hK hP hD hS 0 rfl rfl 9 (by decide) (hts _ (Gw_t3 91 rfl rfl)) (fun _ h9 => h9) rfl hin rfl (by decide +kernel) rfl rfl (Nat.le_of_ble_eq_true rfl) (dec_at dX6_init 17) (fun H locs hP hD hS => ?_)
  have hP : va_P G vwCl [(h0, .inr (6, [.int 0, .int 0, .int 0, .ref q1, .int 0, .int 0, .int 0, .ref q2, .ref q3, .ref q4, .null, .null, .null, .null, .null, .null, .int 0, .int 0, .int 0, .null, .null])), (q1, aZ cI 8), (q2, aZ cI 4), (q3, aZ cI 4), (q4, aZ cI 4)] H := hP
  have hD : va_D A [(h0, .inr (6, [.int 0, .int 0, .int 0, .ref q1, .int 0, .int 0, .int 0, .ref q2, .ref q3, .ref q4, .null, .null, .null, .null, .null, .null, .int 0, .int 0, .int 0, .null, .null])), (q1, aZ cI 8), (q2, aZ cI 4), (q3, aZ cI 4), (q4, aZ cI 4)] := hD
  refine lv_aload_n hx hb (dec_at dX6_init 18) rfl (lv_at hl 0 rfl) ?_
  refine lv_sipush (v := 2400) hx hb (dec_at dX6_init 19) (by decide) ?_
  refine n_newa (N' := 2400) hx hb hts hK rfl hP hD hS hA (by decide) (by decide) (Nat.le_of_ble_eq_true rfl) (Nat.le_of_ble_eq_true rfl) (Nat.le_of_ble_eq_true rfl) (dec_at dX6_init 20) (fun q5 H hP hD hS => ?_)
  have hP : va_P G vwCl [(h0, .inr (6, [.int 0, .int 0, .int 0, .ref q1, .int 0, .int 0, .int 0, .ref q2, .ref q3, .ref q4, .null, .null, .null, .null, .null, .null, .int 0, .int 0, .int 0, .null, .null])), (q1, aZ cI 8), (q2, aZ cI 4), (q3, aZ cI 4), (q4, aZ cI 4), (q5, aZ cI 2400)] H := hP
  have hD : va_D A [(h0, .inr (6, [.int 0, .int 0, .int 0, .ref q1, .int 0, .int 0, .int 0, .ref q2, .ref q3, .ref q4, .null, .null, .null, .null, .null, .null, .int 0, .int 0, .int 0, .null, .null])), (q1, aZ cI 8), (q2, aZ cI 4), (q3, aZ cI 4), (q4, aZ cI 4), (q5, aZ cI 2400)] := hD
  refine W.widen (k := 5) (n := 2420) (Nat.le_of_ble_eq_true rfl) (Nat.le_of_ble_eq_true rfl) ?_
  refine va_putF (D := G) (ci := 6) (v := .ref q5) (ty := .array .int) (C := RX6) (T := TX6) (N := 21) hx hb hts inX6 tyX6 tyX6_ok nmX6 hown hK hP hD hS 0 rfl rfl 10 (by decide) (hts _ (Gw_t3 92 rfl rfl)) (fun _ h9 => h9) rfl hin rfl (by decide +kernel) rfl rfl (Nat.le_of_ble_eq_true rfl) (dec_at dX6_init 21) (fun H locs hP hD hS => ?_)
  have hP : va_P G vwCl [(h0, .inr (6, [.int 0, .int 0, .int 0, .ref q1, .int 0, .int 0, .int 0, .ref q2, .ref q3, .ref q4, .ref q5, .null, .null, .null, .null, .null, .int 0, .int 0, .int 0, .null, .null])), (q1, aZ cI 8), (q2, aZ cI 4), (q3, aZ cI 4), (q4, aZ cI 4), (q5, aZ cI 2400)] H := hP
  have hD : va_D A [(h0, .inr (6, [.int 0, .int 0, .int 0, .ref q1, .int 0, .int 0, .int 0, .ref q2, .ref q3, .ref q4, .ref q5, .null, .null, .null, .null, .null, .int 0, .int 0, .int 0, .null, .null])), (q1, aZ cI 8), (q2, aZ cI 4), (q3, aZ cI 4), (q4, aZ cI 4), (q5, aZ cI 2400)] := hD
  refine lv_aload_n hx hb (dec_at dX6_init 22) rfl (lv_at hl 0 rfl) ?_
  refine lv_sipush (v := 640) hx hb (dec_at dX6_init 23) (by decide) ?_
  refine n_newa (N' := 640) hx hb hts hK rfl hP hD hS hA (by decide) (by decide) (Nat.le_of_ble_eq_true rfl) (Nat.le_of_ble_eq_true rfl) (Nat.le_of_ble_eq_true rfl) (dec_at dX6_init 24) (fun q6 H hP hD hS => ?_)
  have hP : va_P G vwCl [(h0, .inr (6, [.int 0, .int 0, .int 0, .ref q1, .int 0, .int 0, .int 0, .ref q2, .ref q3, .ref q4, .ref q5, .null, .null, .null, .null, .null, .int 0, .int 0, .int 0, .null, .null])), (q1, aZ cI 8), (q2, aZ cI 4), (q3, aZ cI 4), (q4, aZ cI 4), (q5, aZ cI 2400), (q6, aZ cI 640)] H := hP
  have hD : va_D A [(h0, .inr (6, [.int 0, .int 0, .int 0, .ref q1, .int 0, .int 0, .int 0, .ref q2, .ref q3, .ref q4, .ref q5, .null, .null, .null, .null, .null, .int 0, .int 0, .int 0, .null, .null])), (q1, aZ cI 8), (q2, aZ cI 4), (q3, aZ cI 4), (q4, aZ cI 4), (q5, aZ cI 2400), (q6, aZ cI 640)] := hD
  refine W.widen (k := 6) (n := 3060) (Nat.le_of_ble_eq_true rfl) (Nat.le_of_ble_eq_true rfl) ?_
  refine va_putF (D := G) (ci := 6) (v := .ref q6) (ty := .array .int) (C := RX6) (T := TX6) (N := 21) hx hb hts inX6 tyX6 tyX6_ok nmX6 hown hK hP hD hS 0 rfl rfl 11 (by decide) (hts _ (Gw_t3 93 rfl rfl)) (fun _ h9 => h9) rfl hin rfl (by decide +kernel) rfl rfl (Nat.le_of_ble_eq_true rfl) (dec_at dX6_init 25) (fun H locs hP hD hS => ?_)
  have hP : va_P G vwCl [(h0, .inr (6, [.int 0, .int 0, .int 0, .ref q1, .int 0, .int 0, .int 0, .ref q2, .ref q3, .ref q4, .ref q5, .ref q6, .null, .null, .null, .null, .int 0, .int 0, .int 0, .null, .null])), (q1, aZ cI 8), (q2, aZ cI 4), (q3, aZ cI 4), (q4, aZ cI 4), (q5, aZ cI 2400), (q6, aZ cI 640)] H := hP
  have hD : va_D A [(h0, .inr (6, [.int 0, .int 0, .int 0, .ref q1, .int 0, .int 0, .int 0, .ref q2, .ref q3, .ref q4, .ref q5, .ref q6, .null, .null, .null, .null, .int 0, .int 0, .int 0, .null, .null])), (q1, aZ cI 8), (q2, aZ cI 4), (q3, aZ cI 4), (q4, aZ cI 4), (q5, aZ cI 2400), (q6, aZ cI 640)] := hD
  refine lv_aload_n hx hb (dec_at dX6_init 26) rfl (lv_at hl 0 rfl) ?_
  refine lv_sipush (v := 640) hx hb (dec_at dX6_init 27) (by decide) ?_
  refine n_newa (N' := 640) hx hb hts hK rfl hP hD hS hA (by decide) (by decide) (Nat.le_of_ble_eq_true rfl) (Nat.le_of_ble_eq_true rfl) (Nat.le_of_ble_eq_true rfl) (dec_at dX6_init 28) (fun q7 H hP hD hS => ?_)
  have hP : va_P G vwCl [(h0, .inr (6, [.int 0, .int 0, .int 0, .ref q1, .int 0, .int 0, .int 0, .ref q2, .ref q3, .ref q4, .ref q5, .ref q6, .null, .null, .null, .null, .int 0, .int 0, .int 0, .null, .null])), (q1, aZ cI 8), (q2, aZ cI 4), (q3, aZ cI 4), (q4, aZ cI 4), (q5, aZ cI 2400), (q6, aZ cI 640), (q7, aZ cI 640)] H := hP
  have hD : va_D A [(h0, .inr (6, [.int 0, .int 0, .int 0, .ref q1, .int 0, .int 0, .int 0, .ref q2, .ref q3, .ref q4, .ref q5, .ref q6, .null, .null, .null, .null, .int 0, .int 0, .int 0, .null, .null])), (q1, aZ cI 8), (q2, aZ cI 4), (q3, aZ cI 4), (q4, aZ cI 4), (q5, aZ cI 2400), (q6, aZ cI 640), (q7, aZ cI 640)] := hD
  refine W.widen (k := 7) (n := 3700) (Nat.le_of_ble_eq_true rfl) (Nat.le_of_ble_eq_true rfl) ?_
  refine va_putF (D := G) (ci := 6) (v := .ref q7) (ty := .array .int) (C := RX6) (T := TX6) (N := 21) hx hb hts inX6 tyX6 tyX6_ok nmX6 hown hK hP hD hS 0 rfl rfl 12 (by decide) (hts _ (Gw_t3 94 rfl rfl)) (fun _ h9 => h9) rfl hin rfl (by decide +kernel) rfl rfl (Nat.le_of_ble_eq_true rfl) (dec_at dX6_init 29) (fun H locs hP hD hS => ?_)
  have hP : va_P G vwCl [(h0, .inr (6, [.int 0, .int 0, .int 0, .ref q1, .int 0, .int 0, .int 0, .ref q2, .ref q3, .ref q4, .ref q5, .ref q6, .ref q7, .null, .null, .null, .int 0, .int 0, .int 0, .null, .null])), (q1, aZ cI 8), (q2, aZ cI 4), (q3, aZ cI 4), (q4, aZ cI 4), (q5, aZ cI 2400), (q6, aZ cI 640), (q7, aZ cI 640)] H := hP
  have hD : va_D A [(h0, .inr (6, [.int 0, .int 0, .int 0, .ref q1, .int 0, .int 0, .int 0, .ref q2, .ref q3, .ref q4, .ref q5, .ref q6, .ref q7, .null, .null, .null, .int 0, .int 0, .int 0, .null, .null])), (q1, aZ cI 8), (q2, aZ cI 4), (q3, aZ cI 4), (q4, aZ cI 4), (q5, aZ cI 2400), (q6, aZ cI 640), (q7, aZ cI 640)] := hD
  refine lv_aload_n hx hb (dec_at dX6_init 30) rfl (lv_at hl 0 rfl) ?_
  refine lv_sipush (v := 2800) hx hb (dec_at dX6_init 31) (by decide) ?_
  refine n_newa (N' := 2800) hx hb hts hK rfl hP hD hS hA (by decide) (by decide) (Nat.le_of_ble_eq_true rfl) (Nat.le_of_ble_eq_true rfl) (Nat.le_of_ble_eq_true rfl) (dec_at dX6_init 32) (fun q8 H hP hD hS => ?_)
  have hP : va_P G vwCl [(h0, .inr (6, [.int 0, .int 0, .int 0, .ref q1, .int 0, .int 0, .int 0, .ref q2, .ref q3, .ref q4, .ref q5, .ref q6, .ref q7, .null, .null, .null, .int 0, .int 0, .int 0, .null, .null])), (q1, aZ cI 8), (q2, aZ cI 4), (q3, aZ cI 4), (q4, aZ cI 4), (q5, aZ cI 2400), (q6, aZ cI 640), (q7, aZ cI 640), (q8, aZ cI 2800)] H := hP
  have hD : va_D A [(h0, .inr (6, [.int 0, .int 0, .int 0, .ref q1, .int 0, .int 0, .int 0, .ref q2, .ref q3, .ref q4, .ref q5, .ref q6, .ref q7, .null, .null, .null, .int 0, .int 0, .int 0, .null, .null])), (q1, aZ cI 8), (q2, aZ cI 4), (q3, aZ cI 4), (q4, aZ cI 4), (q5, aZ cI 2400), (q6, aZ cI 640), (q7, aZ cI 640), (q8, aZ cI 2800)] := hD
  refine W.widen (k := 8) (n := 6500) (Nat.le_of_ble_eq_true rfl) (Nat.le_of_ble_eq_true rfl) ?_
  refine va_putF (D := G) (ci := 6) (v := .ref q8) (ty := .array .int) (C := RX6) (T := TX6) (N := 21) hx hb hts inX6 tyX6 tyX6_ok nmX6 hown hK hP hD hS 0 rfl rfl 13 (by decide) (hts _ (Gw_t3 95 rfl rfl)) (fun _ h9 => h9) rfl hin rfl (by decide +kernel) rfl rfl (Nat.le_of_ble_eq_true rfl) (dec_at dX6_init 33) (fun H locs hP hD hS => ?_)
  have hP : va_P G vwCl [(h0, .inr (6, [.int 0, .int 0, .int 0, .ref q1, .int 0, .int 0, .int 0, .ref q2, .ref q3, .ref q4, .ref q5, .ref q6, .ref q7, .ref q8, .null, .null, .int 0, .int 0, .int 0, .null, .null])), (q1, aZ cI 8), (q2, aZ cI 4), (q3, aZ cI 4), (q4, aZ cI 4), (q5, aZ cI 2400), (q6, aZ cI 640), (q7, aZ cI 640), (q8, aZ cI 2800)] H := hP
  have hD : va_D A [(h0, .inr (6, [.int 0, .int 0, .int 0, .ref q1, .int 0, .int 0, .int 0, .ref q2, .ref q3, .ref q4, .ref q5, .ref q6, .ref q7, .ref q8, .null, .null, .int 0, .int 0, .int 0, .null, .null])), (q1, aZ cI 8), (q2, aZ cI 4), (q3, aZ cI 4), (q4, aZ cI 4), (q5, aZ cI 2400), (q6, aZ cI 640), (q7, aZ cI 640), (q8, aZ cI 2800)] := hD
  refine lv_aload_n hx hb (dec_at dX6_init 34) rfl (lv_at hl 0 rfl) ?_
  refine lv_sipush (v := 1400) hx hb (dec_at dX6_init 35) (by decide) ?_
  refine n_newa (N' := 1400) hx hb hts hK rfl hP hD hS hA (by decide) (by decide) (Nat.le_of_ble_eq_true rfl) (Nat.le_of_ble_eq_true rfl) (Nat.le_of_ble_eq_true rfl) (dec_at dX6_init 36) (fun q9 H hP hD hS => ?_)
  have hP : va_P G vwCl [(h0, .inr (6, [.int 0, .int 0, .int 0, .ref q1, .int 0, .int 0, .int 0, .ref q2, .ref q3, .ref q4, .ref q5, .ref q6, .ref q7, .ref q8, .null, .null, .int 0, .int 0, .int 0, .null, .null])), (q1, aZ cI 8), (q2, aZ cI 4), (q3, aZ cI 4), (q4, aZ cI 4), (q5, aZ cI 2400), (q6, aZ cI 640), (q7, aZ cI 640), (q8, aZ cI 2800), (q9, aZ cI 1400)] H := hP
  have hD : va_D A [(h0, .inr (6, [.int 0, .int 0, .int 0, .ref q1, .int 0, .int 0, .int 0, .ref q2, .ref q3, .ref q4, .ref q5, .ref q6, .ref q7, .ref q8, .null, .null, .int 0, .int 0, .int 0, .null, .null])), (q1, aZ cI 8), (q2, aZ cI 4), (q3, aZ cI 4), (q4, aZ cI 4), (q5, aZ cI 2400), (q6, aZ cI 640), (q7, aZ cI 640), (q8, aZ cI 2800), (q9, aZ cI 1400)] := hD
  refine W.widen (k := 9) (n := 7900) (Nat.le_of_ble_eq_true rfl) (Nat.le_of_ble_eq_true rfl) ?_
  refine va_putF (D := G) (ci := 6) (v := .ref q9) (ty := .array .int) (C := RX6) (T := TX6) (N := 21) hx hb hts inX6 tyX6 tyX6_ok nmX6 hown hK hP hD hS 0 rfl rfl 14 (by decide) (hts _ (Gw_t3 96 rfl rfl)) (fun _ h9 => h9) rfl hin rfl (by decide +kernel) rfl rfl (Nat.le_of_ble_eq_true rfl) (dec_at dX6_init 37) (fun H locs hP hD hS => ?_)
  have hP : va_P G vwCl [(h0, .inr (6, [.int 0, .int 0, .int 0, .ref q1, .int 0, .int 0, .int 0, .ref q2, .ref q3, .ref q4, .ref q5, .ref q6, .ref q7, .ref q8, .ref q9, .null, .int 0, .int 0, .int 0, .null, .null])), (q1, aZ cI 8), (q2, aZ cI 4), (q3, aZ cI 4), (q4, aZ cI 4), (q5, aZ cI 2400), (q6, aZ cI 640), (q7, aZ cI 640), (q8, aZ cI 2800), (q9, aZ cI 1400)] H := hP
  have hD : va_D A [(h0, .inr (6, [.int 0, .int 0, .int 0, .ref q1, .int 0, .int 0, .int 0, .ref q2, .ref q3, .ref q4, .ref q5, .ref q6, .ref q7, .ref q8, .ref q9, .null, .int 0, .int 0, .int 0, .null, .null])), (q1, aZ cI 8), (q2, aZ cI 4), (q3, aZ cI 4), (q4, aZ cI 4), (q5, aZ cI 2400), (q6, aZ cI 640), (q7, aZ cI 640), (q8, aZ cI 2800), (q9, aZ cI 1400)] := hD
  refine lv_aload_n hx hb (dec_at dX6_init 38) rfl (lv_at hl 0 rfl) ?_
  refine lv_sipush (v := 1400) hx hb (dec_at dX6_init 39) (by decide) ?_
  refine n_newa (N' := 1400) hx hb hts hK rfl hP hD hS hA (by decide) (by decide) (Nat.le_of_ble_eq_true rfl) (Nat.le_of_ble_eq_true rfl) (Nat.le_of_ble_eq_true rfl) (dec_at dX6_init 40) (fun q10 H hP hD hS => ?_)
  have hP : va_P G vwCl [(h0, .inr (6, [.int 0, .int 0, .int 0, .ref q1, .int 0, .int 0, .int 0, .ref q2, .ref q3, .ref q4, .ref q5, .ref q6, .ref q7, .ref q8, .ref q9, .null, .int 0, .int 0, .int 0, .null, .null])), (q1, aZ cI 8), (q2, aZ cI 4), (q3, aZ cI 4), (q4, aZ cI 4), (q5, aZ cI 2400), (q6, aZ cI 640), (q7, aZ cI 640), (q8, aZ cI 2800), (q9, aZ cI 1400), (q10, aZ cI 1400)] H := hP
  have hD : va_D A [(h0, .inr (6, [.int 0, .int 0, .int 0, .ref q1, .int 0, .int 0, .int 0, .ref q2, .ref q3, .ref q4, .ref q5, .ref q6, .ref q7, .ref q8, .ref q9, .null, .int 0, .int 0, .int 0, .null, .null])), (q1, aZ cI 8), (q2, aZ cI 4), (q3, aZ cI 4), (q4, aZ cI 4), (q5, aZ cI 2400), (q6, aZ cI 640), (q7, aZ cI 640), (q8, aZ cI 2800), (q9, aZ cI 1400), (q10, aZ cI 1400)] := hD
  refine W.widen (k := 10) (n := 9300) (Nat.le_of_ble_eq_true rfl) (Nat.le_of_ble_eq_true rfl) ?_
  refine va_putF (D := G) (ci := 6) (v := .ref q10) (ty := .array .int) (C := RX6) (T := TX6) (N := 21) hx hb hts inX6 tyX6 tyX6_ok nmX6 hown hK hP hD hS 0 rfl rfl 15 (by decide) (hts _ (Gw_t3 97 rfl rfl)) (fun _ h9 => h9) rfl hin rfl (by decide +kernel) rfl rfl (Nat.le_of_ble_eq_true rfl) (dec_at dX6_init 41) (fun H locs hP hD hS => ?_)
  have hP : va_P G vwCl [(h0, .inr (6, [.int 0, .int 0, .int 0, .ref q1, .int 0, .int 0, .int 0, .ref q2, .ref q3, .ref q4, .ref q5, .ref q6, .ref q7, .ref q8, .ref q9, .ref q10, .int 0, .int 0, .int 0, .null, .null])), (q1, aZ cI 8), (q2, aZ cI 4), (q3, aZ cI 4), (q4, aZ cI 4), (q5, aZ cI 2400), (q6, aZ cI 640), (q7, aZ cI 640), (q8, aZ cI 2800), (q9, aZ cI 1400), (q10, aZ cI 1400)] H := hP
  have hD : va_D A [(h0, .inr (6, [.int 0, .int 0, .int 0, .ref q1, .int 0, .int 0, .int 0, .ref q2, .ref q3, .ref q4, .ref q5, .ref q6, .ref q7, .ref q8, .ref q9, .ref q10, .int 0, .int 0, .int 0, .null, .null])), (q1, aZ cI 8), (q2, aZ cI 4), (q3, aZ cI 4), (q4, aZ cI 4), (q5, aZ cI 2400), (q6, aZ cI 640), (q7, aZ cI 640), (q8, aZ cI 2800), (q9, aZ cI 1400), (q10, aZ cI 1400)] := hD
  refine lv_aload_n hx hb (dec_at dX6_init 42) rfl (lv_at hl 0 rfl) ?_
  refine lv_bipush (v := 40) hx hb (dec_at dX6_init 43) (by decide) ?_
  refine n_newa (N' := 40) hx hb hts hK rfl hP hD hS hA (by decide) (by decide) (Nat.le_of_ble_eq_true rfl) (Nat.le_of_ble_eq_true rfl) (Nat.le_of_ble_eq_true rfl) (dec_at dX6_init 44) (fun q11 H hP hD hS => ?_)
  have hP : va_P G vwCl [(h0, .inr (6, [.int 0, .int 0, .int 0, .ref q1, .int 0, .int 0, .int 0, .ref q2, .ref q3, .ref q4, .ref q5, .ref q6, .ref q7, .ref q8, .ref q9, .ref q10, .int 0, .int 0, .int 0, .null, .null])), (q1, aZ cI 8), (q2, aZ cI 4), (q3, aZ cI 4), (q4, aZ cI 4), (q5, aZ cI 2400), (q6, aZ cI 640), (q7, aZ cI 640), (q8, aZ cI 2800), (q9, aZ cI 1400), (q10, aZ cI 1400), (q11, aZ cI 40)] H := hP
  have hD : va_D A [(h0, .inr (6, [.int 0, .int 0, .int 0, .ref q1, .int 0, .int 0, .int 0, .ref q2, .ref q3, .ref q4, .ref q5, .ref q6, .ref q7, .ref q8, .ref q9, .ref q10, .int 0, .int 0, .int 0, .null, .null])), (q1, aZ cI 8), (q2, aZ cI 4), (q3, aZ cI 4), (q4, aZ cI 4), (q5, aZ cI 2400), (q6, aZ cI 640), (q7, aZ cI 640), (q8, aZ cI 2800), (q9, aZ cI 1400), (q10, aZ cI 1400), (q11, aZ cI 40)] := hD
  refine W.widen (k := 11) (n := 9340) (Nat.le_of_ble_eq_true rfl) (Nat.le_of_ble_eq_true rfl) ?_
  refine va_putF (D := G) (ci := 6) (v := .ref q11) (ty := .array .int) (C := RX6) (T := TX6) (N := 21) hx hb hts inX6 tyX6 tyX6_ok nmX6 hown hK hP hD hS 0 rfl rfl 19 (by decide) (hts _ (Gw_t3 101 rfl rfl)) (fun _ h9 => h9) rfl hin rfl (by decide +kernel) rfl rfl (Nat.le_of_ble_eq_true rfl) (dec_at dX6_init 45) (fun H locs hP hD hS => ?_)
  have hP : va_P G vwCl [(h0, .inr (6, [.int 0, .int 0, .int 0, .ref q1, .int 0, .int 0, .int 0, .ref q2, .ref q3, .ref q4, .ref q5, .ref q6, .ref q7, .ref q8, .ref q9, .ref q10, .int 0, .int 0, .int 0, .ref q11, .null])), (q1, aZ cI 8), (q2, aZ cI 4), (q3, aZ cI 4), (q4, aZ cI 4), (q5, aZ cI 2400), (q6, aZ cI 640), (q7, aZ cI 640), (q8, aZ cI 2800), (q9, aZ cI 1400), (q10, aZ cI 1400), (q11, aZ cI 40)] H := hP
  have hD : va_D A [(h0, .inr (6, [.int 0, .int 0, .int 0, .ref q1, .int 0, .int 0, .int 0, .ref q2, .ref q3, .ref q4, .ref q5, .ref q6, .ref q7, .ref q8, .ref q9, .ref q10, .int 0, .int 0, .int 0, .ref q11, .null])), (q1, aZ cI 8), (q2, aZ cI 4), (q3, aZ cI 4), (q4, aZ cI 4), (q5, aZ cI 2400), (q6, aZ cI 640), (q7, aZ cI 640), (q8, aZ cI 2800), (q9, aZ cI 1400), (q10, aZ cI 1400), (q11, aZ cI 40)] := hD
  refine lv_aload_n hx hb (dec_at dX6_init 46) rfl (lv_at hl 0 rfl) ?_
  refine lv_bipush (v := 120) hx hb (dec_at dX6_init 47) (by decide) ?_
  refine n_newa (N' := 120) hx hb hts hK rfl hP hD hS hA (by decide) (by decide) (Nat.le_of_ble_eq_true rfl) (Nat.le_of_ble_eq_true rfl) (Nat.le_of_ble_eq_true rfl) (dec_at dX6_init 48) (fun q12 H hP hD hS => ?_)
  have hP : va_P G vwCl [(h0, .inr (6, [.int 0, .int 0, .int 0, .ref q1, .int 0, .int 0, .int 0, .ref q2, .ref q3, .ref q4, .ref q5, .ref q6, .ref q7, .ref q8, .ref q9, .ref q10, .int 0, .int 0, .int 0, .ref q11, .null])), (q1, aZ cI 8), (q2, aZ cI 4), (q3, aZ cI 4), (q4, aZ cI 4), (q5, aZ cI 2400), (q6, aZ cI 640), (q7, aZ cI 640), (q8, aZ cI 2800), (q9, aZ cI 1400), (q10, aZ cI 1400), (q11, aZ cI 40), (q12, aZ cI 120)] H := hP
  have hD : va_D A [(h0, .inr (6, [.int 0, .int 0, .int 0, .ref q1, .int 0, .int 0, .int 0, .ref q2, .ref q3, .ref q4, .ref q5, .ref q6, .ref q7, .ref q8, .ref q9, .ref q10, .int 0, .int 0, .int 0, .ref q11, .null])), (q1, aZ cI 8), (q2, aZ cI 4), (q3, aZ cI 4), (q4, aZ cI 4), (q5, aZ cI 2400), (q6, aZ cI 640), (q7, aZ cI 640), (q8, aZ cI 2800), (q9, aZ cI 1400), (q10, aZ cI 1400), (q11, aZ cI 40), (q12, aZ cI 120)] := hD
  refine W.widen (k := 12) (n := 9460) (Nat.le_of_ble_eq_true rfl) (Nat.le_of_ble_eq_true rfl) ?_
  refine va_putF (D := G) (ci := 6) (v := .ref q12) (ty := .array .int) (C := RX6) (T := TX6) (N := 21) hx hb hts inX6 tyX6 tyX6_ok nmX6 hown hK hP hD hS 0 rfl rfl 20 (by decide) (hts _ (Gw_t3 102 rfl rfl)) (fun _ h9 => h9) rfl hin rfl (by decide +kernel) rfl rfl (Nat.le_of_ble_eq_true rfl) (dec_at dX6_init 49) (fun H locs hP hD hS => ?_)
  have hP : va_P G vwCl [(h0, .inr (6, [.int 0, .int 0, .int 0, .ref q1, .int 0, .int 0, .int 0, .ref q2, .ref q3, .ref q4, .ref q5, .ref q6, .ref q7, .ref q8, .ref q9, .ref q10, .int 0, .int 0, .int 0, .ref q11, .ref q12])), (q1, aZ cI 8), (q2, aZ cI 4), (q3, aZ cI 4), (q4, aZ cI 4), (q5, aZ cI 2400), (q6, aZ cI 640), (q7, aZ cI 640), (q8, aZ cI 2800), (q9, aZ cI 1400), (q10, aZ cI 1400), (q11, aZ cI 40), (q12, aZ cI 120)] H := hP
  have hD : va_D A [(h0, .inr (6, [.int 0, .int 0, .int 0, .ref q1, .int 0, .int 0, .int 0, .ref q2, .ref q3, .ref q4, .ref q5, .ref q6, .ref q7, .ref q8, .ref q9, .ref q10, .int 0, .int 0, .int 0, .ref q11, .ref q12])), (q1, aZ cI 8), (q2, aZ cI 4), (q3, aZ cI 4), (q4, aZ cI 4), (q5, aZ cI 2400), (q6, aZ cI 640), (q7, aZ cI 640), (q8, aZ cI 2800), (q9, aZ cI 1400), (q10, aZ cI 1400), (q11, aZ cI 40), (q12, aZ cI 120)] := hD
  refine lv_aload_n hx hb (dec_at dX6_init 50) rfl (lv_at hl 0 rfl) ?_
  refine lv_iconst (v := (-1)) hx hb (dec_at dX6_init 51) (by decide) ?_
  refine va_put (D := G) (ci := 6) (v := .int (-1)) (ty := .int) (C := RX6) (T := TX6) (N := 21) hx hb hts inX6 tyX6 tyX6_ok nmX6 hown hK hP hD hS 0 rfl rfl 1 (by decide) (hts _ (Gw_t3 83 rfl rfl)) (fun _ h9 => h9) rfl (by decide +kernel) rfl rfl (Nat.le_of_ble_eq_true rfl) (dec_at dX6_init 52) (fun H locs hP hD hS => ?_)
  have hP : va_P G vwCl [(h0, .inr (6, [.int 0, .int (-1), .int 0, .ref q1, .int 0, .int 0, .int 0, .ref q2, .ref q3, .ref q4, .ref q5, .ref q6, .ref q7, .ref q8, .ref q9, .ref q10, .int 0, .int 0, .int 0, .ref q11, .ref q12])), (q1, aZ cI 8), (q2, aZ cI 4), (q3, aZ cI 4), (q4, aZ cI 4), (q5, aZ cI 2400), (q6, aZ cI 640), (q7, aZ cI 640), (q8, aZ cI 2800), (q9, aZ cI 1400), (q10, aZ cI 1400), (q11, aZ cI 40), (q12, aZ cI 120)] H := hP
  have hD : va_D A [(h0, .inr (6, [.int 0, .int (-1), .int 0, .ref q1, .int 0, .int 0, .int 0, .ref q2, .ref q3, .ref q4, .ref q5, .ref q6, .ref q7, .ref q8, .ref q9, .ref q10, .int 0, .int 0, .int 0, .ref q11, .ref q12])), (q1, aZ cI 8), (q2, aZ cI 4), (q3, aZ cI 4), (q4, aZ cI 4), (q5, aZ cI 2400), (q6, aZ cI 640), (q7, aZ cI 640), (q8, aZ cI 2800), (q9, aZ cI 1400), (q10, aZ cI 1400), (q11, aZ cI 40), (q12, aZ cI 120)] := hD
  refine lv_aload_n hx hb (dec_at dX6_init 53) rfl (lv_at hl 0 rfl) ?_
  refine lv_iconst (v := 1) hx hb (dec_at dX6_init 54) (by decide) ?_
  refine va_put (D := G) (ci := 6) (v := .int 1) (ty := .boolean) (C := RX6) (T := TX6) (N := 21) hx hb hts inX6 tyX6 tyX6_ok nmX6 hown hK hP hD hS 0 rfl rfl 4 (by decide) (hts _ (Gw_t3 86 rfl rfl)) (fun _ h9 => h9) rfl (by decide +kernel) rfl rfl (Nat.le_of_ble_eq_true rfl) (dec_at dX6_init 55) (fun H locs hP hD hS => ?_)
  have hP : va_P G vwCl [(h0, .inr (6, [.int 0, .int (-1), .int 0, .ref q1, .int 1, .int 0, .int 0, .ref q2, .ref q3, .ref q4, .ref q5, .ref q6, .ref q7, .ref q8, .ref q9, .ref q10, .int 0, .int 0, .int 0, .ref q11, .ref q12])), (q1, aZ cI 8), (q2, aZ cI 4), (q3, aZ cI 4), (q4, aZ cI 4), (q5, aZ cI 2400), (q6, aZ cI 640), (q7, aZ cI 640), (q8, aZ cI 2800), (q9, aZ cI 1400), (q10, aZ cI 1400), (q11, aZ cI 40), (q12, aZ cI 120)] H := hP
  have hD : va_D A [(h0, .inr (6, [.int 0, .int (-1), .int 0, .ref q1, .int 1, .int 0, .int 0, .ref q2, .ref q3, .ref q4, .ref q5, .ref q6, .ref q7, .ref q8, .ref q9, .ref q10, .int 0, .int 0, .int 0, .ref q11, .ref q12])), (q1, aZ cI 8), (q2, aZ cI 4), (q3, aZ cI 4), (q4, aZ cI 4), (q5, aZ cI 2400), (q6, aZ cI 640), (q7, aZ cI 640), (q8, aZ cI 2800), (q9, aZ cI 1400), (q10, aZ cI 1400), (q11, aZ cI 40), (q12, aZ cI 120)] := hD
  have hP9 := hP.sub (ws' := [(h0, .inr (6, [.int 0, .int (-1), .int 0, .ref q1, .int 1, .int 0, .int 0, .ref q2, .ref q3, .ref q4, .ref q5, .ref q6, .ref q7, .ref q8, .ref q9, .ref q10, .int 0, .int 0, .int 0, .ref q11, .ref q12])), (q1, aZ cI 8), (q2, aZ cI 4), (q3, aZ cI 4), (q4, aZ cI 4), (q5, aZ cI 2400), (q6, aZ cI 640), (q7, aZ cI 640), (q8, aZ cI 2800), (q9, aZ cI 1400), (q10, aZ cI 1400), (q11, aZ cI 40), (q12, aZ cI 120)]) [0, 1, 2, 3, 4, 5, 6, 7, 8, 9, 10, 11, 12] rfl
  have hD9 := hD.sub (ws' := [(h0, .inr (6, [.int 0, .int (-1), .int 0, .ref q1, .int 1, .int 0, .int 0, .ref q2, .ref q3, .ref q4, .ref q5, .ref q6, .ref q7, .ref q8, .ref q9, .ref q10, .int 0, .int 0, .int 0, .ref q11, .ref q12])), (q1, aZ cI 8), (q2, aZ cI 4), (q3, aZ cI 4), (q4, aZ cI 4), (q5, aZ cI 2400), (q6, aZ cI 640), (q7, aZ cI 640), (q8, aZ cI 2800), (q9, aZ cI 1400), (q10, aZ cI 1400), (q11, aZ cI 40), (q12, aZ cI 120)]) [0, 1, 2, 3, 4, 5, 6, 7, 8, 9, 10, 11, 12] (by decide) rfl
  exact W.vret hx hb hr (fun t ht hW => ⟨⟨(), rfl, trivial, q1, q2, q3, q4, q5, q6, q7, q8, q9, q10, q11, q12, by rw [ht]; exact hP9, hD9⟩, hS.F ht⟩) hS.2.2 (dec_at dX6_init 56)
