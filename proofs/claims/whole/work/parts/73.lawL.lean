/-! THE LAW: its loop -/
set_option maxRecDepth 100000 in
set_option maxHeartbeats 4000000 in
theorem law_loop {p : Program} {l : Launch} {e : Env} {s : State} {m : MethodId} {below : List Frame} {meth : Method} {c : Code} {b L : Nat} {xs : Nat → Int32} {G : va_G} {cI cN : ClassId} {ad : Nat → Int → Nat} (hC : LC p s m meth c b L xs G cI cN) : ∀ (n i : Nat) (μ : Mm) (H : Heap) (locs : List Loc) (ls : Array Slot), L + 6 - i = n → i ≤ L + 6 → LW ad G cI cN μ s H locs → J μ → lv_has ls 4 (lsv b ad i) → Lg p l e s m below meth c b H locs (F0 m 18 ls []) := by
  intro n
  induction n using Nat.strongRecOn with
  | _ n ih =>
  intro i μ H locs ls hn hiL hW hJ hl
  obtain ⟨hx, hb, hr, hml, hown, htl, hX, hbl, hlocks, hgv⟩ := hC.1
  have hL := hC.2.2.2
  have hS := hW.2.2.2
  refine lv_iload_n hx hb (dec_at dLw0 10) rfl (lv_at hl 0 rfl) ?_
  refine lv_aload_n hx hb (dec_at dLw0 11) rfl (lv_at hl 3 rfl) ?_
  refine va_slen hx hb hX hbl (Nat.not_le.mpr hbl) hS (dec_at dLw0 12) ?_
  refine lv_bipush (v := Int32.ofInt 6) hx hb (dec_at dLw0 13) (by decide) ?_
  refine lv_isub hx hb (dec_at dLw0 14) ?_
  have eL : Int32.ofNat L - Int32.ofInt 6 = Int32.ofInt ((L : Int) - 6) := by rw [← Int32.ofInt_eq_ofNat, ← Int32.ofInt_sub]
  rw [eL]
  refine lv_icmp_gt (tgt := 951) hx hb (dec_at dLw0 15) (by decide) (fun _ => ?_) (fun q => ?_)
  · refine lv_iconst (v := 1) hx hb (dec_at dLw13 47) (by decide) ?_
    refine va_forget (fun q hq => hS.2.2 q hq) ?_
    exact lw_ret hx hb hr hlocks (dec_at dLw14 0)
  · have hi : i + 6 ≤ L := by
      have q1 : ¬ ((L : Int) - 6 < (i : Int)) := fun z => q ((i_lt (by omega) (by omega)).mpr z)
      omega
    refine lv_aload_n hx hb (dec_at dLw0 16) rfl (lv_at hl 3 rfl) ?_
    refine lv_iload_n hx hb (dec_at dLw0 17) rfl (lv_at hl 0 rfl) ?_
    have hin : vp_in (Int32.ofInt (i : Int)) L := by
      have := vp_in_ofInt (a := (i : Int)) (n := (L : Int)) (by omega) (by omega) (by omega)
      simpa using this
    refine va_sld hx hb hX hbl (Nat.not_le.mpr hbl) hS hin (dec_at dLw0 18) ?_
    refine lv_bipush (v := 31) hx hb (dec_at dLw0 19) (by decide) ?_
    refine lv_iand hx hb (dec_at dLw0 20) ?_
    refine lv_topi (fun x ex => ?_)
    have K : ∀ (μ1 : Mm) (H1 : Heap) (locs1 : List Loc), J μ1 → LW ad G cI cN μ1 s H1 locs1 → Lg p l e s m below meth c b H1 locs1 (F0 m 945 ls []) := fun μ1 H1 locs1 hJ1 hW1 => by
      refine lv_iinc (v := Int32.ofInt ((i + 6 : Nat) : Int)) (lv' := lsv b ad (i + 6)) hx hb (dec_at dLw13 45) hl (k := 0) rfl (by rw [← Int32.ofInt_add]; rfl) (by decide) rfl (fun ls1 hl1 => ?_)
      refine lv_goto (tgt := 18) hx hb (dec_at dLw13 46) (by decide) ?_
      exact ih (L + 6 - (i + 6)) (by omega) (i + 6) μ1 H1 locs1 ls1 rfl (by omega) hW1 hJ1 hl1
    by_cases hout : x.toInt < 0 ∨ 24 < x.toInt
    · exact lv_tableOut (tgt := 945) hx hb (dec_at dLw0 21) hout (by decide) (K μ H locs hJ hW)
    · have hv : x.toInt = 0 ∨ x.toInt = 1 ∨ x.toInt = 2 ∨ x.toInt = 3 ∨ x.toInt = 4 ∨ x.toInt = 5 ∨ x.toInt = 6 ∨ x.toInt = 7 ∨ x.toInt = 8 ∨ x.toInt = 9 ∨ x.toInt = 10 ∨ x.toInt = 11 ∨ x.toInt = 12 ∨ x.toInt = 13 ∨ x.toInt = 14 ∨ x.toInt = 15 ∨ x.toInt = 16 ∨ x.toInt = 17 ∨ x.toInt = 18 ∨ x.toInt = 19 ∨ x.toInt = 20 ∨ x.toInt = 21 ∨ x.toInt = 22 ∨ x.toInt = 23 ∨ x.toInt = 24 := by omega
      rcases hv with hv | hv | hv | hv | hv | hv | hv | hv | hv | hv | hv | hv | hv | hv | hv | hv | hv | hv | hv | hv | hv | hv | hv | hv | hv
      · exact lv_tableIn (tgt := 148) hx hb (dec_at dLw0 21) (by omega) (by omega) (by rw [hv]; rfl) (by decide) (lw_row hC hW hJ hl hi K)
      · exact lv_tableIn (tgt := 181) hx hb (dec_at dLw0 21) (by omega) (by omega) (by rw [hv]; rfl) (by decide) (lw_put hC hW hJ hl hi K)
      · exact lv_tableIn (tgt := 224) hx hb (dec_at dLw0 21) (by omega) (by omega) (by rw [hv]; rfl) (by decide) (lw_lose hC hW hJ hl hi K)
      · exact lv_tableIn (tgt := 237) hx hb (dec_at dLw0 21) (by omega) (by omega) (by rw [hv]; rfl) (by decide) (lw_corner hC hW hJ hl hi K)
      · exact lv_tableIn (tgt := 250) hx hb (dec_at dLw0 21) (by omega) (by omega) (by rw [hv]; rfl) (by decide) (lw_place hC hW hJ hl hi K)
      · exact lv_tableIn (tgt := 293) hx hb (dec_at dLw0 21) (by omega) (by omega) (by rw [hv]; rfl) (by decide) (lw_face hC hW hJ hl hi K)
      · exact lv_tableIn (tgt := 316) hx hb (dec_at dLw0 21) (by omega) (by omega) (by rw [hv]; rfl) (by decide) (lw_undo hC hW hJ hl hi K)
      · exact lv_tableIn (tgt := 329) hx hb (dec_at dLw0 21) (by omega) (by omega) (by rw [hv]; rfl) (by decide) (lw_turn hC hW hJ hl hi K)
      · exact lv_tableIn (tgt := 352) hx hb (dec_at dLw0 21) (by omega) (by omega) (by rw [hv]; rfl) (by decide) (lw_clear hC hW hJ hl hi K)
      · exact lv_tableIn (tgt := 365) hx hb (dec_at dLw0 21) (by omega) (by omega) (by rw [hv]; rfl) (by decide) (lw_fault hC hW hJ hl hi K)
      · exact lv_tableIn (tgt := 388) hx hb (dec_at dLw0 21) (by omega) (by omega) (by rw [hv]; rfl) (by decide) (lw_many hC hW hJ hl hi K)
      · exact lv_tableIn (tgt := 421) hx hb (dec_at dLw0 21) (by omega) (by omega) (by rw [hv]; rfl) (by decide) (lw_at hC hW hJ hl hi K)
      · exact lv_tableIn (tgt := 464) hx hb (dec_at dLw0 21) (by omega) (by omega) (by rw [hv]; rfl) (by decide) (lw_edge hC hW hJ hl hi K)
      · exact lv_tableIn (tgt := 507) hx hb (dec_at dLw0 21) (by omega) (by omega) (by rw [hv]; rfl) (by decide) (lw_size hC hW hJ hl hi K)
      · exact lv_tableIn (tgt := 540) hx hb (dec_at dLw0 21) (by omega) (by omega) (by rw [hv]; rfl) (by decide) (lw_ring hC hW hJ hl hi K)
      · exact lv_tableIn (tgt := 583) hx hb (dec_at dLw0 21) (by omega) (by omega) (by rw [hv]; rfl) (by decide) (lw_middle hC hW hJ hl hi K)
      · exact lv_tableIn (tgt := 626) hx hb (dec_at dLw0 21) (by omega) (by omega) (by rw [hv]; rfl) (by decide) (lw_box hC hW hJ hl hi K)
      · exact lv_tableIn (tgt := 669) hx hb (dec_at dLw0 21) (by omega) (by omega) (by rw [hv]; rfl) (by decide) (lw_room hC hW hJ hl hi K)
      · exact lv_tableIn (tgt := 693) hx hb (dec_at dLw0 21) (by omega) (by omega) (by rw [hv]; rfl) (by decide) (lw_cut hC hW hJ hl hi K)
      · exact lv_tableIn (tgt := 736) hx hb (dec_at dLw0 21) (by omega) (by omega) (by rw [hv]; rfl) (by decide) (lw_near hC hW hJ hl hi K)
      · exact lv_tableIn (tgt := 789) hx hb (dec_at dLw0 21) (by omega) (by omega) (by rw [hv]; rfl) (by decide) (lw_move hC hW hJ hl hi K)
      · exact lv_tableIn (tgt := 852) hx hb (dec_at dLw0 21) (by omega) (by omega) (by rw [hv]; rfl) (by decide) (lw_moved hC hW hJ hl hi K)
      · exact lv_tableIn (tgt := 895) hx hb (dec_at dLw0 21) (by omega) (by omega) (by rw [hv]; rfl) (by decide) (lw_cause hC hW hJ hl hi K)
      · exact lv_tableIn (tgt := 908) hx hb (dec_at dLw0 21) (by omega) (by omega) (by rw [hv]; rfl) (by decide) (lw_count hC hW hJ hl hi K)
      · exact lv_tableIn (tgt := 931) hx hb (dec_at dLw0 21) (by omega) (by omega) (by rw [hv]; rfl) (by decide) (lw_digest hC hW hJ hl hi K)
