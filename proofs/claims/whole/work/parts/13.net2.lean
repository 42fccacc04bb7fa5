set_option maxRecDepth 100000 in
set_option maxHeartbeats 4000000 in
theorem l_crossings {μ : Mm} {l axis v : Int} (h : NB1 μ l) (h2 : NB2 μ l) (ha : 0 ≤ axis ∧ axis < 3) (hv : inR v) : ∀ (q : Nat) (e : Int) (a : Int), (μ 11 l 2 - e).toNat = q → 0 ≤ e → e ≤ μ 11 l 2 → Ev mX2_crossings 3 5 [some (vR 11 l), some (vI axis), some (vI v), some (vI a), some (vI e), none, none] [] μ (Rt (some (vI (flo (fun e a => if (μ 12 l (3 * μ 14 l (μ 18 l e) + axis) < v ↔ μ 12 l (3 * μ 14 l (nxF (μ 13 l) (μ 15 l) (μ 18 l e)) + axis) < v) then a else a + 1) e (μ 11 l 2) a))) μ) := by
  intro q
  induction q using Nat.strongRecOn with
  | _ q ih =>
  intro e a hq h0 h1
  have hCc := capC_in l
  have hCp := capP_in l
  have hCe := capE_in l
  have hE := h2.1
  have hn := h.2.2.1
  have hC := h.1
  refine e_iload (dec_at dX2_crossings 4) rfl ?_
  refine e_aload_n 0 (dec_at dX2_crossings 5) rfl rfl ?_
  refine e_geti 2 2 (dec_at dX2_crossings 6) flX2_61 rfl rfl rfl (fun r8 => ?_)
  refine e_icmp_ge 82 (dec_at dX2_crossings 7) (by decide) (by omega) (by omega) (fun h11 => ?_) (fun h11 => ?_)
  · refine e_iload_n 3 (dec_at dX2_crossings 46) rfl rfl ?_
    refine e_ireturn (dec_at dX2_crossings 47) rfl ?_
    exact ⟨by rw [flo_stop (by omega)], rfl⟩
  · have he := h2.2 e h0 (by omega)
    have hs := h.2.2.2.2 _ he.1 he.2
    have hx := h.nx he.1 he.2
    have ht := h.2.2.2.2 _ hx.1 hx.2
    refine e_aload_n 0 (dec_at dX2_crossings 8) rfl rfl ?_
    refine e_getr 3 (dec_at dX2_crossings 9) flX2_9 rfl rfl ?_
    refine e_iconst (dec_at dX2_crossings 10) ?_
    refine e_aload_n 0 (dec_at dX2_crossings 11) rfl rfl ?_
    refine e_iload (dec_at dX2_crossings 12) rfl ?_
    refine e_callVr (M' := mX2_whence) (dec_at dX2_crossings 13) mlX2_81 (c_whence l e h h2 h0 (by omega)) oX2_whence iX2_whence rfl rfl rfl rfl (by decide) (by decide) (Nat.le_of_ble_eq_true rfl) ?_
    refine e_imul (dec_at dX2_crossings 14) ?_
    refine e_iload_n 1 (dec_at dX2_crossings 15) rfl rfl ?_
    refine e_iadd (dec_at dX2_crossings 16) ?_
    refine e_iald (dec_at dX2_crossings 17) rfl (by decide) (aLk_12 _) (by omega) (fun r28 => ?_)
    refine e_iload_n 2 (dec_at dX2_crossings 18) rfl rfl ?_
    refine e_icmp_ge 37 (dec_at dX2_crossings 19) (by decide) (by omega) (by omega) (fun h30 => ?_) (fun h30 => ?_)
    · refine e_iconst (dec_at dX2_crossings 22) ?_
      refine e_is5 (dec_at dX2_crossings 23) (by decide) rfl ?_
      refine e_aload_n 0 (dec_at dX2_crossings 24) rfl rfl ?_
      refine e_getr 3 (dec_at dX2_crossings 25) flX2_9 rfl rfl ?_
      refine e_iconst (dec_at dX2_crossings 26) ?_
      refine e_aload_n 0 (dec_at dX2_crossings 27) rfl rfl ?_
      refine e_iload (dec_at dX2_crossings 28) rfl ?_
      refine e_callVr (M' := mX2_whither) (dec_at dX2_crossings 29) mlX2_84 (c_whither l e h h2 h0 (by omega)) oX2_whither iX2_whither rfl rfl rfl rfl (by decide) (by decide) (Nat.le_of_ble_eq_true rfl) ?_
      refine e_imul (dec_at dX2_crossings 30) ?_
      refine e_iload_n 1 (dec_at dX2_crossings 31) rfl rfl ?_
      refine e_iadd (dec_at dX2_crossings 32) ?_
      refine e_iald (dec_at dX2_crossings 33) rfl (by decide) (aLk_12 _) (by omega) (fun r54 => ?_)
      refine e_iload_n 2 (dec_at dX2_crossings 34) rfl rfl ?_
      refine e_icmp_ge 63 (dec_at dX2_crossings 35) (by decide) (by omega) (by omega) (fun h56 => ?_) (fun h56 => ?_)
      · refine e_iconst (dec_at dX2_crossings 38) ?_
        refine e_is6 (dec_at dX2_crossings 39) (by decide) rfl ?_
        refine e_iload (dec_at dX2_crossings 40) rfl ?_
        refine e_iload (dec_at dX2_crossings 41) rfl ?_
        refine e_icmp_eq 76 (dec_at dX2_crossings 42) (by decide) (by decide) (by decide) (fun _ => ?_) (fun h => absurd h (by decide))
        first | rw [flo_step (by omega), if_pos (by omega)] | rw [flo_step (by omega), if_neg (by omega)]
        refine e_ii4 (dec_at dX2_crossings 44) (by decide) rfl ?_
        refine e_goto 5 (dec_at dX2_crossings 45) (by decide) ?_
        exact e_le [some (vR 11 l), some (vI axis), some (vI v), some (vI _), some (vI (e + 1)), none, none] (by simp [leL]) (ih _ (by omega) (e + 1) _ rfl (by omega) (by omega))
      · refine e_iconst (dec_at dX2_crossings 36) ?_
        refine e_goto 64 (dec_at dX2_crossings 37) (by decide) ?_
        refine e_is6 (dec_at dX2_crossings 39) (by decide) rfl ?_
        refine e_iload (dec_at dX2_crossings 40) rfl ?_
        refine e_iload (dec_at dX2_crossings 41) rfl ?_
        refine e_icmp_eq 76 (dec_at dX2_crossings 42) (by decide) (by decide) (by decide) (fun h => absurd h (by decide)) (fun _ => ?_)
        refine e_ii3 (dec_at dX2_crossings 43) (by decide) rfl ?_
        first | rw [flo_step (by omega), if_pos (by omega)] | rw [flo_step (by omega), if_neg (by omega)]
        refine e_ii4 (dec_at dX2_crossings 44) (by decide) rfl ?_
        refine e_goto 5 (dec_at dX2_crossings 45) (by decide) ?_
        exact e_le [some (vR 11 l), some (vI axis), some (vI v), some (vI _), some (vI (e + 1)), none, none] (by simp [leL]) (ih _ (by omega) (e + 1) _ rfl (by omega) (by omega))
    · refine e_iconst (dec_at dX2_crossings 20) ?_
      refine e_goto 38 (dec_at dX2_crossings 21) (by decide) ?_
      refine e_is5 (dec_at dX2_crossings 23) (by decide) rfl ?_
      refine e_aload_n 0 (dec_at dX2_crossings 24) rfl rfl ?_
      refine e_getr 3 (dec_at dX2_crossings 25) flX2_9 rfl rfl ?_
      refine e_iconst (dec_at dX2_crossings 26) ?_
      refine e_aload_n 0 (dec_at dX2_crossings 27) rfl rfl ?_
      refine e_iload (dec_at dX2_crossings 28) rfl ?_
      refine e_callVr (M' := mX2_whither) (dec_at dX2_crossings 29) mlX2_84 (c_whither l e h h2 h0 (by omega)) oX2_whither iX2_whither rfl rfl rfl rfl (by decide) (by decide) (Nat.le_of_ble_eq_true rfl) ?_
      refine e_imul (dec_at dX2_crossings 30) ?_
      refine e_iload_n 1 (dec_at dX2_crossings 31) rfl rfl ?_
      refine e_iadd (dec_at dX2_crossings 32) ?_
      refine e_iald (dec_at dX2_crossings 33) rfl (by decide) (aLk_12 _) (by omega) (fun r54 => ?_)
      refine e_iload_n 2 (dec_at dX2_crossings 34) rfl rfl ?_
      refine e_icmp_ge 63 (dec_at dX2_crossings 35) (by decide) (by omega) (by omega) (fun h56 => ?_) (fun h56 => ?_)
      · refine e_iconst (dec_at dX2_crossings 38) ?_
        refine e_is6 (dec_at dX2_crossings 39) (by decide) rfl ?_
        refine e_iload (dec_at dX2_crossings 40) rfl ?_
        refine e_iload (dec_at dX2_crossings 41) rfl ?_
        refine e_icmp_eq 76 (dec_at dX2_crossings 42) (by decide) (by decide) (by decide) (fun h => absurd h (by decide)) (fun _ => ?_)
        refine e_ii3 (dec_at dX2_crossings 43) (by decide) rfl ?_
        first | rw [flo_step (by omega), if_pos (by omega)] | rw [flo_step (by omega), if_neg (by omega)]
        refine e_ii4 (dec_at dX2_crossings 44) (by decide) rfl ?_
        refine e_goto 5 (dec_at dX2_crossings 45) (by decide) ?_
        exact e_le [some (vR 11 l), some (vI axis), some (vI v), some (vI _), some (vI (e + 1)), none, none] (by simp [leL]) (ih _ (by omega) (e + 1) _ rfl (by omega) (by omega))
      · refine e_iconst (dec_at dX2_crossings 36) ?_
        refine e_goto 64 (dec_at dX2_crossings 37) (by decide) ?_
        refine e_is6 (dec_at dX2_crossings 39) (by decide) rfl ?_
        refine e_iload (dec_at dX2_crossings 40) rfl ?_
        refine e_iload (dec_at dX2_crossings 41) rfl ?_
        refine e_icmp_eq 76 (dec_at dX2_crossings 42) (by decide) (by decide) (by decide) (fun _ => ?_) (fun h => absurd h (by decide))
        first | rw [flo_step (by omega), if_pos (by omega)] | rw [flo_step (by omega), if_neg (by omega)]
        refine e_ii4 (dec_at dX2_crossings 44) (by decide) rfl ?_
        refine e_goto 5 (dec_at dX2_crossings 45) (by decide) ?_
        exact e_le [some (vR 11 l), some (vI axis), some (vI v), some (vI _), some (vI (e + 1)), none, none] (by simp [leL]) (ih _ (by omega) (e + 1) _ rfl (by omega) (by omega))

set_option maxRecDepth 100000 in
set_option maxHeartbeats 4000000 in
theorem c_crossings {μ : Mm} (l : Int) (axis v : Int) (h : NB1 μ l) (h2 : NB2 μ l) (ha : 0 ≤ axis ∧ axis < 3) (hv : inR v) : Mc mX2_crossings 3 [vR 11 l, vI axis, vI v] μ (Rt (some (vI (flo (fun e a => if (μ 12 l (3 * μ 14 l (μ 18 l e) + axis) < v ↔ μ 12 l (3 * μ 14 l (nxF (μ 13 l) (μ 15 l) (μ 18 l e)) + axis) < v) then a else a + 1) 0 (μ 11 l 2) 0))) μ) := by
  refine Mc.of (L := [some (vR 11 l), some (vI axis), some (vI v), none, none, none, none]) (by decide +kernel) (by simp [leL, entA, isLong, mX2_crossings]) (by simp [entA, isLong, mX2_crossings]) ?_
  have hCc := capC_in l
  have hCp := capP_in l
  have hCe := capE_in l
  have hE := h2.1
  refine e_iconst (dec_at dX2_crossings 0) ?_
  refine e_is3 (dec_at dX2_crossings 1) (by decide) rfl ?_
  refine e_iconst (dec_at dX2_crossings 2) ?_
  refine e_is4 (dec_at dX2_crossings 3) (by decide) rfl ?_
  exact l_crossings h h2 ha hv _ _ _ rfl (by omega) (by omega)

/-- the numbers of a net's corners are small -/
def NS (μ : Mm) (l : Int) : Prop := ∀ i, 0 ≤ i → i < 3 * μ 11 l 0 → -100000000 ≤ μ 12 l i ∧ μ 12 l i ≤ 100000000
def sqF (f : Int → Int) (x y z c : Int) : Int := (f (3 * c) - x) * (f (3 * c) - x) + (f (3 * c + 1) - y) * (f (3 * c + 1) - y) + (f (3 * c + 2) - z) * (f (3 * c + 2) - z)
theorem sq_in {d : Int} (h : -200000000 ≤ d ∧ d ≤ 200000000) : 0 ≤ d * d ∧ d * d ≤ 40000000000000000 := by
  have h1 : 0 ≤ d * d := by
    rcases Int.le_total 0 d with q | q
    · exact Int.mul_nonneg q q
    · have := Int.mul_nonneg (show 0 ≤ -d by omega) (show 0 ≤ -d by omega)
      rwa [Int.neg_mul_neg] at this
  have h2 : 0 ≤ (200000000 - d) * (200000000 + d) := Int.mul_nonneg (by omega) (by omega)
  have h3 : (200000000 - d) * (200000000 + d) = 40000000000000000 - d * d := by
    rw [Int.sub_mul, Int.mul_add, Int.mul_add]
    have : d * 200000000 = 200000000 * d := Int.mul_comm _ _
    omega
  omega
theorem sqF_in {μ : Mm} {l x y z c : Int} (h : NS μ l) (hx : (-100000 ≤ x ∧ x ≤ 100000) ∧ (-100000 ≤ y ∧ y ≤ 100000) ∧ (-100000 ≤ z ∧ z ≤ 100000)) (h0 : 0 ≤ c) (h1 : c < μ 11 l 0) : inL (sqF (μ 12 l) x y z c) := by
  have a0 := h (3 * c) (by omega) (by omega)
  have a1 := h (3 * c + 1) (by omega) (by omega)
  have a2 := h (3 * c + 2) (by omega) (by omega)
  have b0 := sq_in (d := μ 12 l (3 * c) - x) (by omega)
  have b1 := sq_in (d := μ 12 l (3 * c + 1) - y) (by omega)
  have b2 := sq_in (d := μ 12 l (3 * c + 2) - z) (by omega)
  unfold sqF
  omega

set_option maxRecDepth 100000 in
set_option maxHeartbeats 4000000 in
theorem c_squareTo {μ : Mm} (l : Int) (c x y z : Int) (hC : 0 ≤ μ 11 l 0 ∧ μ 11 l 0 ≤ capC l) (h : NS μ l) (hx : (-100000 ≤ x ∧ x ≤ 100000) ∧ (-100000 ≤ y ∧ y ≤ 100000) ∧ (-100000 ≤ z ∧ z ≤ 100000)) (h0 : 0 ≤ c) (h1 : c < μ 11 l 0) : Mc mX2_squareTo 0 [vR 11 l, vI c, vI x, vI y, vI z] μ (Rt (some (vL (sqF (μ 12 l) x y z c))) μ) := by
  refine Mc.of (L := [some (vR 11 l), some (vI c), some (vI x), some (vI y), some (vI z), none, none, none, none, none, none]) (by decide +kernel) (by simp [leL, entA, isLong, mX2_squareTo]) (by simp [entA, isLong, mX2_squareTo]) ?_
  have hCc := capC_in l
  have hCp := capP_in l
  have hCe := capE_in l
  have a0 := h (3 * c) (by omega) (by omega)
  have a1 := h (3 * c + 1) (by omega) (by omega)
  have a2 := h (3 * c + 2) (by omega) (by omega)
  refine e_aload_n 0 (dec_at dX2_squareTo 0) rfl rfl ?_
  refine e_getr 3 (dec_at dX2_squareTo 1) flX2_9 rfl rfl ?_
  refine e_iconst (dec_at dX2_squareTo 2) ?_
  refine e_iload_n 1 (dec_at dX2_squareTo 3) rfl rfl ?_
  refine e_imul (dec_at dX2_squareTo 4) ?_
  refine e_iald (dec_at dX2_squareTo 5) rfl (by decide) (aLk_12 _) (by omega) (fun r7 => ?_)
  refine e_iload_n 2 (dec_at dX2_squareTo 6) rfl rfl ?_
  refine e_isub (dec_at dX2_squareTo 7) ?_
  refine e_i2l (dec_at dX2_squareTo 8) (by omega) ?_
  refine e_ls5 (dec_at dX2_squareTo 9) (by decide) rfl ?_
  refine e_aload_n 0 (dec_at dX2_squareTo 10) rfl rfl ?_
  refine e_getr 3 (dec_at dX2_squareTo 11) flX2_9 rfl rfl ?_
  refine e_iconst (dec_at dX2_squareTo 12) ?_
  refine e_iload_n 1 (dec_at dX2_squareTo 13) rfl rfl ?_
  refine e_imul (dec_at dX2_squareTo 14) ?_
  refine e_iconst (dec_at dX2_squareTo 15) ?_
  refine e_iadd (dec_at dX2_squareTo 16) ?_
  refine e_iald (dec_at dX2_squareTo 17) rfl (by decide) (aLk_12 _) (by omega) (fun r22 => ?_)
  refine e_iload_n 3 (dec_at dX2_squareTo 18) rfl rfl ?_
  refine e_isub (dec_at dX2_squareTo 19) ?_
  refine e_i2l (dec_at dX2_squareTo 20) (by omega) ?_
  refine e_ls7 (dec_at dX2_squareTo 21) (by decide) rfl ?_
  refine e_aload_n 0 (dec_at dX2_squareTo 22) rfl rfl ?_
  refine e_getr 3 (dec_at dX2_squareTo 23) flX2_9 rfl rfl ?_
  refine e_iconst (dec_at dX2_squareTo 24) ?_
  refine e_iload_n 1 (dec_at dX2_squareTo 25) rfl rfl ?_
  refine e_imul (dec_at dX2_squareTo 26) ?_
  refine e_iconst (dec_at dX2_squareTo 27) ?_
  refine e_iadd (dec_at dX2_squareTo 28) ?_
  refine e_iald (dec_at dX2_squareTo 29) rfl (by decide) (aLk_12 _) (by omega) (fun r37 => ?_)
  refine e_iload (dec_at dX2_squareTo 30) rfl ?_
  refine e_isub (dec_at dX2_squareTo 31) ?_
  refine e_i2l (dec_at dX2_squareTo 32) (by omega) ?_
  refine e_ls9 (dec_at dX2_squareTo 33) (by decide) rfl ?_
  refine e_lload (dec_at dX2_squareTo 34) rfl ?_
  refine e_lload (dec_at dX2_squareTo 35) rfl ?_
  refine e_lmul (dec_at dX2_squareTo 36) ?_
  refine e_lload (dec_at dX2_squareTo 37) rfl ?_
  refine e_lload (dec_at dX2_squareTo 38) rfl ?_
  refine e_lmul (dec_at dX2_squareTo 39) ?_
  refine e_ladd (dec_at dX2_squareTo 40) ?_
  refine e_lload (dec_at dX2_squareTo 41) rfl ?_
  refine e_lload (dec_at dX2_squareTo 42) rfl ?_
  refine e_lmul (dec_at dX2_squareTo 43) ?_
  refine e_ladd (dec_at dX2_squareTo 44) ?_
  refine e_lreturn (dec_at dX2_squareTo 45) rfl ?_
  exact ⟨rfl, rfl⟩

set_option maxRecDepth 100000 in
set_option maxHeartbeats 4000000 in
theorem l_nearest {μ : Mm} {l x y z : Int} (hC : 0 ≤ μ 11 l 0 ∧ μ 11 l 0 ≤ capC l) (h : NS μ l) (hx : (-100000 ≤ x ∧ x ≤ 100000) ∧ (-100000 ≤ y ∧ y ≤ 100000) ∧ (-100000 ≤ z ∧ z ≤ 100000)) : ∀ (q : Nat) (c : Int) (a : Int × Int), (μ 11 l 0 - c).toNat = q → 0 ≤ c → c ≤ capC l → inL a.2 → Ev mX2_nearest 1 16 [some (vR 11 l), some (vI x), some (vI y), some (vI z), some (vI a.1), some (vL a.2), none, some (vI c), none, none] [] μ (Rt (some (vI (flo (fun c a => if sqF (μ 12 l) x y z c < a.2 then (c, sqF (μ 12 l) x y z c) else a) c (μ 11 l 0) a).1)) μ) := by
  intro q
  induction q using Nat.strongRecOn with
  | _ q ih =>
  intro c a hq h0 h1 hr
  have hCc := capC_in l
  have hCp := capP_in l
  have hCe := capE_in l
  refine e_iload (dec_at dX2_nearest 11) rfl ?_
  refine e_aload_n 0 (dec_at dX2_nearest 12) rfl rfl ?_
  refine e_geti 0 0 (dec_at dX2_nearest 13) flX2_39 rfl rfl rfl (fun r19 => ?_)
  refine e_icmp_ge 58 (dec_at dX2_nearest 14) (by decide) (by omega) (by omega) (fun h22 => ?_) (fun h22 => ?_)
  · refine e_iload (dec_at dX2_nearest 32) rfl ?_
    refine e_ireturn (dec_at dX2_nearest 33) rfl ?_
    exact ⟨by rw [flo_stop (by omega)], rfl⟩
  · refine e_aload_n 0 (dec_at dX2_nearest 15) rfl rfl ?_
    refine e_iload (dec_at dX2_nearest 16) rfl ?_
    refine e_iload_n 1 (dec_at dX2_nearest 17) rfl rfl ?_
    refine e_iload_n 2 (dec_at dX2_nearest 18) rfl rfl ?_
    refine e_iload_n 3 (dec_at dX2_nearest 19) rfl rfl ?_
    refine e_callVr (M' := mX2_squareTo) (dec_at dX2_nearest 20) mlX2_107 (c_squareTo l c x y z hC h hx h0 (by omega)) oX2_squareTo iX2_squareTo rfl rfl rfl rfl (by decide) (by decide) (Nat.le_of_ble_eq_true rfl) ?_
    refine e_ls8 (dec_at dX2_nearest 21) (by decide) rfl ?_
    refine e_lload (dec_at dX2_nearest 22) rfl ?_
    refine e_lload (dec_at dX2_nearest 23) rfl ?_
    refine e_lcmp (dec_at dX2_nearest 24) (by exact sqF_in h hx h0 (by omega)) (by exact hr) ?_
    refine e_cge 52 (dec_at dX2_nearest 25) (by decide) (fun h41 => ?_) (fun h41 => ?_)
    · rw [flo_step (by omega), if_neg (by omega)]
      refine e_ii7 (dec_at dX2_nearest 30) (by decide) rfl ?_
      refine e_goto 16 (dec_at dX2_nearest 31) (by decide) ?_
      first | exact e_le [some (vR 11 l), some (vI x), some (vI y), some (vI z), some (vI a.1), some (vL a.2), none, some (vI (c + 1)), none, none] (by simp [leL]) (ih _ (by omega) (c + 1) a rfl (by omega) (by omega) hr) | exact e_le [some (vR 11 l), some (vI x), some (vI y), some (vI z), some (vI c), some (vL (sqF (μ 12 l) x y z c)), none, some (vI (c + 1)), none, none] (by simp [leL]) (ih _ (by omega) (c + 1) (c, sqF (μ 12 l) x y z c) rfl (by omega) (by omega) hs)
    · rw [flo_step (by omega), if_pos (by omega)]
      have hs := sqF_in h hx h0 (show c < μ 11 l 0 by omega)
      refine e_lload (dec_at dX2_nearest 26) rfl ?_
      refine e_ls5 (dec_at dX2_nearest 27) (by decide) rfl ?_
      refine e_iload (dec_at dX2_nearest 28) rfl ?_
      refine e_is4 (dec_at dX2_nearest 29) (by decide) rfl ?_
      refine e_ii7 (dec_at dX2_nearest 30) (by decide) rfl ?_
      refine e_goto 16 (dec_at dX2_nearest 31) (by decide) ?_
      first | exact e_le [some (vR 11 l), some (vI x), some (vI y), some (vI z), some (vI a.1), some (vL a.2), none, some (vI (c + 1)), none, none] (by simp [leL]) (ih _ (by omega) (c + 1) a rfl (by omega) (by omega) hr) | exact e_le [some (vR 11 l), some (vI x), some (vI y), some (vI z), some (vI c), some (vL (sqF (μ 12 l) x y z c)), none, some (vI (c + 1)), none, none] (by simp [leL]) (ih _ (by omega) (c + 1) (c, sqF (μ 12 l) x y z c) rfl (by omega) (by omega) hs)

set_option maxRecDepth 100000 in
set_option maxHeartbeats 4000000 in
theorem c_nearest {μ : Mm} (l : Int) (x y z : Int) (hC : 1 ≤ μ 11 l 0 ∧ μ 11 l 0 ≤ capC l) (h : NS μ l) (hx : (-100000 ≤ x ∧ x ≤ 100000) ∧ (-100000 ≤ y ∧ y ≤ 100000) ∧ (-100000 ≤ z ∧ z ≤ 100000)) : Mc mX2_nearest 1 [vR 11 l, vI x, vI y, vI z] μ (Rt (some (vI (flo (fun c a => if sqF (μ 12 l) x y z c < a.2 then (c, sqF (μ 12 l) x y z c) else a) 1 (μ 11 l 0) (0, sqF (μ 12 l) x y z 0)).1)) μ) := by
  refine Mc.of (L := [some (vR 11 l), some (vI x), some (vI y), some (vI z), none, none, none, none, none, none]) (by decide +kernel) (by simp [leL, entA, isLong, mX2_nearest]) (by simp [entA, isLong, mX2_nearest]) ?_
  have hCc := capC_in l
  have hCp := capP_in l
  have hCe := capE_in l
  refine e_iconst (dec_at dX2_nearest 0) ?_
  refine e_is4 (dec_at dX2_nearest 1) (by decide) rfl ?_
  refine e_aload_n 0 (dec_at dX2_nearest 2) rfl rfl ?_
  refine e_iconst (dec_at dX2_nearest 3) ?_
  refine e_iload_n 1 (dec_at dX2_nearest 4) rfl rfl ?_
  refine e_iload_n 2 (dec_at dX2_nearest 5) rfl rfl ?_
  refine e_iload_n 3 (dec_at dX2_nearest 6) rfl rfl ?_
  refine e_callVr (M' := mX2_squareTo) (dec_at dX2_nearest 7) mlX2_107 (c_squareTo l 0 x y z (by omega) h hx (by omega) (by omega)) oX2_squareTo iX2_squareTo rfl rfl rfl rfl (by decide) (by decide) (Nat.le_of_ble_eq_true rfl) ?_
  refine e_ls5 (dec_at dX2_nearest 8) (by decide) rfl ?_
  refine e_iconst (dec_at dX2_nearest 9) ?_
  refine e_is7 (dec_at dX2_nearest 10) (by decide) rfl ?_
  exact l_nearest (by omega) h hx _ 1 (0, sqF (μ 12 l) x y z 0) rfl (by omega) (by omega) (sqF_in h hx (by omega) (by omega))

set_option maxRecDepth 100000 in
set_option maxHeartbeats 4000000 in
theorem l_mixNumbers {μ : Mm} {l : Int} (hC : 0 ≤ μ 11 l 0 ∧ μ 11 l 0 ≤ capC l) : ∀ (q : Nat) (i : Int) (a : Int), (3 * μ 11 l 0 - i).toNat = q → 0 ≤ i → i ≤ 3 * μ 11 l 0 → Ev mX2_mixNumbers 1 2 [some (vR 11 l), some (vL a), none, some (vI i)] [] μ (Rt (some (vL (flo (fun i a => 31 * a + μ 12 l i) i (3 * μ 11 l 0) a))) μ) := by
  intro q
  induction q using Nat.strongRecOn with
  | _ q ih =>
  intro i a hq h0 h1
  have hCc := capC_in l
  have hCp := capP_in l
  have hCe := capE_in l
  refine e_iload_n 3 (dec_at dX2_mixNumbers 2) rfl rfl ?_
  refine e_iconst (dec_at dX2_mixNumbers 3) ?_
  refine e_aload_n 0 (dec_at dX2_mixNumbers 4) rfl rfl ?_
  refine e_geti 0 0 (dec_at dX2_mixNumbers 5) flX2_39 rfl rfl rfl (fun r5 => ?_)
  refine e_imul (dec_at dX2_mixNumbers 6) ?_
  refine e_icmp_ge 29 (dec_at dX2_mixNumbers 7) (by decide) (by omega) (by omega) (fun h9 => ?_) (fun h9 => ?_)
  · refine e_lload_n 1 (dec_at dX2_mixNumbers 17) rfl rfl ?_
    refine e_lreturn (dec_at dX2_mixNumbers 18) rfl ?_
    exact ⟨by rw [flo_stop (by omega)], rfl⟩
  · refine e_lload_n 1 (dec_at dX2_mixNumbers 8) rfl rfl ?_
    refine e_aload_n 0 (dec_at dX2_mixNumbers 9) rfl rfl ?_
    refine e_getr 3 (dec_at dX2_mixNumbers 10) flX2_9 rfl rfl ?_
    refine e_iload_n 3 (dec_at dX2_mixNumbers 11) rfl rfl ?_
    refine e_iald (dec_at dX2_mixNumbers 12) rfl (by decide) (aLk_12 _) (by omega) (fun r18 => ?_)
    refine e_callNr (M' := mX5_mix) (dec_at dX2_mixNumbers 13) (fun s h => h.1) (c_mix a (μ 12 l i) r18) oX5_mix sX5_mix rfl rfl (by decide) (by decide) (Nat.le_of_ble_eq_true rfl) ?_
    refine e_ls1 (dec_at dX2_mixNumbers 14) (by decide) rfl ?_
    refine e_ii3 (dec_at dX2_mixNumbers 15) (by decide) rfl ?_
    refine e_goto 2 (dec_at dX2_mixNumbers 16) (by decide) ?_
    rw [flo_step (by omega)]
    exact ih _ (by omega) (i + 1) _ rfl (by omega) (by omega)

set_option maxRecDepth 100000 in
set_option maxHeartbeats 4000000 in
theorem c_mixNumbers {μ : Mm} (l : Int) (a : Int) (hC : 0 ≤ μ 11 l 0 ∧ μ 11 l 0 ≤ capC l) : Mc mX2_mixNumbers 1 [vR 11 l, vL a] μ (Rt (some (vL (flo (fun i a => 31 * a + μ 12 l i) 0 (3 * μ 11 l 0) a))) μ) := by
  refine Mc.of (L := [some (vR 11 l), some (vL a), none, none]) (by decide +kernel) (by simp [leL, entA, isLong, mX2_mixNumbers]) (by simp [entA, isLong, mX2_mixNumbers]) ?_
  have hCc := capC_in l
  have hCp := capP_in l
  have hCe := capE_in l
  refine e_iconst (dec_at dX2_mixNumbers 0) ?_
  refine e_is3 (dec_at dX2_mixNumbers 1) (by decide) rfl ?_
  exact l_mixNumbers hC _ _ _ rfl (by omega) (by omega)

set_option maxRecDepth 100000 in
set_option maxHeartbeats 4000000 in
theorem l_mixPlates1 {μ : Mm} {l f : Int} {Q : Option Vv → Mm → Prop} (h : NB1 μ l) (hf0 : 0 ≤ f) (hf1 : f < μ 11 l 1) : ∀ (q : Nat) (s : Int) (a : Int), (μ 13 l (f + 1) - s).toNat = q → 0 ≤ s → s ≤ μ 13 l (f + 1) → Ev mX2_mixPlates 1 59 [some (vR 11 l), some (vL (flo (fun s a => 31 * a + μ 14 l s) s (μ 13 l (f + 1)) a)), none, some (vI f), none] [] μ Q → Ev mX2_mixPlates 1 28 [some (vR 11 l), some (vL a), none, some (vI f), some (vI s)] [] μ (Q) := by
  intro q
  induction q using Nat.strongRecOn with
  | _ q ih =>
  intro s a hq h0 h1 K
  have hCc := capC_in l
  have hCp := capP_in l
  have hCe := capE_in l
  have hf := h.2.2.2.1 f hf0 hf1
  have hn := h.2.2.1
  have hP := h.2.1
  refine e_iload (dec_at dX2_mixPlates 17) rfl ?_
  refine e_aload_n 0 (dec_at dX2_mixPlates 18) rfl rfl ?_
  refine e_getr 4 (dec_at dX2_mixPlates 19) flX2_15 rfl rfl ?_
  refine e_iload_n 3 (dec_at dX2_mixPlates 20) rfl rfl ?_
  refine e_iconst (dec_at dX2_mixPlates 21) ?_
  refine e_iadd (dec_at dX2_mixPlates 22) ?_
  refine e_iald (dec_at dX2_mixPlates 23) rfl (by decide) (aLk_13 _) (by omega) (fun r37 => ?_)
  refine e_icmp_ge 59 (dec_at dX2_mixPlates 24) (by decide) (by omega) (by omega) (fun h38 => ?_) (fun h38 => ?_)
  · rw [flo_stop (by omega)] at K
    exact e_le [some (vR 11 l), some (vL a), none, some (vI f), none] (by simp [leL]) K
  · refine e_lload_n 1 (dec_at dX2_mixPlates 25) rfl rfl ?_
    refine e_aload_n 0 (dec_at dX2_mixPlates 26) rfl rfl ?_
    refine e_getr 5 (dec_at dX2_mixPlates 27) flX2_18 rfl rfl ?_
    refine e_iload (dec_at dX2_mixPlates 28) rfl ?_
    refine e_iald (dec_at dX2_mixPlates 29) rfl (by decide) (aLk_14 _) (by omega) (fun r48 => ?_)
    refine e_callNr (M' := mX5_mix) (dec_at dX2_mixPlates 30) (fun s h => h.1) (c_mix a (μ 14 l s) r48) oX5_mix sX5_mix rfl rfl (by decide) (by decide) (Nat.le_of_ble_eq_true rfl) ?_
    refine e_ls1 (dec_at dX2_mixPlates 31) (by decide) rfl ?_
    refine e_ii4 (dec_at dX2_mixPlates 32) (by decide) rfl ?_
    refine e_goto 28 (dec_at dX2_mixPlates 33) (by decide) ?_
    rw [flo_step (by omega)] at K
    exact ih _ (by omega) (s + 1) _ rfl (by omega) (by omega) K

set_option maxRecDepth 100000 in
set_option maxHeartbeats 4000000 in
theorem l_mixPlates {μ : Mm} {l : Int} (h : NB1 μ l) : ∀ (q : Nat) (f : Int) (a : Int), (μ 11 l 1 - f).toNat = q → 0 ≤ f → f ≤ μ 11 l 1 → Ev mX2_mixPlates 1 2 [some (vR 11 l), some (vL a), none, some (vI f), none] [] μ (Rt (some (vL (flo (fun f a => flo (fun s a => 31 * a + μ 14 l s) (μ 13 l f) (μ 13 l (f + 1)) (31 * a + (μ 13 l (f + 1) - μ 13 l f))) f (μ 11 l 1) a))) μ) := by
  intro q
  induction q using Nat.strongRecOn with
  | _ q ih =>
  intro f a hq h0 h1
  have hCc := capC_in l
  have hCp := capP_in l
  have hCe := capE_in l
  have hn := h.2.2.1
  have hP := h.2.1
  refine e_iload_n 3 (dec_at dX2_mixPlates 2) rfl rfl ?_
  refine e_aload_n 0 (dec_at dX2_mixPlates 3) rfl rfl ?_
  refine e_geti 1 1 (dec_at dX2_mixPlates 4) flX2_43 rfl rfl rfl (fun r4 => ?_)
  refine e_icmp_ge 65 (dec_at dX2_mixPlates 5) (by decide) (by omega) (by omega) (fun h7 => ?_) (fun h7 => ?_)
  · refine e_lload_n 1 (dec_at dX2_mixPlates 36) rfl rfl ?_
    refine e_lreturn (dec_at dX2_mixPlates 37) rfl ?_
    exact ⟨by rw [flo_stop (by omega)], rfl⟩
  · have hf := h.2.2.2.1 f h0 (by omega)
    refine e_lload_n 1 (dec_at dX2_mixPlates 6) rfl rfl ?_
    refine e_aload_n 0 (dec_at dX2_mixPlates 7) rfl rfl ?_
    refine e_iload_n 3 (dec_at dX2_mixPlates 8) rfl rfl ?_
    refine e_callVr (M' := mX2_sizeOf) (dec_at dX2_mixPlates 9) mlX2_87 (c_sizeOf l f (by omega)) oX2_sizeOf iX2_sizeOf rfl rfl rfl rfl (by decide) (by decide) (Nat.le_of_ble_eq_true rfl) ?_
    refine e_callNr (M' := mX5_mix) (dec_at dX2_mixPlates 10) (fun s h => h.1) (c_mix a _ (by omega)) oX5_mix sX5_mix rfl rfl (by decide) (by decide) (Nat.le_of_ble_eq_true rfl) ?_
    refine e_ls1 (dec_at dX2_mixPlates 11) (by decide) rfl ?_
    refine e_aload_n 0 (dec_at dX2_mixPlates 12) rfl rfl ?_
    refine e_getr 4 (dec_at dX2_mixPlates 13) flX2_15 rfl rfl ?_
    refine e_iload_n 3 (dec_at dX2_mixPlates 14) rfl rfl ?_
    refine e_iald (dec_at dX2_mixPlates 15) rfl (by decide) (aLk_13 _) (by omega) (fun r25 => ?_)
    refine e_is4 (dec_at dX2_mixPlates 16) (by decide) rfl ?_
    refine l_mixPlates1 h h0 (by omega) _ _ _ rfl (by omega) (by omega) ?_
    refine e_ii3 (dec_at dX2_mixPlates 34) (by decide) rfl ?_
    refine e_goto 2 (dec_at dX2_mixPlates 35) (by decide) ?_
    rw [flo_step (i := f) (e := μ 11 l 1) (by omega)]
    exact ih _ (by omega) (f + 1) _ rfl (by omega) (by omega)

set_option maxRecDepth 100000 in
set_option maxHeartbeats 4000000 in
theorem c_mixPlates {μ : Mm} (l : Int) (a : Int) (h : NB1 μ l) : Mc mX2_mixPlates 1 [vR 11 l, vL a] μ (Rt (some (vL (flo (fun f a => flo (fun s a => 31 * a + μ 14 l s) (μ 13 l f) (μ 13 l (f + 1)) (31 * a + (μ 13 l (f + 1) - μ 13 l f))) 0 (μ 11 l 1) a))) μ) := by
  refine Mc.of (L := [some (vR 11 l), some (vL a), none, none, none]) (by decide +kernel) (by simp [leL, entA, isLong, mX2_mixPlates]) (by simp [entA, isLong, mX2_mixPlates]) ?_
  have hCc := capC_in l
  have hCp := capP_in l
  have hCe := capE_in l
  have hP := h.2.1
  refine e_iconst (dec_at dX2_mixPlates 0) ?_
  refine e_is3 (dec_at dX2_mixPlates 1) (by decide) rfl ?_
  exact l_mixPlates h _ _ _ rfl (by omega) (by omega)

def wdF (f : Int → Int) (p q r : Int) : Int := f p * (f (q + 1) * f (r + 2) - f (q + 2) * f (r + 1)) + f (p + 1) * (f (q + 2) * f r - f q * f (r + 2)) + f (p + 2) * (f q * f (r + 1) - f (q + 1) * f r)

set_option maxRecDepth 100000 in
set_option maxHeartbeats 4000000 in
theorem c_crossed {μ : Mm} (l : Int) (a b c e : Int) (ha : 0 ≤ a ∧ a < 3 * capC l) (hb : 0 ≤ b ∧ b < 3 * capC l) (hc : 0 ≤ c ∧ c < 3 * capC l) (he : 0 ≤ e ∧ e < 3 * capC l) : Mc mX2_crossed 0 [vR 11 l, vI a, vI b, vI c, vI e] μ (Rt (some (vL (μ 12 l a * μ 12 l b - μ 12 l c * μ 12 l e))) μ) := by
  refine Mc.of (L := [some (vR 11 l), some (vI a), some (vI b), some (vI c), some (vI e)]) (by decide +kernel) (by simp [leL, entA, isLong, mX2_crossed]) (by simp [entA, isLong, mX2_crossed]) ?_
  have hCc := capC_in l
  have hCp := capP_in l
  have hCe := capE_in l
  refine e_aload_n 0 (dec_at dX2_crossed 0) rfl rfl ?_
  refine e_getr 3 (dec_at dX2_crossed 1) flX2_9 rfl rfl ?_
  refine e_iload_n 1 (dec_at dX2_crossed 2) rfl rfl ?_
  refine e_iald (dec_at dX2_crossed 3) rfl (by decide) (aLk_12 _) (by omega) (fun r5 => ?_)
  refine e_i2l (dec_at dX2_crossed 4) (by omega) ?_
  refine e_aload_n 0 (dec_at dX2_crossed 5) rfl rfl ?_
  refine e_getr 3 (dec_at dX2_crossed 6) flX2_9 rfl rfl ?_
  refine e_iload_n 2 (dec_at dX2_crossed 7) rfl rfl ?_
  refine e_iald (dec_at dX2_crossed 8) rfl (by decide) (aLk_12 _) (by omega) (fun r12 => ?_)
  refine e_i2l (dec_at dX2_crossed 9) (by omega) ?_
  refine e_lmul (dec_at dX2_crossed 10) ?_
  refine e_aload_n 0 (dec_at dX2_crossed 11) rfl rfl ?_
  refine e_getr 3 (dec_at dX2_crossed 12) flX2_9 rfl rfl ?_
  refine e_iload_n 3 (dec_at dX2_crossed 13) rfl rfl ?_
  refine e_iald (dec_at dX2_crossed 14) rfl (by decide) (aLk_12 _) (by omega) (fun r20 => ?_)
  refine e_i2l (dec_at dX2_crossed 15) (by omega) ?_
  refine e_aload_n 0 (dec_at dX2_crossed 16) rfl rfl ?_
  refine e_getr 3 (dec_at dX2_crossed 17) flX2_9 rfl rfl ?_
  refine e_iload (dec_at dX2_crossed 18) rfl ?_
  refine e_iald (dec_at dX2_crossed 19) rfl (by decide) (aLk_12 _) (by omega) (fun r28 => ?_)
  refine e_i2l (dec_at dX2_crossed 20) (by omega) ?_
  refine e_lmul (dec_at dX2_crossed 21) ?_
  refine e_lsub (dec_at dX2_crossed 22) ?_
  refine e_lreturn (dec_at dX2_crossed 23) rfl ?_
  exact ⟨rfl, rfl⟩

set_option maxRecDepth 100000 in
set_option maxHeartbeats 4000000 in
theorem c_sixfoldWedge {μ : Mm} (l : Int) (p q r : Int) (hp : 0 ≤ p ∧ p + 2 < 3 * capC l) (hq : 0 ≤ q ∧ q + 2 < 3 * capC l) (hr : 0 ≤ r ∧ r + 2 < 3 * capC l) : Mc mX2_sixfoldWedge 1 [vR 11 l, vI p, vI q, vI r] μ (Rt (some (vL (wdF (μ 12 l) p q r))) μ) := by
  refine Mc.of (L := [some (vR 11 l), some (vI p), some (vI q), some (vI r)]) (by decide +kernel) (by simp [leL, entA, isLong, mX2_sixfoldWedge]) (by simp [entA, isLong, mX2_sixfoldWedge]) ?_
  have hCc := capC_in l
  have hCp := capP_in l
  have hCe := capE_in l
  refine e_aload_n 0 (dec_at dX2_sixfoldWedge 0) rfl rfl ?_
  refine e_getr 3 (dec_at dX2_sixfoldWedge 1) flX2_9 rfl rfl ?_
  refine e_iload_n 1 (dec_at dX2_sixfoldWedge 2) rfl rfl ?_
  refine e_iald (dec_at dX2_sixfoldWedge 3) rfl (by decide) (aLk_12 _) (by omega) (fun r5 => ?_)
  refine e_i2l (dec_at dX2_sixfoldWedge 4) (by omega) ?_
  refine e_aload_n 0 (dec_at dX2_sixfoldWedge 5) rfl rfl ?_
  refine e_iload_n 2 (dec_at dX2_sixfoldWedge 6) rfl rfl ?_
  refine e_iconst (dec_at dX2_sixfoldWedge 7) ?_
  refine e_iadd (dec_at dX2_sixfoldWedge 8) ?_
  refine e_iload_n 3 (dec_at dX2_sixfoldWedge 9) rfl rfl ?_
  refine e_iconst (dec_at dX2_sixfoldWedge 10) ?_
  refine e_iadd (dec_at dX2_sixfoldWedge 11) ?_
  refine e_iload_n 2 (dec_at dX2_sixfoldWedge 12) rfl rfl ?_
  refine e_iconst (dec_at dX2_sixfoldWedge 13) ?_
  refine e_iadd (dec_at dX2_sixfoldWedge 14) ?_
  refine e_iload_n 3 (dec_at dX2_sixfoldWedge 15) rfl rfl ?_
  refine e_iconst (dec_at dX2_sixfoldWedge 16) ?_
  refine e_iadd (dec_at dX2_sixfoldWedge 17) ?_
  refine e_callVr (M' := mX2_crossed) (dec_at dX2_sixfoldWedge 18) mlX2_103 (c_crossed l (q + 1) (r + 2) (q + 2) (r + 1) (by omega) (by omega) (by omega) (by omega)) oX2_crossed iX2_crossed rfl rfl rfl rfl (by decide) (by decide) (Nat.le_of_ble_eq_true rfl) ?_
  refine e_lmul (dec_at dX2_sixfoldWedge 19) ?_
  refine e_aload_n 0 (dec_at dX2_sixfoldWedge 20) rfl rfl ?_
  refine e_getr 3 (dec_at dX2_sixfoldWedge 21) flX2_9 rfl rfl ?_
  refine e_iload_n 1 (dec_at dX2_sixfoldWedge 22) rfl rfl ?_
  refine e_iconst (dec_at dX2_sixfoldWedge 23) ?_
  refine e_iadd (dec_at dX2_sixfoldWedge 24) ?_
  refine e_iald (dec_at dX2_sixfoldWedge 25) rfl (by decide) (aLk_12 _) (by omega) (fun r31 => ?_)
  refine e_i2l (dec_at dX2_sixfoldWedge 26) (by omega) ?_
  refine e_aload_n 0 (dec_at dX2_sixfoldWedge 27) rfl rfl ?_
  refine e_iload_n 2 (dec_at dX2_sixfoldWedge 28) rfl rfl ?_
  refine e_iconst (dec_at dX2_sixfoldWedge 29) ?_
  refine e_iadd (dec_at dX2_sixfoldWedge 30) ?_
  refine e_iload_n 3 (dec_at dX2_sixfoldWedge 31) rfl rfl ?_
  refine e_iload_n 2 (dec_at dX2_sixfoldWedge 32) rfl rfl ?_
  refine e_iload_n 3 (dec_at dX2_sixfoldWedge 33) rfl rfl ?_
  refine e_iconst (dec_at dX2_sixfoldWedge 34) ?_
  refine e_iadd (dec_at dX2_sixfoldWedge 35) ?_
  refine e_callVr (M' := mX2_crossed) (dec_at dX2_sixfoldWedge 36) mlX2_103 (c_crossed l (q + 2) r q (r + 2) (by omega) (by omega) (by omega) (by omega)) oX2_crossed iX2_crossed rfl rfl rfl rfl (by decide) (by decide) (Nat.le_of_ble_eq_true rfl) ?_
  refine e_lmul (dec_at dX2_sixfoldWedge 37) ?_
  refine e_ladd (dec_at dX2_sixfoldWedge 38) ?_
  refine e_aload_n 0 (dec_at dX2_sixfoldWedge 39) rfl rfl ?_
  refine e_getr 3 (dec_at dX2_sixfoldWedge 40) flX2_9 rfl rfl ?_
  refine e_iload_n 1 (dec_at dX2_sixfoldWedge 41) rfl rfl ?_
  refine e_iconst (dec_at dX2_sixfoldWedge 42) ?_
  refine e_iadd (dec_at dX2_sixfoldWedge 43) ?_
  refine e_iald (dec_at dX2_sixfoldWedge 44) rfl (by decide) (aLk_12 _) (by omega) (fun r54 => ?_)
  refine e_i2l (dec_at dX2_sixfoldWedge 45) (by omega) ?_
  refine e_aload_n 0 (dec_at dX2_sixfoldWedge 46) rfl rfl ?_
  refine e_iload_n 2 (dec_at dX2_sixfoldWedge 47) rfl rfl ?_
  refine e_iload_n 3 (dec_at dX2_sixfoldWedge 48) rfl rfl ?_
  refine e_iconst (dec_at dX2_sixfoldWedge 49) ?_
  refine e_iadd (dec_at dX2_sixfoldWedge 50) ?_
  refine e_iload_n 2 (dec_at dX2_sixfoldWedge 51) rfl rfl ?_
  refine e_iconst (dec_at dX2_sixfoldWedge 52) ?_
  refine e_iadd (dec_at dX2_sixfoldWedge 53) ?_
  refine e_iload_n 3 (dec_at dX2_sixfoldWedge 54) rfl rfl ?_
  refine e_callVr (M' := mX2_crossed) (dec_at dX2_sixfoldWedge 55) mlX2_103 (c_crossed l q (r + 1) (q + 1) r (by omega) (by omega) (by omega) (by omega)) oX2_crossed iX2_crossed rfl rfl rfl rfl (by decide) (by decide) (Nat.le_of_ble_eq_true rfl) ?_
  refine e_lmul (dec_at dX2_sixfoldWedge 56) ?_
  refine e_ladd (dec_at dX2_sixfoldWedge 57) ?_
  refine e_lreturn (dec_at dX2_sixfoldWedge 58) rfl ?_
  exact ⟨rfl, rfl⟩

set_option maxRecDepth 100000 in
set_option maxHeartbeats 4000000 in
theorem l_sixfoldRoom1 {μ : Mm} {l f p : Int} {Q : Option Vv → Mm → Prop} (h : NB1 μ l) (hf0 : 0 ≤ f) (hf1 : f < μ 11 l 1) (hp : 0 ≤ p ∧ p < μ 11 l 0) : ∀ (q : Nat) (s : Int) (a : Int), (μ 13 l (f + 1) - s).toNat = q → 0 ≤ s → s ≤ μ 13 l (f + 1) → Ev mX2_sixfoldRoom 2 87 [some (vR 11 l), some (vL (flo (fun s a => a + wdF (μ 12 l) (3 * p) (3 * μ 14 l s) (3 * μ 14 l (s + 1))) s (μ 13 l (f + 1) - 1) a)), none, some (vI f), none, none] [] μ Q → Ev mX2_sixfoldRoom 2 35 [some (vR 11 l), some (vL a), none, some (vI f), some (vI p), some (vI s)] [] μ (Q) := by
  intro q
  induction q using Nat.strongRecOn with
  | _ q ih =>
  intro s a hq h0 h1 K
  have hCc := capC_in l
  have hCp := capP_in l
  have hCe := capE_in l
  have hf := h.2.2.2.1 f hf0 hf1
  have hn := h.2.2.1
  have hP := h.2.1
  have hC := h.1
  refine e_iload (dec_at dX2_sixfoldRoom 23) rfl ?_
  refine e_iconst (dec_at dX2_sixfoldRoom 24) ?_
  refine e_iadd (dec_at dX2_sixfoldRoom 25) ?_
  refine e_aload_n 0 (dec_at dX2_sixfoldRoom 26) rfl rfl ?_
  refine e_getr 4 (dec_at dX2_sixfoldRoom 27) flX2_15 rfl rfl ?_
  refine e_iload_n 3 (dec_at dX2_sixfoldRoom 28) rfl rfl ?_
  refine e_iconst (dec_at dX2_sixfoldRoom 29) ?_
  refine e_iadd (dec_at dX2_sixfoldRoom 30) ?_
  refine e_iald (dec_at dX2_sixfoldRoom 31) rfl (by decide) (aLk_13 _) (by omega) (fun r46 => ?_)
  refine e_icmp_ge 87 (dec_at dX2_sixfoldRoom 32) (by decide) (by omega) (by omega) (fun h47 => ?_) (fun h47 => ?_)
  · rw [flo_stop (by omega)] at K
    exact e_le [some (vR 11 l), some (vL a), none, some (vI f), none, none] (by simp [leL]) K
  · have hs := h.2.2.2.2 s h0 (by omega)
    have hs2 := h.2.2.2.2 (s + 1) (by omega) (by omega)
    refine e_lload_n 1 (dec_at dX2_sixfoldRoom 33) rfl rfl ?_
    refine e_aload_n 0 (dec_at dX2_sixfoldRoom 34) rfl rfl ?_
    refine e_iconst (dec_at dX2_sixfoldRoom 35) ?_
    refine e_iload (dec_at dX2_sixfoldRoom 36) rfl ?_
    refine e_imul (dec_at dX2_sixfoldRoom 37) ?_
    refine e_iconst (dec_at dX2_sixfoldRoom 38) ?_
    refine e_aload_n 0 (dec_at dX2_sixfoldRoom 39) rfl rfl ?_
    refine e_getr 5 (dec_at dX2_sixfoldRoom 40) flX2_18 rfl rfl ?_
    refine e_iload (dec_at dX2_sixfoldRoom 41) rfl ?_
    refine e_iald (dec_at dX2_sixfoldRoom 42) rfl (by decide) (aLk_14 _) (by omega) (fun r63 => ?_)
    refine e_imul (dec_at dX2_sixfoldRoom 43) ?_
    refine e_iconst (dec_at dX2_sixfoldRoom 44) ?_
    refine e_aload_n 0 (dec_at dX2_sixfoldRoom 45) rfl rfl ?_
    refine e_getr 5 (dec_at dX2_sixfoldRoom 46) flX2_18 rfl rfl ?_
    refine e_iload (dec_at dX2_sixfoldRoom 47) rfl ?_
    refine e_iconst (dec_at dX2_sixfoldRoom 48) ?_
    refine e_iadd (dec_at dX2_sixfoldRoom 49) ?_
    refine e_iald (dec_at dX2_sixfoldRoom 50) rfl (by decide) (aLk_14 _) (by omega) (fun r74 => ?_)
    refine e_imul (dec_at dX2_sixfoldRoom 51) ?_
    refine e_callVr (M' := mX2_sixfoldWedge) (dec_at dX2_sixfoldRoom 52) mlX2_99 (c_sixfoldWedge l (3 * p) (3 * μ 14 l s) (3 * μ 14 l (s + 1)) (by omega) (by omega) (by omega)) oX2_sixfoldWedge iX2_sixfoldWedge rfl rfl rfl rfl (by decide) (by decide) (Nat.le_of_ble_eq_true rfl) ?_
    refine e_ladd (dec_at dX2_sixfoldRoom 53) ?_
    refine e_ls1 (dec_at dX2_sixfoldRoom 54) (by decide) rfl ?_
    refine e_ii5 (dec_at dX2_sixfoldRoom 55) (by decide) rfl ?_
    refine e_goto 35 (dec_at dX2_sixfoldRoom 56) (by decide) ?_
    rw [flo_step (by omega)] at K
    exact ih _ (by omega) (s + 1) _ rfl (by omega) (by omega) K

set_option maxRecDepth 100000 in
set_option maxHeartbeats 4000000 in
theorem l_sixfoldRoom {μ : Mm} {l : Int} (h : NB1 μ l) : ∀ (q : Nat) (f : Int) (a : Int), (μ 11 l 1 - f).toNat = q → 0 ≤ f → f ≤ μ 11 l 1 → Ev mX2_sixfoldRoom 2 4 [some (vR 11 l), some (vL a), none, some (vI f), none, none] [] μ (Rt (some (vL (flo (fun f a => flo (fun s a => a + wdF (μ 12 l) (3 * μ 14 l (μ 13 l f)) (3 * μ 14 l s) (3 * μ 14 l (s + 1))) (μ 13 l f + 1) (μ 13 l (f + 1) - 1) a) f (μ 11 l 1) a))) μ) := by
  intro q
  induction q using Nat.strongRecOn with
  | _ q ih =>
  intro f a hq h0 h1
  have hCc := capC_in l
  have hCp := capP_in l
  have hCe := capE_in l
  have hn := h.2.2.1
  have hP := h.2.1
  refine e_iload_n 3 (dec_at dX2_sixfoldRoom 4) rfl rfl ?_
  refine e_aload_n 0 (dec_at dX2_sixfoldRoom 5) rfl rfl ?_
  refine e_geti 1 1 (dec_at dX2_sixfoldRoom 6) flX2_43 rfl rfl rfl (fun r6 => ?_)
  refine e_icmp_ge 93 (dec_at dX2_sixfoldRoom 7) (by decide) (by omega) (by omega) (fun h9 => ?_) (fun h9 => ?_)
  · refine e_lload_n 1 (dec_at dX2_sixfoldRoom 59) rfl rfl ?_
    refine e_lreturn (dec_at dX2_sixfoldRoom 60) rfl ?_
    exact ⟨by rw [flo_stop (by omega)], rfl⟩
  · have hf := h.2.2.2.1 f h0 (by omega)
    have hs := h.2.2.2.2 (μ 13 l f) (by omega) (by omega)
    refine e_aload_n 0 (dec_at dX2_sixfoldRoom 8) rfl rfl ?_
    refine e_getr 5 (dec_at dX2_sixfoldRoom 9) flX2_18 rfl rfl ?_
    refine e_aload_n 0 (dec_at dX2_sixfoldRoom 10) rfl rfl ?_
    refine e_getr 4 (dec_at dX2_sixfoldRoom 11) flX2_15 rfl rfl ?_
    refine e_iload_n 3 (dec_at dX2_sixfoldRoom 12) rfl rfl ?_
    refine e_iald (dec_at dX2_sixfoldRoom 13) rfl (by decide) (aLk_13 _) (by omega) (fun r21 => ?_)
    refine e_iald (dec_at dX2_sixfoldRoom 14) rfl (by decide) (aLk_14 _) (by omega) (fun r22 => ?_)
    refine e_is4 (dec_at dX2_sixfoldRoom 15) (by decide) rfl ?_
    refine e_aload_n 0 (dec_at dX2_sixfoldRoom 16) rfl rfl ?_
    refine e_getr 4 (dec_at dX2_sixfoldRoom 17) flX2_15 rfl rfl ?_
    refine e_iload_n 3 (dec_at dX2_sixfoldRoom 18) rfl rfl ?_
    refine e_iald (dec_at dX2_sixfoldRoom 19) rfl (by decide) (aLk_13 _) (by omega) (fun r30 => ?_)
    refine e_iconst (dec_at dX2_sixfoldRoom 20) ?_
    refine e_iadd (dec_at dX2_sixfoldRoom 21) ?_
    refine e_is5 (dec_at dX2_sixfoldRoom 22) (by decide) rfl ?_
    refine l_sixfoldRoom1 h h0 (by omega) (by omega) _ _ _ rfl (by omega) (by omega) ?_
    refine e_ii3 (dec_at dX2_sixfoldRoom 57) (by decide) rfl ?_
    refine e_goto 4 (dec_at dX2_sixfoldRoom 58) (by decide) ?_
    rw [flo_step (i := f) (e := μ 11 l 1) (by omega)]
    exact ih _ (by omega) (f + 1) _ rfl (by omega) (by omega)

set_option maxRecDepth 100000 in
set_option maxHeartbeats 4000000 in
theorem c_sixfoldRoom {μ : Mm} (l : Int) (h : NB1 μ l) : Mc mX2_sixfoldRoom 2 [vR 11 l] μ (Rt (some (vL (flo (fun f a => flo (fun s a => a + wdF (μ 12 l) (3 * μ 14 l (μ 13 l f)) (3 * μ 14 l s) (3 * μ 14 l (s + 1))) (μ 13 l f + 1) (μ 13 l (f + 1) - 1) a) 0 (μ 11 l 1) 0))) μ) := by
  refine Mc.of (L := [some (vR 11 l), none, none, none, none, none]) (by decide +kernel) (by simp [leL, entA, isLong, mX2_sixfoldRoom]) (by simp [entA, isLong, mX2_sixfoldRoom]) ?_
  have hCc := capC_in l
  have hCp := capP_in l
  have hCe := capE_in l
  have hP := h.2.1
  refine e_lconst 0 (dec_at dX2_sixfoldRoom 0) rfl ?_
  refine e_ls1 (dec_at dX2_sixfoldRoom 1) (by decide) rfl ?_
  refine e_iconst (dec_at dX2_sixfoldRoom 2) ?_
  refine e_is3 (dec_at dX2_sixfoldRoom 3) (by decide) rfl ?_
  exact l_sixfoldRoom h _ _ _ rfl (by omega) (by omega)
