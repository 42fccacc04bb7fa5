/-! THE REFERENCE refines: the corners -/
theorem e6i {B : Net} (g : Good B) {s t : Int} (h0 : 0 ≤ s) (h1 : s < nN B) (g0 : 0 ≤ t) (g1 : t < nN B) (e3 : B 3 s = B 3 t) (e6 : B 6 s = B 6 t) : s = t := by
  rcases g.eoe h0 h1 g0 g1 e6 with z | z
  · exact z.symm
  · exfalso
    have b := g.1.b1 h0 h1
    apply g.1.nl h0 h1
    rw [← b.2.2.2, ← z, e3]
theorem ed_at {B : Net} (g : Good B) {s e : Int} (e0 : 0 ≤ e) (e1 : e < B 0 2) {c : Int} (q : B 3 (B 7 e) = c ∨ B 3 (nx B (B 7 e)) = c) : ∃ s, (0 ≤ s ∧ s < nN B) ∧ B 3 s = c ∧ B 6 s = e := by
  have m := g.mt e0 e1
  have b := g.1.b1 m.1.1 m.1.2
  rcases q with q | q
  · exact ⟨B 7 e, m.1, q, m.2.2.1⟩
  · exact ⟨B 5 (B 7 e), b.2.1, by rw [b.2.2.2]; exact q, by rw [g.eob m.1.1 m.1.2]; exact m.2.2.1⟩

set_option maxRecDepth 100000 in
set_option maxHeartbeats 4000000 in
theorem l_rfF {μ : Mm} {B : Net} {l : Int} {Q : Option Vv → Mm → Prop} (h : RH μ l B) {c : Int} (c0 : 0 ≤ c) (c1 : c < B 0 0) {ν : Mm} (fr : FU μ ν l) : ∀ (q : Nat) (e : Int), (B 6 (B 9 c) - e).toNat = q → 0 ≤ e → e ≤ B 6 (B 9 c) → (Ev mX6_refine 3 281 [some (vR 21 0), some (vI l), some (vI (l + 1)), some (vI c), some (vI (B 6 (B 9 c))), none, none, none, none] [] ν Q) → Ev mX6_refine 3 241 [some (vR 21 0), some (vI l), some (vI (l + 1)), some (vI c), some (vI e), none, none, none, none] [] ν (Q) := by
  intro q
  induction q using Nat.strongRecOn with
  | _ q ih =>
  intro e hq e0 e1 K
  have hl := h.2.2.2.1
  have hcap := h.2.2.2.2.1
  have hE0 := h.2.2.1.1
  have gp := h.2.1.gp
  have gp0 := gp.1
  have cc := h.2.1.1.2.1.1
  have cc2 := h.2.1.1.2.2.2.2
  have n7 := h.2.1.1.2.2.2.1
  have dr := h.1.2.2 c c0 c1
  have er := h.1.eor dr.2.1.1 dr.2.1.2
  have kk := (fr.me h.2.2.1).2.2 e e0 (by omega)
  have k1 : ν 30 0 (350 * l + e) = B 3 (B 7 e) := kk.1
  have k2 : ν 31 0 (350 * l + e) = B 3 (nx B (B 7 e)) := kk.2
  refine e_aload_n 0 (dec_at dX6_refine 150) rfl rfl ?_
  refine e_getr 14 (dec_at dX6_refine 151) flX6_34 rfl rfl ?_
  refine e_sipush (dec_at dX6_refine 152) (by decide) ?_
  refine e_iload_n 1 (dec_at dX6_refine 153) rfl rfl ?_
  refine e_imul (dec_at dX6_refine 154) ?_
  refine e_iload (dec_at dX6_refine 155) rfl ?_
  refine e_iadd (dec_at dX6_refine 156) ?_
  refine e_ialdv (B 3 (B 7 e)) (dec_at dX6_refine 157) rfl (by decide) (aLk_30 _) (by omega) (by exact k1) (fun r253 => ?_)
  refine e_iload_n 3 (dec_at dX6_refine 158) rfl rfl ?_
  refine e_icmp_eq 281 (dec_at dX6_refine 159) (by decide) (by omega) (by omega) (fun h255 => ?_) (fun h255 => ?_)
  · obtain ⟨s, s0, s3, s6⟩ := ed_at (s := 0) h.1 e0 (by omega) (c := c) (by omega)
    have := dr.2.2.2 s s0.1 s0.2 s3
    obtain rfl : e = B 6 (B 9 c) := by omega
    exact K
  · refine e_aload_n 0 (dec_at dX6_refine 160) rfl rfl ?_
    refine e_getr 15 (dec_at dX6_refine 161) flX6_37 rfl rfl ?_
    refine e_sipush (dec_at dX6_refine 162) (by decide) ?_
    refine e_iload_n 1 (dec_at dX6_refine 163) rfl rfl ?_
    refine e_imul (dec_at dX6_refine 164) ?_
    refine e_iload (dec_at dX6_refine 165) rfl ?_
    refine e_iadd (dec_at dX6_refine 166) ?_
    refine e_ialdv (B 3 (nx B (B 7 e))) (dec_at dX6_refine 167) rfl (by decide) (aLk_31 _) (by omega) (by exact k2) (fun r270 => ?_)
    refine e_iload_n 3 (dec_at dX6_refine 168) rfl rfl ?_
    refine e_icmp_eq 281 (dec_at dX6_refine 169) (by decide) (by omega) (by omega) (fun h272 => ?_) (fun h272 => ?_)
    · obtain ⟨s, s0, s3, s6⟩ := ed_at (s := 0) h.1 e0 (by omega) (c := c) (by omega)
      have := dr.2.2.2 s s0.1 s0.2 s3
      obtain rfl : e = B 6 (B 9 c) := by omega
      exact K
    · refine e_ii4 (dec_at dX6_refine 170) (by decide) rfl ?_
      refine e_goto 241 (dec_at dX6_refine 171) (by decide) ?_
      have ne : e ≠ B 6 (B 9 c) := fun q => by
        have z := ed_is h.1 dr.2.1.1 dr.2.1.2
        rw [← q, dr.2.2.1] at z
        omega
      exact ih _ (by omega) (e + 1) rfl (by omega) (by omega) K

set_option maxRecDepth 100000 in
set_option maxHeartbeats 4000000 in
theorem l_rfC {μ : Mm} {B : Net} {l : Int} {Q : Option Vv → Mm → Prop} (h : RH μ l B) {c : Int} (c0 : 0 ≤ c) (c1 : c < B 0 0) : ∀ (q : Nat) (j : Nat) (u : Int) (ν : Mm), (deg B c - j) = q → j < deg B c → u = it (rho B) j (B 9 c) → RT μ l B (B 0 1 + c) (j : Int) ν → (∀ ν : Mm, RS μ l B (B 0 1 + c + 1) ν → Ev mX6_refine 3 399 [some (vR 21 0), some (vI l), some (vI (l + 1)), some (vI c), none, none, none, none, none] [] ν Q) → Ev mX6_refine 3 285 [some (vR 21 0), some (vI l), some (vI (l + 1)), some (vI c), some (vI (B 6 (B 9 c))), some (vI (B 6 u)), none, none, none] [] ν (Q) := by
  intro q
  induction q using Nat.strongRecOn with
  | _ q ih =>
  intro j u ν hq hj hu s K
  have hl := h.2.2.2.1
  have hcap := h.2.2.2.2.1
  have hE0 := h.2.2.1.1
  have gp := h.2.1.gp
  have gp0 := gp.1
  have cc := h.2.1.1.2.1.1
  have cc2 := h.2.1.1.2.2.2.2
  have n7 := h.2.1.1.2.2.2.1
  have dr := h.1.door c0 c1
  have er := h.1.eor dr.1.1 dr.1.2
  have ui := h.1.1.itr dr.1.1 dr.1.2 j
  rw [← hu] at ui
  have u3 : B 3 u = c := ui.2.trans dr.2.1
  have ue := h.1.eor ui.1.1 ui.1.2
  have hd := h.d (g := B 0 1 + c) (by omega) (by omega)
  have d1 := rf_st h.1.1 (c := c) c0
  have d2 := rf_st h.1.1 (c := c + 1) (by omega)
  rw [show B 0 1 + (c + 1) = B 0 1 + c + 1 by omega, st_s h.1.1 c] at d2
  have ua := un_at h.1 c0 c1 hj
  have d3 : rfA B 3 (rfA B 2 (B 0 1 + c) + j) = B 6 u := by
    rw [d1, rf_3h ua.1.1, ua.2.2, hu]
  have hb := s.b
  have e24 := s.2.1
  have e17 := s.2.2.1
  have s2 := s.on h (c := B 6 u) (by omega) (by omega) (by omega) (by omega) d3.symm
  have ei := ed_is h.1 ui.1.1 ui.1.2
  have nl := h.1.1.nl ui.1.1 ui.1.2
  have kk := (s2.1.me h.2.2.1).2.2 (B 6 u) ue.1 ue.2
  have k1 := kk.1
  have k2 := kk.2
  unfold gA at k1
  unfold gB at k2
  have hM := s2.1.mp (Int.le_refl _) h.2.1
  have rg := h.2.1.rg ui.1.1 ui.1.2
  have hP := h.2.1.1.2.2.1
  have pr := gp.pvr ui.1.1 ui.1.2
  have rp := h.2.1.rg pr.1.1 pr.1.2
  have np := gp.nxpv ui.1.1 ui.1.2
  generalize hω : mset (mset (mset ν 29 0 (700 * (l + 1) + ν 21 0 17) (B 6 u)) 21 0 17 (ν 21 0 17 + 1)) 28 0 (160 * (l + 1) + ν 24 0 (l + 1) - 1) (ν 28 0 (160 * (l + 1) + ν 24 0 (l + 1) - 1) + 1) = ω at s2 kk k1 k2 hM
  refine e_aload_n 0 (dec_at dX6_refine 174) rfl rfl ?_
  refine e_iload_n 2 (dec_at dX6_refine 175) rfl rfl ?_
  refine e_iload (dec_at dX6_refine 176) rfl ?_
  refine e_callVv (M' := mX6_ringOn) (dec_at dX6_refine 177) mlX6_128 (Mc.rt (m_ringOn (l + 1) (B 6 u) (by omega) (by omega) (by omega) (by omega) (by omega)) rfl hω) oX6_ringOn iX6_ringOn rfl rfl rfl rfl (by decide) (by decide) (Nat.le_of_ble_eq_true rfl) ?_
  refine e_aload_n 0 (dec_at dX6_refine 178) rfl rfl ?_
  refine e_getr 14 (dec_at dX6_refine 179) flX6_34 rfl rfl ?_
  refine e_sipush (dec_at dX6_refine 180) (by decide) ?_
  refine e_iload_n 1 (dec_at dX6_refine 181) rfl rfl ?_
  refine e_imul (dec_at dX6_refine 182) ?_
  refine e_iload (dec_at dX6_refine 183) rfl ?_
  refine e_iadd (dec_at dX6_refine 184) ?_
  refine e_ialdv (B 3 (B 7 (B 6 u))) (dec_at dX6_refine 185) rfl (by decide) (aLk_30 _) (by omega) (by exact k1) (fun r304 => ?_)
  refine e_iload_n 3 (dec_at dX6_refine 186) rfl rfl ?_
  refine e_icmp_ne 325 (dec_at dX6_refine 187) (by decide) (by omega) (by omega) (fun h306 => ?_) (fun h306 => ?_)
  · refine e_aload_n 0 (dec_at dX6_refine 197) rfl rfl ?_
    refine e_getr 14 (dec_at dX6_refine 198) flX6_34 rfl rfl ?_
    refine e_sipush (dec_at dX6_refine 199) (by decide) ?_
    refine e_iload_n 1 (dec_at dX6_refine 200) rfl rfl ?_
    refine e_imul (dec_at dX6_refine 201) ?_
    refine e_iload (dec_at dX6_refine 202) rfl ?_
    refine e_iadd (dec_at dX6_refine 203) ?_
    refine e_ialdv (B 3 (nx B u)) (dec_at dX6_refine 204) rfl (by decide) (aLk_30 _) (by omega) (by rw [k1]; omega) (fun r337 => ?_)
    refine e_is6 (dec_at dX6_refine 205) (by decide) rfl ?_
    refine e_aload_n 0 (dec_at dX6_refine 206) rfl rfl ?_
    refine e_iload_n 1 (dec_at dX6_refine 207) rfl rfl ?_
    refine e_iload_n 3 (dec_at dX6_refine 208) rfl rfl ?_
    refine e_iload (dec_at dX6_refine 209) rfl ?_
    refine e_aload_n 0 (dec_at dX6_refine 210) rfl rfl ?_
    refine e_getr 8 (dec_at dX6_refine 211) flX6_16 rfl rfl ?_
    refine e_iload_n 1 (dec_at dX6_refine 212) rfl rfl ?_
    refine e_ialdv (B 0 1) (dec_at dX6_refine 213) rfl (by decide) (aLk_24 _) (by omega) (by exact hM.2.2.1) (fun r350 => ?_)
    refine e_callV (M' := mX6_faceWith) (dec_at dX6_refine 214) mlX6_95 (m_faceWith (μ := ω) (B := B) l c (B 3 (nx B u)) (B 0 1) hM (by omega) (by omega) (by omega)) oX6_faceWith iX6_faceWith rfl rfl rfl rfl (by decide) (by decide) (Nat.le_of_ble_eq_true rfl) (fun r ω2 hQ => ?_)
    obtain ⟨v, rfl, hor⟩ := hQ
    replace hor := hor.resolve_left (fun q => q.2.2 u ui.1.1 ui.1.2 ⟨u3, rfl⟩)
    obtain ⟨hv, k, hk, hω2, wa, wb⟩ := hor
    have hat := h.2.1.at hv.1 hv.2
    have hue : B 2 v + k = u := h.1.1.u (by omega) (by omega) ui.1.1 ui.1.2 (by rw [wa, u3]) wb
    have s3 : RT μ l B (B 0 1 + c) ((j : Int) + 1) ω2 := by rw [hω2]; exact s2.m16
    have hM2 := s3.1.mp (Int.le_refl _) h.2.1
    have e16 : ω2 21 0 16 = k := by rw [hω2]; exact mset_eq
    have hm0 := Int.emod_nonneg (k + (B 2 (v + 1) - B 2 v) - 1) (show B 2 (v + 1) - B 2 v ≠ 0 by omega)
    have hm1 := Int.emod_lt_of_pos (k + (B 2 (v + 1) - B 2 v) - 1) (show 0 < B 2 (v + 1) - B 2 v by omega)
    have hpv := pv_at gp hv.1 hv.2 hk.1 hk.2
    rw [hue] at hpv
    show Ev mX6_refine 3 354 _ [vI v] ω2 _
    refine e_is7 (dec_at dX6_refine 215) (by decide) rfl ?_
    refine e_aload_n 0 (dec_at dX6_refine 216) rfl rfl ?_
    refine e_iload_n 1 (dec_at dX6_refine 217) rfl rfl ?_
    refine e_iload (dec_at dX6_refine 218) rfl ?_
    refine e_callVr (M' := mX6_sizeOf) (dec_at dX6_refine 219) mlX6_70 (m_sizeOf (μ := ω2) (B := B) l v hM2 hv.1 hv.2) oX6_sizeOf iX6_sizeOf rfl rfl rfl rfl (by decide) (by decide) (Nat.le_of_ble_eq_true rfl) ?_
    refine e_is8 (dec_at dX6_refine 220) (by decide) rfl ?_
    refine e_aload_n 0 (dec_at dX6_refine 221) rfl rfl ?_
    refine e_iload_n 1 (dec_at dX6_refine 222) rfl rfl ?_
    refine e_aload_n 0 (dec_at dX6_refine 223) rfl rfl ?_
    refine e_iload_n 1 (dec_at dX6_refine 224) rfl rfl ?_
    refine e_iload (dec_at dX6_refine 225) rfl ?_
    refine e_aload_n 0 (dec_at dX6_refine 226) rfl rfl ?_
    refine e_getiv 16 16 (k) (dec_at dX6_refine 227) flX6_92 rfl rfl rfl (by exact e16) (fun r372 => ?_)
    refine e_iload (dec_at dX6_refine 228) rfl ?_
    refine e_iadd (dec_at dX6_refine 229) ?_
    refine e_iconst (dec_at dX6_refine 230) ?_
    refine e_isub (dec_at dX6_refine 231) ?_
    refine e_iload (dec_at dX6_refine 232) rfl ?_
    refine e_irem (dec_at dX6_refine 233) (by omega) (by omega) ?_
    refine e_callVr (M' := mX6_cornerOf) (dec_at dX6_refine 234) mlX6_74 (Mc.rt (r' := some (vI (B 3 (pv B u)))) (m_cornerOf (μ := ω2) (B := B) l v ((k + (B 2 (v + 1) - B 2 v) - 1) % (B 2 (v + 1) - B 2 v)) hM2 hv.1 hv.2 hm0 hm1) (by rw [hpv]) rfl) oX6_cornerOf iX6_cornerOf rfl rfl rfl rfl (by decide) (by decide) (Nat.le_of_ble_eq_true rfl) ?_
    refine e_iload_n 3 (dec_at dX6_refine 235) rfl rfl ?_
    refine e_callV (M' := mX6_edgeOf) (dec_at dX6_refine 236) mlX6_115 (m_edgeOf (μ := ω2) l (B 3 (pv B u)) c (by omega) (by rw [(s3.1.me h.2.2.1).2.1]; exact hE0) (by omega) (by omega)) oX6_edgeOf iX6_edgeOf rfl rfl rfl rfl (by decide) (by decide) (Nat.le_of_ble_eq_true rfl) (fun r ω3 hQ => ?_)
    obtain ⟨hωe, w, rfl, hw⟩ := hQ
    subst hωe
    have hw2 : w = B 6 (pv B u) := edgeV h.1 (s3.1.me h.2.2.1) pr.1.1 pr.1.2 (by rw [np, u3]; exact hw)
    have hw3 : B 6 (pv B u) = B 6 (rho B u) := (h.1.eob pr.1.1 pr.1.2).symm
    rw [hw3] at hw2
    subst hw2
    have r1 : rho B u = it (rho B) (j + 1) (B 9 c) := by rw [hu]; rfl
    have rr := h.1.1.rh ui.1.1 ui.1.2
    have re := h.1.eor rr.1.1 rr.1.2
    show Ev mX6_refine 3 390 _ [vI (B 6 (rho B u))] ω3 _
    refine e_is5 (dec_at dX6_refine 237) (by decide) rfl ?_
    refine e_iload (dec_at dX6_refine 238) rfl ?_
    refine e_iload (dec_at dX6_refine 239) rfl ?_
    refine e_icmp_ne 285 (dec_at dX6_refine 240) (by decide) (by omega) (by omega) (fun h396 => ?_) (fun h396 => ?_)
    · have je : j + 1 ≠ deg B c := fun q => by
        rw [q, dr.2.2.2.2.2.1] at r1
        rw [r1] at h396
        exact h396 rfl
      refine e_le [some (vR 21 0), some (vI l), some (vI (l + 1)), some (vI c), some (vI (B 6 (B 9 c))), some (vI (B 6 (rho B u))), none, none, none] (by simp [leL]) (ih _ (by omega) (j + 1) (rho B u) ω3 rfl (by omega) r1 (by rw [show ((j + 1 : Nat) : Int) = (j : Int) + 1 by omega]; exact s3) K)
    · have je : j + 1 = deg B c := by
        apply Classical.byContradiction
        intro q
        have z := dr.2.2.2.2.1 (j + 1) (by omega) (by omega)
        rw [← r1] at z
        exact z (e6i h.1 rr.1.1 rr.1.2 dr.1.1 dr.1.2 (by rw [rr.2, u3, dr.2.1]) (by omega))
      exact e_le [some (vR 21 0), some (vI l), some (vI (l + 1)), some (vI c), none, none, none, none, none] (by simp [leL]) (K ω3 (s3.done (by omega)))
  · refine e_aload_n 0 (dec_at dX6_refine 188) rfl rfl ?_
    refine e_getr 15 (dec_at dX6_refine 189) flX6_37 rfl rfl ?_
    refine e_sipush (dec_at dX6_refine 190) (by decide) ?_
    refine e_iload_n 1 (dec_at dX6_refine 191) rfl rfl ?_
    refine e_imul (dec_at dX6_refine 192) ?_
    refine e_iload (dec_at dX6_refine 193) rfl ?_
    refine e_iadd (dec_at dX6_refine 194) ?_
    refine e_ialdv (B 3 (nx B u)) (dec_at dX6_refine 195) rfl (by decide) (aLk_31 _) (by omega) (by rw [k2]; omega) (fun r321 => ?_)
    refine e_goto 338 (dec_at dX6_refine 196) (by decide) ?_
    refine e_is6 (dec_at dX6_refine 205) (by decide) rfl ?_
    refine e_aload_n 0 (dec_at dX6_refine 206) rfl rfl ?_
    refine e_iload_n 1 (dec_at dX6_refine 207) rfl rfl ?_
    refine e_iload_n 3 (dec_at dX6_refine 208) rfl rfl ?_
    refine e_iload (dec_at dX6_refine 209) rfl ?_
    refine e_aload_n 0 (dec_at dX6_refine 210) rfl rfl ?_
    refine e_getr 8 (dec_at dX6_refine 211) flX6_16 rfl rfl ?_
    refine e_iload_n 1 (dec_at dX6_refine 212) rfl rfl ?_
    refine e_ialdv (B 0 1) (dec_at dX6_refine 213) rfl (by decide) (aLk_24 _) (by omega) (by exact hM.2.2.1) (fun r350 => ?_)
    refine e_callV (M' := mX6_faceWith) (dec_at dX6_refine 214) mlX6_95 (m_faceWith (μ := ω) (B := B) l c (B 3 (nx B u)) (B 0 1) hM (by omega) (by omega) (by omega)) oX6_faceWith iX6_faceWith rfl rfl rfl rfl (by decide) (by decide) (Nat.le_of_ble_eq_true rfl) (fun r ω2 hQ => ?_)
    obtain ⟨v, rfl, hor⟩ := hQ
    replace hor := hor.resolve_left (fun q => q.2.2 u ui.1.1 ui.1.2 ⟨u3, rfl⟩)
    obtain ⟨hv, k, hk, hω2, wa, wb⟩ := hor
    have hat := h.2.1.at hv.1 hv.2
    have hue : B 2 v + k = u := h.1.1.u (by omega) (by omega) ui.1.1 ui.1.2 (by rw [wa, u3]) wb
    have s3 : RT μ l B (B 0 1 + c) ((j : Int) + 1) ω2 := by rw [hω2]; exact s2.m16
    have hM2 := s3.1.mp (Int.le_refl _) h.2.1
    have e16 : ω2 21 0 16 = k := by rw [hω2]; exact mset_eq
    have hm0 := Int.emod_nonneg (k + (B 2 (v + 1) - B 2 v) - 1) (show B 2 (v + 1) - B 2 v ≠ 0 by omega)
    have hm1 := Int.emod_lt_of_pos (k + (B 2 (v + 1) - B 2 v) - 1) (show 0 < B 2 (v + 1) - B 2 v by omega)
    have hpv := pv_at gp hv.1 hv.2 hk.1 hk.2
    rw [hue] at hpv
    show Ev mX6_refine 3 354 _ [vI v] ω2 _
    refine e_is7 (dec_at dX6_refine 215) (by decide) rfl ?_
    refine e_aload_n 0 (dec_at dX6_refine 216) rfl rfl ?_
    refine e_iload_n 1 (dec_at dX6_refine 217) rfl rfl ?_
    refine e_iload (dec_at dX6_refine 218) rfl ?_
    refine e_callVr (M' := mX6_sizeOf) (dec_at dX6_refine 219) mlX6_70 (m_sizeOf (μ := ω2) (B := B) l v hM2 hv.1 hv.2) oX6_sizeOf iX6_sizeOf rfl rfl rfl rfl (by decide) (by decide) (Nat.le_of_ble_eq_true rfl) ?_
    refine e_is8 (dec_at dX6_refine 220) (by decide) rfl ?_
    refine e_aload_n 0 (dec_at dX6_refine 221) rfl rfl ?_
    refine e_iload_n 1 (dec_at dX6_refine 222) rfl rfl ?_
    refine e_aload_n 0 (dec_at dX6_refine 223) rfl rfl ?_
    refine e_iload_n 1 (dec_at dX6_refine 224) rfl rfl ?_
    refine e_iload (dec_at dX6_refine 225) rfl ?_
    refine e_aload_n 0 (dec_at dX6_refine 226) rfl rfl ?_
    refine e_getiv 16 16 (k) (dec_at dX6_refine 227) flX6_92 rfl rfl rfl (by exact e16) (fun r372 => ?_)
    refine e_iload (dec_at dX6_refine 228) rfl ?_
    refine e_iadd (dec_at dX6_refine 229) ?_
    refine e_iconst (dec_at dX6_refine 230) ?_
    refine e_isub (dec_at dX6_refine 231) ?_
    refine e_iload (dec_at dX6_refine 232) rfl ?_
    refine e_irem (dec_at dX6_refine 233) (by omega) (by omega) ?_
    refine e_callVr (M' := mX6_cornerOf) (dec_at dX6_refine 234) mlX6_74 (Mc.rt (r' := some (vI (B 3 (pv B u)))) (m_cornerOf (μ := ω2) (B := B) l v ((k + (B 2 (v + 1) - B 2 v) - 1) % (B 2 (v + 1) - B 2 v)) hM2 hv.1 hv.2 hm0 hm1) (by rw [hpv]) rfl) oX6_cornerOf iX6_cornerOf rfl rfl rfl rfl (by decide) (by decide) (Nat.le_of_ble_eq_true rfl) ?_
    refine e_iload_n 3 (dec_at dX6_refine 235) rfl rfl ?_
    refine e_callV (M' := mX6_edgeOf) (dec_at dX6_refine 236) mlX6_115 (m_edgeOf (μ := ω2) l (B 3 (pv B u)) c (by omega) (by rw [(s3.1.me h.2.2.1).2.1]; exact hE0) (by omega) (by omega)) oX6_edgeOf iX6_edgeOf rfl rfl rfl rfl (by decide) (by decide) (Nat.le_of_ble_eq_true rfl) (fun r ω3 hQ => ?_)
    obtain ⟨hωe, w, rfl, hw⟩ := hQ
    subst hωe
    have hw2 : w = B 6 (pv B u) := edgeV h.1 (s3.1.me h.2.2.1) pr.1.1 pr.1.2 (by rw [np, u3]; exact hw)
    have hw3 : B 6 (pv B u) = B 6 (rho B u) := (h.1.eob pr.1.1 pr.1.2).symm
    rw [hw3] at hw2
    subst hw2
    have r1 : rho B u = it (rho B) (j + 1) (B 9 c) := by rw [hu]; rfl
    have rr := h.1.1.rh ui.1.1 ui.1.2
    have re := h.1.eor rr.1.1 rr.1.2
    show Ev mX6_refine 3 390 _ [vI (B 6 (rho B u))] ω3 _
    refine e_is5 (dec_at dX6_refine 237) (by decide) rfl ?_
    refine e_iload (dec_at dX6_refine 238) rfl ?_
    refine e_iload (dec_at dX6_refine 239) rfl ?_
    refine e_icmp_ne 285 (dec_at dX6_refine 240) (by decide) (by omega) (by omega) (fun h396 => ?_) (fun h396 => ?_)
    · have je : j + 1 ≠ deg B c := fun q => by
        rw [q, dr.2.2.2.2.2.1] at r1
        rw [r1] at h396
        exact h396 rfl
      refine e_le [some (vR 21 0), some (vI l), some (vI (l + 1)), some (vI c), some (vI (B 6 (B 9 c))), some (vI (B 6 (rho B u))), none, none, none] (by simp [leL]) (ih _ (by omega) (j + 1) (rho B u) ω3 rfl (by omega) r1 (by rw [show ((j + 1 : Nat) : Int) = (j : Int) + 1 by omega]; exact s3) K)
    · have je : j + 1 = deg B c := by
        apply Classical.byContradiction
        intro q
        have z := dr.2.2.2.2.1 (j + 1) (by omega) (by omega)
        rw [← r1] at z
        exact z (e6i h.1 rr.1.1 rr.1.2 dr.1.1 dr.1.2 (by rw [rr.2, u3, dr.2.1]) (by omega))
      exact e_le [some (vR 21 0), some (vI l), some (vI (l + 1)), some (vI c), none, none, none, none, none] (by simp [leL]) (K ω3 (s3.done (by omega)))

set_option maxRecDepth 100000 in
set_option maxHeartbeats 4000000 in
theorem l_rfD {μ : Mm} {B : Net} {l : Int} (h : RH μ l B) : ∀ (q : Nat) (c : Int) (ν : Mm), (B 0 0 - c).toNat = q → 0 ≤ c → c ≤ B 0 0 → RS μ l B (B 0 1 + c) ν → Ev mX6_refine 3 223 [some (vR 21 0), some (vI l), some (vI (l + 1)), some (vI c), none, none, none, none, none] [] ν (fun r ν => r = none ∧ RS μ l B (B 0 1 + B 0 0) ν) := by
  intro q
  induction q using Nat.strongRecOn with
  | _ q ih =>
  intro c ν hq c0 c1 s
  have hl := h.2.2.2.1
  have hcap := h.2.2.2.2.1
  have hE0 := h.2.2.1.1
  have gp := h.2.1.gp
  have gp0 := gp.1
  have cc := h.2.1.1.2.1.1
  have cc2 := h.2.1.1.2.2.2.2
  have n7 := h.2.1.1.2.2.2.1
  have hM := s.1.mp (Int.le_refl _) h.2.1
  have e24 := s.2.1
  refine e_iload_n 3 (dec_at dX6_refine 139) rfl rfl ?_
  refine e_aload_n 0 (dec_at dX6_refine 140) rfl rfl ?_
  refine e_getr 7 (dec_at dX6_refine 141) flX6_13 rfl rfl ?_
  refine e_iload_n 1 (dec_at dX6_refine 142) rfl rfl ?_
  refine e_ialdv (B 0 0) (dec_at dX6_refine 143) rfl (by decide) (aLk_23 _) (by omega) (by exact hM.2.1) (fun r229 => ?_)
  refine e_icmp_ge 405 (dec_at dX6_refine 144) (by decide) (by omega) (by omega) (fun h230 => ?_) (fun h230 => ?_)
  · refine e_return (dec_at dX6_refine 243) rfl ?_
    obtain rfl : c = B 0 0 := by omega
    exact ⟨rfl, s⟩
  · refine e_aload_n 0 (dec_at dX6_refine 145) rfl rfl ?_
    refine e_iload_n 2 (dec_at dX6_refine 146) rfl rfl ?_
    refine e_callVv (M' := mX6_beginFace) (dec_at dX6_refine 147) mlX6_124 (m_beginFace (l + 1) (by omega) (by omega)) oX6_beginFace iX6_beginFace rfl rfl rfl rfl (by decide) (by decide) (Nat.le_of_ble_eq_true rfl) ?_
    have s1 := s.begin h (by omega) (by omega)
    have dr := h.1.door c0 (c := c) (by omega)
    have er := h.1.eor dr.1.1 dr.1.2
    refine e_iconst (dec_at dX6_refine 148) ?_
    refine e_is4 (dec_at dX6_refine 149) (by decide) rfl ?_
    refine l_rfF h c0 (by omega) s1.1 _ 0 rfl (by omega) (by omega) ?_
    refine e_iload (dec_at dX6_refine 172) rfl ?_
    refine e_is5 (dec_at dX6_refine 173) (by decide) rfl ?_
    refine l_rfC h c0 (by omega) _ 0 (B 9 c) _ rfl (by omega) rfl s1 (fun ν s => ?_)
    refine e_ii3 (dec_at dX6_refine 241) (by decide) rfl ?_
    refine e_goto 223 (dec_at dX6_refine 242) (by decide) ?_
    refine ih _ (by omega) (c + 1) ν rfl (by omega) (by omega) (by rw [show B 0 1 + (c + 1) = B 0 1 + c + 1 by omega]; exact s)

set_option maxRecDepth 100000 in
set_option maxHeartbeats 4000000 in
theorem m_refine {μ : Mm} {B : Net} (l : Int) (h : RH μ l B) : Mc mX6_refine 3 [vR 21 0, vI l] μ (fun r ν => r = none ∧ RS μ l B (B 0 1 + B 0 0) ν) := by
  refine Mc.of (L := [some (vR 21 0), some (vI l), none, none, none, none, none, none, none]) (by decide +kernel) (by simp [leL, entA, isLong, mX6_refine]) (by simp [entA, isLong, mX6_refine]) ?_
  have hl := h.2.2.2.1
  have hcap := h.2.2.2.2.1
  have hE0 := h.2.2.1.1
  have gp := h.2.1.gp
  have gp0 := gp.1
  have cc := h.2.1.1.2.1.1
  have cc2 := h.2.1.1.2.2.2.2
  have n7 := h.2.1.1.2.2.2.1
  refine e_iload_n 1 (dec_at dX6_refine 0) rfl rfl ?_
  refine e_iconst (dec_at dX6_refine 1) ?_
  refine e_iadd (dec_at dX6_refine 2) ?_
  refine e_is2 (dec_at dX6_refine 3) (by decide) rfl ?_
  refine e_aload_n 0 (dec_at dX6_refine 4) rfl rfl ?_
  refine e_getr 7 (dec_at dX6_refine 5) flX6_13 rfl rfl ?_
  refine e_iload_n 2 (dec_at dX6_refine 6) rfl rfl ?_
  refine e_aload_n 0 (dec_at dX6_refine 7) rfl rfl ?_
  refine e_getr 9 (dec_at dX6_refine 8) flX6_19 rfl rfl ?_
  refine e_iload_n 1 (dec_at dX6_refine 9) rfl rfl ?_
  refine e_ialdv (B 0 2) (dec_at dX6_refine 10) rfl (by decide) (aLk_25 _) (by omega) (by exact h.2.2.1.2.1) (fun r14 => ?_)
  refine e_iast (dec_at dX6_refine 11) rfl (by decide) (aLk_23 _) (by omega) (by omega) ?_
  refine e_iconst (dec_at dX6_refine 12) ?_
  refine e_is3 (dec_at dX6_refine 13) (by decide) rfl ?_
  refine l_rfA h _ 0 _ rfl (by omega) (by omega) (fr_set (fun _ _ _ _ => rfl) (by omega)) mset_eq (fun i a i0 i1 => by omega) (fun ν fr e23 hn => ?_)
  refine e_aload_n 0 (dec_at dX6_refine 90) rfl rfl ?_
  refine e_getr 8 (dec_at dX6_refine 91) flX6_16 rfl rfl ?_
  refine e_iload_n 2 (dec_at dX6_refine 92) rfl rfl ?_
  refine e_iconst (dec_at dX6_refine 93) ?_
  refine e_iast (dec_at dX6_refine 94) rfl (by decide) (aLk_24 _) (by omega) (by omega) ?_
  refine e_aload_n 0 (dec_at dX6_refine 95) rfl rfl ?_
  refine e_iconst (dec_at dX6_refine 96) ?_
  refine e_put 17 17 (dec_at dX6_refine 97) flX6_118 fpX6_17 rfl rfl rfl (by omega) (fit_int _) ?_
  refine e_iconst (dec_at dX6_refine 98) ?_
  refine e_is3 (dec_at dX6_refine 99) (by decide) rfl ?_
  refine l_rfB1 h _ 0 _ rfl (by omega) gp0 ⟨fr_set (fr_set fr (by omega)) (by omega), ?_, ?_, fun j a b => by omega, fun s a b => ?_, ?_, fun e a e0 e1 a0 a1 => ?_⟩ (fun ν s => ?_)
  · rw [mset_k (by decide)]; exact mset_eq
  · rw [mset_eq, rf_fst h.1.1 gp0]; exact gp.2.1.symm
  · rw [rf_fst h.1.1 gp0, gp.2.1] at b; omega
  · rw [mset_k (by decide), mset_k (by decide)]; exact e23
  · unfold gN
    rw [mset_k (by decide), mset_k (by decide)]; exact hn e a e0 e1 a0 a1
  refine e_iconst (dec_at dX6_refine 137) ?_
  refine e_is3 (dec_at dX6_refine 138) (by decide) rfl ?_
  exact l_rfD h _ 0 ν rfl (by omega) cc (by rw [show B 0 1 + 0 = B 0 1 by omega]; exact s)
