section
-- ===== PART A: goes FIRST, ahead of the names: the tables' words, and 'selects' of the private methods out of them =====
/-- a private method of a class that the tables say can be made, by its rows of tables_1 -/
def lw_okq (q : MethodName × Nat) : Prop := (q.1.cls ≠ "java/lang/invoke/MethodHandle" ∧ q.1.cls ≠ "java/lang/invoke/VarHandle") ∧ Cond.instantiable q.1.cls q.2 ∈ tables_1 ∧ Cond.privateMethod q.1 ∈ tables_1 ∧ Cond.instanceMethod q.1 ∈ tables_1
theorem lw_p0 : lw_okq (⟨"MidSkins", "fail", "(I)I"⟩, 3) := ⟨⟨by decide +kernel, by decide +kernel⟩, List.mem_of_getElem? (i := 10) (by decide +kernel), List.mem_of_getElem? (i := 184) (by decide +kernel), List.mem_of_getElem? (i := 185) (by decide +kernel)⟩
theorem lw_p1 : lw_okq (⟨"MidSkinsModel", "meets", "(I)I"⟩, 21) := ⟨⟨by decide +kernel, by decide +kernel⟩, List.mem_of_getElem? (i := 557) (by decide +kernel), List.mem_of_getElem? (i := 635) (by decide +kernel), List.mem_of_getElem? (i := 636) (by decide +kernel)⟩
theorem lw_p2 : lw_okq (⟨"MidSkinsModel", "make", "()V"⟩, 21) := ⟨⟨by decide +kernel, by decide +kernel⟩, List.mem_of_getElem? (i := 557) (by decide +kernel), List.mem_of_getElem? (i := 679) (by decide +kernel), List.mem_of_getElem? (i := 680) (by decide +kernel)⟩
theorem lw_p3 : lw_okq (⟨"MidSkinsModel", "look", "()V"⟩, 21) := ⟨⟨by decide +kernel, by decide +kernel⟩, List.mem_of_getElem? (i := 557) (by decide +kernel), List.mem_of_getElem? (i := 683) (by decide +kernel), List.mem_of_getElem? (i := 684) (by decide +kernel)⟩
theorem lw_p4 : lw_okq (⟨"MidSkinsModel", "fails", "(II)V"⟩, 21) := ⟨⟨by decide +kernel, by decide +kernel⟩, List.mem_of_getElem? (i := 557) (by decide +kernel), List.mem_of_getElem? (i := 687) (by decide +kernel), List.mem_of_getElem? (i := 688) (by decide +kernel)⟩
theorem lw_p5 : lw_okq (⟨"MidSkinsModel", "sizeOf", "(II)I"⟩, 21) := ⟨⟨by decide +kernel, by decide +kernel⟩, List.mem_of_getElem? (i := 557) (by decide +kernel), List.mem_of_getElem? (i := 691) (by decide +kernel), List.mem_of_getElem? (i := 692) (by decide +kernel)⟩
theorem lw_p6 : lw_okq (⟨"MidSkinsModel", "cornerOf", "(III)I"⟩, 21) := ⟨⟨by decide +kernel, by decide +kernel⟩, List.mem_of_getElem? (i := 557) (by decide +kernel), List.mem_of_getElem? (i := 695) (by decide +kernel), List.mem_of_getElem? (i := 696) (by decide +kernel)⟩
theorem lw_p7 : lw_okq (⟨"MidSkinsModel", "next", "(III)I"⟩, 21) := ⟨⟨by decide +kernel, by decide +kernel⟩, List.mem_of_getElem? (i := 557) (by decide +kernel), List.mem_of_getElem? (i := 699) (by decide +kernel), List.mem_of_getElem? (i := 700) (by decide +kernel)⟩
theorem lw_p8 : lw_okq (⟨"MidSkinsModel", "faceWith", "(IIII)I"⟩, 21) := ⟨⟨by decide +kernel, by decide +kernel⟩, List.mem_of_getElem? (i := 557) (by decide +kernel), List.mem_of_getElem? (i := 703) (by decide +kernel), List.mem_of_getElem? (i := 704) (by decide +kernel)⟩
theorem lw_p9 : lw_okq (⟨"MidSkinsModel", "facesOf", "(I)I"⟩, 21) := ⟨⟨by decide +kernel, by decide +kernel⟩, List.mem_of_getElem? (i := 557) (by decide +kernel), List.mem_of_getElem? (i := 707) (by decide +kernel), List.mem_of_getElem? (i := 708) (by decide +kernel)⟩
theorem lw_p10 : lw_okq (⟨"MidSkinsModel", "ringOf", "(I)I"⟩, 21) := ⟨⟨by decide +kernel, by decide +kernel⟩, List.mem_of_getElem? (i := 557) (by decide +kernel), List.mem_of_getElem? (i := 711) (by decide +kernel), List.mem_of_getElem? (i := 712) (by decide +kernel)⟩
theorem lw_p11 : lw_okq (⟨"MidSkinsModel", "findEdges", "(I)V"⟩, 21) := ⟨⟨by decide +kernel, by decide +kernel⟩, List.mem_of_getElem? (i := 557) (by decide +kernel), List.mem_of_getElem? (i := 715) (by decide +kernel), List.mem_of_getElem? (i := 716) (by decide +kernel)⟩
theorem lw_p12 : lw_okq (⟨"MidSkinsModel", "edgeOf", "(III)I"⟩, 21) := ⟨⟨by decide +kernel, by decide +kernel⟩, List.mem_of_getElem? (i := 557) (by decide +kernel), List.mem_of_getElem? (i := 719) (by decide +kernel), List.mem_of_getElem? (i := 720) (by decide +kernel)⟩
theorem lw_p13 : lw_okq (⟨"MidSkinsModel", "refine", "(I)V"⟩, 21) := ⟨⟨by decide +kernel, by decide +kernel⟩, List.mem_of_getElem? (i := 557) (by decide +kernel), List.mem_of_getElem? (i := 723) (by decide +kernel), List.mem_of_getElem? (i := 724) (by decide +kernel)⟩
theorem lw_p14 : lw_okq (⟨"MidSkinsModel", "movedOf", "(III)I"⟩, 21) := ⟨⟨by decide +kernel, by decide +kernel⟩, List.mem_of_getElem? (i := 557) (by decide +kernel), List.mem_of_getElem? (i := 727) (by decide +kernel), List.mem_of_getElem? (i := 728) (by decide +kernel)⟩
theorem lw_p15 : lw_okq (⟨"MidSkinsModel", "moveOf", "(I)I"⟩, 21) := ⟨⟨by decide +kernel, by decide +kernel⟩, List.mem_of_getElem? (i := 557) (by decide +kernel), List.mem_of_getElem? (i := 731) (by decide +kernel), List.mem_of_getElem? (i := 732) (by decide +kernel)⟩
def lw_privs_1 : List (MethodName × Nat) := [(⟨"MidSkins", "fail", "(I)I"⟩, 3), (⟨"MidSkinsModel", "meets", "(I)I"⟩, 21), (⟨"MidSkinsModel", "make", "()V"⟩, 21), (⟨"MidSkinsModel", "look", "()V"⟩, 21), (⟨"MidSkinsModel", "fails", "(II)V"⟩, 21), (⟨"MidSkinsModel", "sizeOf", "(II)I"⟩, 21), (⟨"MidSkinsModel", "cornerOf", "(III)I"⟩, 21), (⟨"MidSkinsModel", "next", "(III)I"⟩, 21), (⟨"MidSkinsModel", "faceWith", "(IIII)I"⟩, 21), (⟨"MidSkinsModel", "facesOf", "(I)I"⟩, 21), (⟨"MidSkinsModel", "ringOf", "(I)I"⟩, 21), (⟨"MidSkinsModel", "findEdges", "(I)V"⟩, 21), (⟨"MidSkinsModel", "edgeOf", "(III)I"⟩, 21), (⟨"MidSkinsModel", "refine", "(I)V"⟩, 21), (⟨"MidSkinsModel", "movedOf", "(III)I"⟩, 21), (⟨"MidSkinsModel", "moveOf", "(I)I"⟩, 21)]
theorem lw_r1 : ∀ q ∈ lw_privs_1, lw_okq q := List.forall_mem_cons.mpr ⟨lw_p0, List.forall_mem_cons.mpr ⟨lw_p1, List.forall_mem_cons.mpr ⟨lw_p2, List.forall_mem_cons.mpr ⟨lw_p3, List.forall_mem_cons.mpr ⟨lw_p4, List.forall_mem_cons.mpr ⟨lw_p5, List.forall_mem_cons.mpr ⟨lw_p6, List.forall_mem_cons.mpr ⟨lw_p7, List.forall_mem_cons.mpr ⟨lw_p8, List.forall_mem_cons.mpr ⟨lw_p9, List.forall_mem_cons.mpr ⟨lw_p10, List.forall_mem_cons.mpr ⟨lw_p11, List.forall_mem_cons.mpr ⟨lw_p12, List.forall_mem_cons.mpr ⟨lw_p13, List.forall_mem_cons.mpr ⟨lw_p14, List.forall_mem_cons.mpr ⟨lw_p15, fun _ h => absurd h List.not_mem_nil⟩⟩⟩⟩⟩⟩⟩⟩⟩⟩⟩⟩⟩⟩⟩⟩
theorem lw_p16 : lw_okq (⟨"MidSkinsModel", "beginFace", "(I)V"⟩, 21) := ⟨⟨by decide +kernel, by decide +kernel⟩, List.mem_of_getElem? (i := 557) (by decide +kernel), List.mem_of_getElem? (i := 735) (by decide +kernel), List.mem_of_getElem? (i := 736) (by decide +kernel)⟩
theorem lw_p17 : lw_okq (⟨"MidSkinsModel", "ringOn", "(II)V"⟩, 21) := ⟨⟨by decide +kernel, by decide +kernel⟩, List.mem_of_getElem? (i := 557) (by decide +kernel), List.mem_of_getElem? (i := 739) (by decide +kernel), List.mem_of_getElem? (i := 740) (by decide +kernel)⟩
theorem lw_p18 : lw_okq (⟨"MidSkinsModel", "isGood", "()Z"⟩, 21) := ⟨⟨by decide +kernel, by decide +kernel⟩, List.mem_of_getElem? (i := 557) (by decide +kernel), List.mem_of_getElem? (i := 751) (by decide +kernel), List.mem_of_getElem? (i := 752) (by decide +kernel)⟩
theorem lw_p19 : lw_okq (⟨"MidSkinsModel", "edgesAt", "(II)I"⟩, 21) := ⟨⟨by decide +kernel, by decide +kernel⟩, List.mem_of_getElem? (i := 557) (by decide +kernel), List.mem_of_getElem? (i := 755) (by decide +kernel), List.mem_of_getElem? (i := 756) (by decide +kernel)⟩
theorem lw_p20 : lw_okq (⟨"MidSkinsModel", "number", "(III)I"⟩, 21) := ⟨⟨by decide +kernel, by decide +kernel⟩, List.mem_of_getElem? (i := 557) (by decide +kernel), List.mem_of_getElem? (i := 768) (by decide +kernel), List.mem_of_getElem? (i := 769) (by decide +kernel)⟩
theorem lw_p21 : lw_okq (⟨"MidSkinsModel", "faceRefusal", "(II)I"⟩, 21) := ⟨⟨by decide +kernel, by decide +kernel⟩, List.mem_of_getElem? (i := 557) (by decide +kernel), List.mem_of_getElem? (i := 780) (by decide +kernel), List.mem_of_getElem? (i := 781) (by decide +kernel)⟩
theorem lw_p22 : lw_okq (⟨"MidSkinsModel", "solid", "(IIII)J"⟩, 21) := ⟨⟨by decide +kernel, by decide +kernel⟩, List.mem_of_getElem? (i := 557) (by decide +kernel), List.mem_of_getElem? (i := 803) (by decide +kernel), List.mem_of_getElem? (i := 804) (by decide +kernel)⟩
def lw_privs_2 : List (MethodName × Nat) := [(⟨"MidSkinsModel", "beginFace", "(I)V"⟩, 21), (⟨"MidSkinsModel", "ringOn", "(II)V"⟩, 21), (⟨"MidSkinsModel", "isGood", "()Z"⟩, 21), (⟨"MidSkinsModel", "edgesAt", "(II)I"⟩, 21), (⟨"MidSkinsModel", "number", "(III)I"⟩, 21), (⟨"MidSkinsModel", "faceRefusal", "(II)I"⟩, 21), (⟨"MidSkinsModel", "solid", "(IIII)J"⟩, 21)]
theorem lw_r2 : ∀ q ∈ lw_privs_2, lw_okq q := List.forall_mem_cons.mpr ⟨lw_p16, List.forall_mem_cons.mpr ⟨lw_p17, List.forall_mem_cons.mpr ⟨lw_p18, List.forall_mem_cons.mpr ⟨lw_p19, List.forall_mem_cons.mpr ⟨lw_p20, List.forall_mem_cons.mpr ⟨lw_p21, List.forall_mem_cons.mpr ⟨lw_p22, fun _ h => absurd h List.not_mem_nil⟩⟩⟩⟩⟩⟩⟩
def lw_privs : List (MethodName × Nat) := lw_privs_1 ++ (lw_privs_2)
def lw_tbl : List Cond := k2_sels lw_privs ++ tables_1
theorem lw_privs_ok : ∀ q ∈ lw_privs, lw_okq q := by
  show ∀ q ∈ lw_privs_1 ++ (lw_privs_2), lw_okq q
  exact List.forall_mem_append.mpr ⟨lw_r1, lw_r2⟩
end
section
def RX0 : String := "MidSkins$Check"
def TX0 : u_T := fun k => match k with
  | 0 => ("MidSkins$Check", "made", "[I", true)
  | 1 => ("MidSkins$Check", "found", "I", false)
  | _ => ("MidSkins$Check", "spot", "I", false)
def tyX0 : Nat → FieldType := fun k => match k with
  | 0 => .array .int
  | 1 => .int
  | _ => .int
theorem nmX0 : ∀ a, a < 3 → ∀ b, b < 3 → a ≠ b → (TX0 a).2.1 ≠ (TX0 b).2.1 := by decide +kernel
theorem tyX0_ok : ∀ k, k < 3 → parseFieldDescriptor (TX0 k).2.2.1 = some (tyX0 k) := by decide +kernel
def RX1 : String := "MidSkins$Moves"
def TX1 : u_T := fun k => match k with
  | 0 => ("MidSkins$Moves", "levels", "[I", true)
  | 1 => ("MidSkins$Moves", "corners", "[I", true)
  | 2 => ("MidSkins$Moves", "numbers", "[I", true)
  | _ => ("MidSkins$Moves", "many", "I", false)
def tyX1 : Nat → FieldType := fun k => match k with
  | 0 => .array .int
  | 1 => .array .int
  | 2 => .array .int
  | _ => .int
theorem nmX1 : ∀ a, a < 4 → ∀ b, b < 4 → a ≠ b → (TX1 a).2.1 ≠ (TX1 b).2.1 := by decide +kernel
theorem tyX1_ok : ∀ k, k < 4 → parseFieldDescriptor (TX1 k).2.2.1 = some (tyX1 k) := by decide +kernel
def RX2 : String := "MidSkins$Net"
def TX2 : u_T := fun k => match k with
  | 0 => ("MidSkins$Net", "corners", "I", false)
  | 1 => ("MidSkins$Net", "plates", "I", false)
  | 2 => ("MidSkins$Net", "edges", "I", false)
  | 3 => ("MidSkins$Net", "numbers", "[I", true)
  | 4 => ("MidSkins$Net", "first", "[I", true)
  | 5 => ("MidSkins$Net", "rings", "[I", true)
  | 6 => ("MidSkins$Net", "plateOf", "[I", true)
  | 7 => ("MidSkins$Net", "back", "[I", true)
  | 8 => ("MidSkins$Net", "edgeOf", "[I", true)
  | 9 => ("MidSkins$Net", "met", "[I", true)
  | 10 => ("MidSkins$Net", "degree", "[I", true)
  | _ => ("MidSkins$Net", "door", "[I", true)
def tyX2 : Nat → FieldType := fun k => match k with
  | 0 => .int
  | 1 => .int
  | 2 => .int
  | 3 => .array .int
  | 4 => .array .int
  | 5 => .array .int
  | 6 => .array .int
  | 7 => .array .int
  | 8 => .array .int
  | 9 => .array .int
  | 10 => .array .int
  | _ => .array .int
theorem nmX2 : ∀ a, a < 12 → ∀ b, b < 12 → a ≠ b → (TX2 a).2.1 ≠ (TX2 b).2.1 := by decide +kernel
theorem tyX2_ok : ∀ k, k < 12 → parseFieldDescriptor (TX2 k).2.2.1 = some (tyX2 k) := by decide +kernel
def RX3 : String := "MidSkins$Row"
def TX3 : u_T := fun k => match k with
  | 0 => ("MidSkins$Row", "numbers", "[I", true)
  | 1 => ("MidSkins$Row", "lane", "I", false)
  | _ => ("MidSkins$Row", "length", "I", false)
def tyX3 : Nat → FieldType := fun k => match k with
  | 0 => .array .int
  | 1 => .int
  | _ => .int
theorem nmX3 : ∀ a, a < 3 → ∀ b, b < 3 → a ≠ b → (TX3 a).2.1 ≠ (TX3 b).2.1 := by decide +kernel
theorem tyX3_ok : ∀ k, k < 3 → parseFieldDescriptor (TX3 k).2.2.1 = some (tyX3 k) := by decide +kernel
def RX4 : String := "MidSkins$Skin"
def TX4 : u_T := fun k => match k with
  | 0 => ("MidSkins$Skin", "nets", "[LMidSkins$Net;", true)
  | 1 => ("MidSkins$Skin", "base", "LMidSkins$Net;", true)
  | 2 => ("MidSkins$Skin", "check", "LMidSkins$Check;", true)
  | 3 => ("MidSkins$Skin", "moves", "LMidSkins$Moves;", true)
  | 4 => ("MidSkins$Skin", "checked", "Z", false)
  | 5 => ("MidSkins$Skin", "shaped", "I", false)
  | _ => ("MidSkins$Skin", "summed", "I", false)
def tyX4 : Nat → FieldType := fun k => match k with
  | 0 => .array (.object "MidSkins$Net")
  | 1 => .object "MidSkins$Net"
  | 2 => .object "MidSkins$Check"
  | 3 => .object "MidSkins$Moves"
  | 4 => .boolean
  | 5 => .int
  | _ => .int
theorem nmX4 : ∀ a, a < 7 → ∀ b, b < 7 → a ≠ b → (TX4 a).2.1 ≠ (TX4 b).2.1 := by decide +kernel
theorem tyX4_ok : ∀ k, k < 7 → parseFieldDescriptor (TX4 k).2.2.1 = some (tyX4 k) := by decide +kernel
def RX5 : String := "MidSkins"
def TX5 : u_T := fun k => match k with
  | 0 => ("MidSkins", "hand", "LMidSkins$Row;", true)
  | 1 => ("MidSkins", "skin", "LMidSkins$Skin;", true)
  | _ => ("MidSkins", "latestCause", "I", false)
def tyX5 : Nat → FieldType := fun k => match k with
  | 0 => .object "MidSkins$Row"
  | 1 => .object "MidSkins$Skin"
  | _ => .int
theorem nmX5 : ∀ a, a < 3 → ∀ b, b < 3 → a ≠ b → (TX5 a).2.1 ≠ (TX5 b).2.1 := by decide +kernel
theorem tyX5_ok : ∀ k, k < 3 → parseFieldDescriptor (TX5 k).2.2.1 = some (tyX5 k) := by decide +kernel
def RX6 : String := "MidSkinsModel"
def TX6 : u_T := fun k => match k with
  | 0 => ("MidSkinsModel", "latest", "I", false)
  | 1 => ("MidSkinsModel", "lane", "I", false)
  | 2 => ("MidSkinsModel", "rowSize", "I", false)
  | 3 => ("MidSkinsModel", "row", "[I", true)
  | 4 => ("MidSkinsModel", "stale", "Z", false)
  | 5 => ("MidSkinsModel", "faultKind", "I", false)
  | 6 => ("MidSkinsModel", "faultPlace", "I", false)
  | 7 => ("MidSkinsModel", "cornerMany", "[I", true)
  | 8 => ("MidSkinsModel", "faceMany", "[I", true)
  | 9 => ("MidSkinsModel", "edgeMany", "[I", true)
  | 10 => ("MidSkinsModel", "numbers", "[I", true)
  | 11 => ("MidSkinsModel", "faceFrom", "[I", true)
  | 12 => ("MidSkinsModel", "faceSize", "[I", true)
  | 13 => ("MidSkinsModel", "rings", "[I", true)
  | 14 => ("MidSkinsModel", "edgeFrom", "[I", true)
  | 15 => ("MidSkinsModel", "edgeTo", "[I", true)
  | 16 => ("MidSkinsModel", "stepAt", "I", false)
  | 17 => ("MidSkinsModel", "ringMany", "I", false)
  | 18 => ("MidSkinsModel", "moves", "I", false)
  | 19 => ("MidSkinsModel", "moveAt", "[I", true)
  | _ => ("MidSkinsModel", "moveBy", "[I", true)
def tyX6 : Nat → FieldType := fun k => match k with
  | 0 => .int
  | 1 => .int
  | 2 => .int
  | 3 => .array .int
  | 4 => .boolean
  | 5 => .int
  | 6 => .int
  | 7 => .array .int
  | 8 => .array .int
  | 9 => .array .int
  | 10 => .array .int
  | 11 => .array .int
  | 12 => .array .int
  | 13 => .array .int
  | 14 => .array .int
  | 15 => .array .int
  | 16 => .int
  | 17 => .int
  | 18 => .int
  | 19 => .array .int
  | _ => .array .int
theorem nmX6 : ∀ a, a < 21 → ∀ b, b < 21 → a ≠ b → (TX6 a).2.1 ≠ (TX6 b).2.1 := by decide +kernel
theorem tyX6_ok : ∀ k, k < 21 → parseFieldDescriptor (TX6 k).2.2.1 = some (tyX6 k) := by decide +kernel
abbrev vwCl : List vw_C := [(RX0, TX0, 3), (RX1, TX1, 4), (RX2, TX2, 12), (RX3, TX3, 3), (RX4, TX4, 7), (RX5, TX5, 3), (RX6, TX6, 21)]
/-- the words of the tables that hold at every later state -/
def Gw : List Cond := lw_tbl.filter goodWord
theorem Gw_good : ∀ w ∈ Gw, w ∈ lw_tbl ∧ goodWord w = true := fun w h => List.mem_filter.mp h
theorem Gw_in {w : Cond} (h : w ∈ lw_tbl) (hg : goodWord w = true) : w ∈ Gw := List.mem_filter.mpr ⟨h, hg⟩
theorem Gw_t1 {w : Cond} (i : Nat) (h : tables_1_1[i]? = some w) (hg : goodWord w = true) : w ∈ Gw := Gw_in (List.mem_append_right _ (List.mem_append_left _ (List.mem_of_getElem? h))) hg
theorem Gw_t2 {w : Cond} (i : Nat) (h : tables_1_2[i]? = some w) (hg : goodWord w = true) : w ∈ Gw := Gw_in (List.mem_append_right _ (List.mem_append_right _ (List.mem_append_left _ (List.mem_of_getElem? h)))) hg
theorem Gw_t3 {w : Cond} (i : Nat) (h : tables_1_3[i]? = some w) (hg : goodWord w = true) : w ∈ Gw := Gw_in (List.mem_append_right _ (List.mem_append_right _ (List.mem_append_right _ (List.mem_append_left _ (List.mem_of_getElem? h))))) hg
theorem Gw_t4 {w : Cond} (i : Nat) (h : tables_1_4[i]? = some w) (hg : goodWord w = true) : w ∈ Gw := Gw_in (List.mem_append_right _ (List.mem_append_right _ (List.mem_append_right _ (List.mem_append_right _ (List.mem_of_getElem? h))))) hg
theorem Gw_sel {q : MethodName × Nat} (i : Nat) (h : lw_privs[i]? = some q) (hg : goodWord (Cond.selects q.1.cls q.1 q.1) = true) : Cond.selects q.1.cls q.1 q.1 ∈ Gw := Gw_in (List.mem_append_left _ (List.mem_map.mpr ⟨q, List.mem_of_getElem? h, rfl⟩)) hg
/-- a method: its name, its bytes, its locals, its answer's type -/
abbrev MI : Type := MethodName × ByteArray × Nat × Option FieldType
def dec_ok (c : ByteArray) (t : List (Nat × Instr × Nat)) (i : Nat) : Prop := match t[i]? with
  | some q => decode c q.1 = .ok q.2
  | none => True
theorem dec_at {c : ByteArray} {t : List (Nat × Instr × Nat)} (h : ∀ q ∈ t, decode c q.1 = .ok q.2) (i : Nat) : dec_ok c t i := by
  unfold dec_ok
  split
  · next q hq => exact h q (List.mem_of_getElem? hq)
  · trivial
/-- what a call needs of its method -/
def MOk (M : MI) (n : Nat) : Prop := Cond.initialized M.1.cls ∈ Gw ∧ Cond.code M.1 M.2.1 M.2.2.1 M.2.2.2 ∈ Gw ∧ (M.1.cls ≠ "java/lang/invoke/MethodHandle" ∧ M.1.cls ≠ "java/lang/invoke/VarHandle") ∧ (parseMethodDescriptor M.1.desc).map (fun d => d.parameters.length) = some n ∧ plainName M.1.cls = true
def MIn (M : MI) : Prop := Cond.instanceMethod M.1 ∈ Gw ∧ Cond.selects M.1.cls M.1 M.1 ∈ Gw
def MSt (M : MI) : Prop := Cond.static M.1 ∈ Gw
/-- a field: its class's number, its slot, the link by which it is named -/
def FL (own : String) (idx ci k : Nat) : Prop := ∃ (C : String) (T : u_T) (N : Nat), vwCl[ci]? = some (C, T, N) ∧ k < N ∧ (∀ w ∈ u_ws C T N, w ∈ Gw) ∧ Cond.fieldLink own idx (T k).1 (T k).2.1 (T k).2.2.1 ∈ Gw
/-- it may be written: not final, of this type -/
def FP (ci k : Nat) (ty : FieldType) : Prop := ∃ (C : String) (T : u_T) (N : Nat) (ty0 : Nat → FieldType), vwCl[ci]? = some (C, T, N) ∧ k < N ∧ (∀ k, k < N → parseFieldDescriptor (T k).2.2.1 = some (ty0 k)) ∧ (∀ a, a < N → ∀ b, b < N → a ≠ b → (T a).2.1 ≠ (T b).2.1) ∧ (T k).2.2.2 = false ∧ parseFieldDescriptor (T k).2.2.1 = some ty
theorem inX0a : ∀ w ∈ u_ws RX0 TX0 3, w ∈ lw_tbl ∧ goodWord w = true := by decide +kernel
theorem inX0 : ∀ w ∈ u_ws RX0 TX0 3, w ∈ Gw := fun w h => Gw_in (inX0a w h).1 (inX0a w h).2
theorem inX1a : ∀ w ∈ u_ws RX1 TX1 4, w ∈ lw_tbl ∧ goodWord w = true := by decide +kernel
theorem inX1 : ∀ w ∈ u_ws RX1 TX1 4, w ∈ Gw := fun w h => Gw_in (inX1a w h).1 (inX1a w h).2
theorem inX2a : ∀ w ∈ u_ws RX2 TX2 12, w ∈ lw_tbl ∧ goodWord w = true := by decide +kernel
theorem inX2 : ∀ w ∈ u_ws RX2 TX2 12, w ∈ Gw := fun w h => Gw_in (inX2a w h).1 (inX2a w h).2
theorem inX3a : ∀ w ∈ u_ws RX3 TX3 3, w ∈ lw_tbl ∧ goodWord w = true := by decide +kernel
theorem inX3 : ∀ w ∈ u_ws RX3 TX3 3, w ∈ Gw := fun w h => Gw_in (inX3a w h).1 (inX3a w h).2
theorem inX4a : ∀ w ∈ u_ws RX4 TX4 7, w ∈ lw_tbl ∧ goodWord w = true := by decide +kernel
theorem inX4 : ∀ w ∈ u_ws RX4 TX4 7, w ∈ Gw := fun w h => Gw_in (inX4a w h).1 (inX4a w h).2
theorem inX5a : ∀ w ∈ u_ws RX5 TX5 3, w ∈ lw_tbl ∧ goodWord w = true := by decide +kernel
theorem inX5 : ∀ w ∈ u_ws RX5 TX5 3, w ∈ Gw := fun w h => Gw_in (inX5a w h).1 (inX5a w h).2
theorem inX6a : ∀ w ∈ u_ws RX6 TX6 21, w ∈ lw_tbl ∧ goodWord w = true := by decide +kernel
theorem inX6 : ∀ w ∈ u_ws RX6 TX6 21, w ∈ Gw := fun w h => Gw_in (inX6a w h).1 (inX6a w h).2
theorem flX3_9 : FL RX3 9 3 0 := ⟨RX3, TX3, 3, rfl, by decide, inX3, Gw_t1 23 rfl rfl⟩
theorem flX5_65 : FL RX5 65 3 0 := ⟨RX3, TX3, 3, rfl, by decide, inX3, Gw_t1 24 rfl rfl⟩
theorem flX3_15 : FL RX3 15 3 1 := ⟨RX3, TX3, 3, rfl, by decide, inX3, Gw_t1 25 rfl rfl⟩
theorem flX5_43 : FL RX5 43 3 1 := ⟨RX3, TX3, 3, rfl, by decide, inX3, Gw_t1 26 rfl rfl⟩
theorem flX3_19 : FL RX3 19 3 2 := ⟨RX3, TX3, 3, rfl, by decide, inX3, Gw_t1 27 rfl rfl⟩
theorem flX5_46 : FL RX5 46 3 2 := ⟨RX3, TX3, 3, rfl, by decide, inX3, Gw_t1 28 rfl rfl⟩
theorem flX2_39 : FL RX2 39 2 0 := ⟨RX2, TX2, 12, rfl, by decide, inX2, Gw_t1 50 rfl rfl⟩
theorem flX5_60 : FL RX5 60 2 0 := ⟨RX2, TX2, 12, rfl, by decide, inX2, Gw_t1 51 rfl rfl⟩
theorem flX0_74 : FL RX0 74 2 0 := ⟨RX2, TX2, 12, rfl, by decide, inX2, Gw_t1 52 rfl rfl⟩
theorem flX0_22 : FL RX0 22 2 1 := ⟨RX2, TX2, 12, rfl, by decide, inX2, Gw_t1 53 rfl rfl⟩
theorem flX2_43 : FL RX2 43 2 1 := ⟨RX2, TX2, 12, rfl, by decide, inX2, Gw_t1 54 rfl rfl⟩
theorem flX5_91 : FL RX5 91 2 1 := ⟨RX2, TX2, 12, rfl, by decide, inX2, Gw_t1 55 rfl rfl⟩
theorem flX5_133 : FL RX5 133 2 2 := ⟨RX2, TX2, 12, rfl, by decide, inX2, Gw_t1 56 rfl rfl⟩
theorem flX2_61 : FL RX2 61 2 2 := ⟨RX2, TX2, 12, rfl, by decide, inX2, Gw_t1 57 rfl rfl⟩
theorem flX2_9 : FL RX2 9 2 3 := ⟨RX2, TX2, 12, rfl, by decide, inX2, Gw_t1 58 rfl rfl⟩
theorem flX5_86 : FL RX5 86 2 3 := ⟨RX2, TX2, 12, rfl, by decide, inX2, Gw_t1 59 rfl rfl⟩
theorem flX1_42 : FL RX1 42 2 3 := ⟨RX2, TX2, 12, rfl, by decide, inX2, Gw_t1 60 rfl rfl⟩
theorem flX2_15 : FL RX2 15 2 4 := ⟨RX2, TX2, 12, rfl, by decide, inX2, Gw_t1 61 rfl rfl⟩
theorem flX0_54 : FL RX0 54 2 4 := ⟨RX2, TX2, 12, rfl, by decide, inX2, Gw_t1 62 rfl rfl⟩
theorem flX5_159 : FL RX5 159 2 4 := ⟨RX2, TX2, 12, rfl, by decide, inX2, Gw_t1 63 rfl rfl⟩
theorem flX2_18 : FL RX2 18 2 5 := ⟨RX2, TX2, 12, rfl, by decide, inX2, Gw_t1 64 rfl rfl⟩
theorem flX0_57 : FL RX0 57 2 5 := ⟨RX2, TX2, 12, rfl, by decide, inX2, Gw_t1 65 rfl rfl⟩
theorem flX5_156 : FL RX5 156 2 5 := ⟨RX2, TX2, 12, rfl, by decide, inX2, Gw_t1 66 rfl rfl⟩
theorem flX2_21 : FL RX2 21 2 6 := ⟨RX2, TX2, 12, rfl, by decide, inX2, Gw_t1 67 rfl rfl⟩
theorem flX0_68 : FL RX0 68 2 6 := ⟨RX2, TX2, 12, rfl, by decide, inX2, Gw_t1 68 rfl rfl⟩
theorem flX2_24 : FL RX2 24 2 7 := ⟨RX2, TX2, 12, rfl, by decide, inX2, Gw_t1 69 rfl rfl⟩
theorem flX0_71 : FL RX0 71 2 7 := ⟨RX2, TX2, 12, rfl, by decide, inX2, Gw_t1 70 rfl rfl⟩
theorem flX2_27 : FL RX2 27 2 8 := ⟨RX2, TX2, 12, rfl, by decide, inX2, Gw_t1 71 rfl rfl⟩
theorem flX2_30 : FL RX2 30 2 9 := ⟨RX2, TX2, 12, rfl, by decide, inX2, Gw_t1 72 rfl rfl⟩
theorem flX2_33 : FL RX2 33 2 10 := ⟨RX2, TX2, 12, rfl, by decide, inX2, Gw_t1 73 rfl rfl⟩
theorem flX0_77 : FL RX0 77 2 10 := ⟨RX2, TX2, 12, rfl, by decide, inX2, Gw_t1 74 rfl rfl⟩
theorem flX2_36 : FL RX2 36 2 11 := ⟨RX2, TX2, 12, rfl, by decide, inX2, Gw_t1 75 rfl rfl⟩
theorem flX0_80 : FL RX0 80 2 11 := ⟨RX2, TX2, 12, rfl, by decide, inX2, Gw_t1 76 rfl rfl⟩
theorem flX0_9 : FL RX0 9 0 0 := ⟨RX0, TX0, 3, rfl, by decide, inX0, Gw_t1 108 rfl rfl⟩
theorem flX0_15 : FL RX0 15 0 1 := ⟨RX0, TX0, 3, rfl, by decide, inX0, Gw_t1 109 rfl rfl⟩
theorem flX4_59 : FL RX4 59 0 1 := ⟨RX0, TX0, 3, rfl, by decide, inX0, Gw_t1 110 rfl rfl⟩
theorem flX0_19 : FL RX0 19 0 2 := ⟨RX0, TX0, 3, rfl, by decide, inX0, Gw_t1 111 rfl rfl⟩
theorem flX5_121 : FL RX5 121 0 2 := ⟨RX0, TX0, 3, rfl, by decide, inX0, Gw_t1 112 rfl rfl⟩
theorem flX1_9 : FL RX1 9 1 0 := ⟨RX1, TX1, 4, rfl, by decide, inX1, Gw_t1 126 rfl rfl⟩
theorem flX1_15 : FL RX1 15 1 1 := ⟨RX1, TX1, 4, rfl, by decide, inX1, Gw_t1 127 rfl rfl⟩
theorem flX1_18 : FL RX1 18 1 2 := ⟨RX1, TX1, 4, rfl, by decide, inX1, Gw_t1 128 rfl rfl⟩
theorem flX5_208 : FL RX5 208 1 2 := ⟨RX1, TX1, 4, rfl, by decide, inX1, Gw_t1 129 rfl rfl⟩
theorem flX1_21 : FL RX1 21 1 3 := ⟨RX1, TX1, 4, rfl, by decide, inX1, Gw_t1 130 rfl rfl⟩
theorem flX5_108 : FL RX5 108 1 3 := ⟨RX1, TX1, 4, rfl, by decide, inX1, Gw_t1 131 rfl rfl⟩
theorem flX4_11 : FL RX4 11 4 0 := ⟨RX4, TX4, 7, rfl, by decide, inX4, Gw_t1 141 rfl rfl⟩
theorem flX4_20 : FL RX4 20 4 1 := ⟨RX4, TX4, 7, rfl, by decide, inX4, Gw_t1 142 rfl rfl⟩
theorem flX5_52 : FL RX5 52 4 1 := ⟨RX4, TX4, 7, rfl, by decide, inX4, Gw_t1 143 rfl rfl⟩
theorem flX4_27 : FL RX4 27 4 2 := ⟨RX4, TX4, 7, rfl, by decide, inX4, Gw_t1 144 rfl rfl⟩
theorem flX5_117 : FL RX5 117 4 2 := ⟨RX4, TX4, 7, rfl, by decide, inX4, Gw_t1 145 rfl rfl⟩
theorem flX4_34 : FL RX4 34 4 3 := ⟨RX4, TX4, 7, rfl, by decide, inX4, Gw_t1 146 rfl rfl⟩
theorem flX5_104 : FL RX5 104 4 3 := ⟨RX4, TX4, 7, rfl, by decide, inX4, Gw_t1 147 rfl rfl⟩
theorem flX4_38 : FL RX4 38 4 4 := ⟨RX4, TX4, 7, rfl, by decide, inX4, Gw_t1 148 rfl rfl⟩
theorem flX4_42 : FL RX4 42 4 5 := ⟨RX4, TX4, 7, rfl, by decide, inX4, Gw_t1 149 rfl rfl⟩
theorem flX4_46 : FL RX4 46 4 6 := ⟨RX4, TX4, 7, rfl, by decide, inX4, Gw_t1 150 rfl rfl⟩
theorem flX5_12 : FL RX5 12 5 0 := ⟨RX5, TX5, 3, rfl, by decide, inX5, Gw_t1 166 rfl rfl⟩
theorem flX5_19 : FL RX5 19 5 1 := ⟨RX5, TX5, 3, rfl, by decide, inX5, Gw_t1 167 rfl rfl⟩
theorem flX5_23 : FL RX5 23 5 2 := ⟨RX5, TX5, 3, rfl, by decide, inX5, Gw_t1 168 rfl rfl⟩
theorem flX6_54 : FL RX6 54 6 0 := ⟨RX6, TX6, 21, rfl, by decide, inX6, Gw_t3 82 rfl rfl⟩
theorem flX6_46 : FL RX6 46 6 1 := ⟨RX6, TX6, 21, rfl, by decide, inX6, Gw_t3 83 rfl rfl⟩
theorem flX6_67 : FL RX6 67 6 2 := ⟨RX6, TX6, 21, rfl, by decide, inX6, Gw_t3 84 rfl rfl⟩
theorem flX6_7 : FL RX6 7 6 3 := ⟨RX6, TX6, 21, rfl, by decide, inX6, Gw_t3 85 rfl rfl⟩
theorem flX6_50 : FL RX6 50 6 4 := ⟨RX6, TX6, 21, rfl, by decide, inX6, Gw_t3 86 rfl rfl⟩
theorem flX6_99 : FL RX6 99 6 5 := ⟨RX6, TX6, 21, rfl, by decide, inX6, Gw_t3 87 rfl rfl⟩
theorem flX6_102 : FL RX6 102 6 6 := ⟨RX6, TX6, 21, rfl, by decide, inX6, Gw_t3 88 rfl rfl⟩
theorem flX6_13 : FL RX6 13 6 7 := ⟨RX6, TX6, 21, rfl, by decide, inX6, Gw_t3 89 rfl rfl⟩
theorem flX6_16 : FL RX6 16 6 8 := ⟨RX6, TX6, 21, rfl, by decide, inX6, Gw_t3 90 rfl rfl⟩
theorem flX6_19 : FL RX6 19 6 9 := ⟨RX6, TX6, 21, rfl, by decide, inX6, Gw_t3 91 rfl rfl⟩
theorem flX6_22 : FL RX6 22 6 10 := ⟨RX6, TX6, 21, rfl, by decide, inX6, Gw_t3 92 rfl rfl⟩
theorem flX6_25 : FL RX6 25 6 11 := ⟨RX6, TX6, 21, rfl, by decide, inX6, Gw_t3 93 rfl rfl⟩
theorem flX6_28 : FL RX6 28 6 12 := ⟨RX6, TX6, 21, rfl, by decide, inX6, Gw_t3 94 rfl rfl⟩
theorem flX6_31 : FL RX6 31 6 13 := ⟨RX6, TX6, 21, rfl, by decide, inX6, Gw_t3 95 rfl rfl⟩
theorem flX6_34 : FL RX6 34 6 14 := ⟨RX6, TX6, 21, rfl, by decide, inX6, Gw_t3 96 rfl rfl⟩
theorem flX6_37 : FL RX6 37 6 15 := ⟨RX6, TX6, 21, rfl, by decide, inX6, Gw_t3 97 rfl rfl⟩
theorem flX6_92 : FL RX6 92 6 16 := ⟨RX6, TX6, 21, rfl, by decide, inX6, Gw_t3 98 rfl rfl⟩
theorem flX6_118 : FL RX6 118 6 17 := ⟨RX6, TX6, 21, rfl, by decide, inX6, Gw_t3 99 rfl rfl⟩
theorem flX6_86 : FL RX6 86 6 18 := ⟨RX6, TX6, 21, rfl, by decide, inX6, Gw_t3 100 rfl rfl⟩
theorem flX6_40 : FL RX6 40 6 19 := ⟨RX6, TX6, 21, rfl, by decide, inX6, Gw_t3 101 rfl rfl⟩
theorem flX6_43 : FL RX6 43 6 20 := ⟨RX6, TX6, 21, rfl, by decide, inX6, Gw_t3 102 rfl rfl⟩
theorem fpX0_1 : FP 0 1 .int := ⟨RX0, TX0, 3, tyX0, rfl, by decide, tyX0_ok, nmX0, rfl, by decide +kernel⟩
theorem fpX0_2 : FP 0 2 .int := ⟨RX0, TX0, 3, tyX0, rfl, by decide, tyX0_ok, nmX0, rfl, by decide +kernel⟩
theorem fpX1_3 : FP 1 3 .int := ⟨RX1, TX1, 4, tyX1, rfl, by decide, tyX1_ok, nmX1, rfl, by decide +kernel⟩
theorem fpX2_0 : FP 2 0 .int := ⟨RX2, TX2, 12, tyX2, rfl, by decide, tyX2_ok, nmX2, rfl, by decide +kernel⟩
theorem fpX2_1 : FP 2 1 .int := ⟨RX2, TX2, 12, tyX2, rfl, by decide, tyX2_ok, nmX2, rfl, by decide +kernel⟩
theorem fpX2_2 : FP 2 2 .int := ⟨RX2, TX2, 12, tyX2, rfl, by decide, tyX2_ok, nmX2, rfl, by decide +kernel⟩
theorem fpX3_1 : FP 3 1 .int := ⟨RX3, TX3, 3, tyX3, rfl, by decide, tyX3_ok, nmX3, rfl, by decide +kernel⟩
theorem fpX3_2 : FP 3 2 .int := ⟨RX3, TX3, 3, tyX3, rfl, by decide, tyX3_ok, nmX3, rfl, by decide +kernel⟩
theorem fpX4_4 : FP 4 4 .boolean := ⟨RX4, TX4, 7, tyX4, rfl, by decide, tyX4_ok, nmX4, rfl, by decide +kernel⟩
theorem fpX4_5 : FP 4 5 .int := ⟨RX4, TX4, 7, tyX4, rfl, by decide, tyX4_ok, nmX4, rfl, by decide +kernel⟩
theorem fpX4_6 : FP 4 6 .int := ⟨RX4, TX4, 7, tyX4, rfl, by decide, tyX4_ok, nmX4, rfl, by decide +kernel⟩
theorem fpX5_2 : FP 5 2 .int := ⟨RX5, TX5, 3, tyX5, rfl, by decide, tyX5_ok, nmX5, rfl, by decide +kernel⟩
theorem fpX6_0 : FP 6 0 .int := ⟨RX6, TX6, 21, tyX6, rfl, by decide, tyX6_ok, nmX6, rfl, by decide +kernel⟩
theorem fpX6_1 : FP 6 1 .int := ⟨RX6, TX6, 21, tyX6, rfl, by decide, tyX6_ok, nmX6, rfl, by decide +kernel⟩
theorem fpX6_2 : FP 6 2 .int := ⟨RX6, TX6, 21, tyX6, rfl, by decide, tyX6_ok, nmX6, rfl, by decide +kernel⟩
theorem fpX6_4 : FP 6 4 .boolean := ⟨RX6, TX6, 21, tyX6, rfl, by decide, tyX6_ok, nmX6, rfl, by decide +kernel⟩
theorem fpX6_5 : FP 6 5 .int := ⟨RX6, TX6, 21, tyX6, rfl, by decide, tyX6_ok, nmX6, rfl, by decide +kernel⟩
theorem fpX6_6 : FP 6 6 .int := ⟨RX6, TX6, 21, tyX6, rfl, by decide, tyX6_ok, nmX6, rfl, by decide +kernel⟩
theorem fpX6_16 : FP 6 16 .int := ⟨RX6, TX6, 21, tyX6, rfl, by decide, tyX6_ok, nmX6, rfl, by decide +kernel⟩
theorem fpX6_17 : FP 6 17 .int := ⟨RX6, TX6, 21, tyX6, rfl, by decide, tyX6_ok, nmX6, rfl, by decide +kernel⟩
theorem fpX6_18 : FP 6 18 .int := ⟨RX6, TX6, 21, tyX6, rfl, by decide, tyX6_ok, nmX6, rfl, by decide +kernel⟩
end
section
abbrev cX0_init : ByteArray := prog_2_method_1_code
def yX0_init : MethodName := ⟨RX0, "<init>", "()V"⟩
def mX0_init : MI := (yX0_init, cX0_init, 1, none)
def tX0_init : List (Nat × Instr × Nat) := [(0, .aload_n 0, 1), (1, .invokespecial 3, 3), (4, .aload_n 0, 1), (5, .sipush 196, 3), (8, .newarray .int, 2), (10, .putfield 9, 3), (13, .aload_n 0, 1), (14, .iconst 1, 1), (15, .putfield 15, 3), (18, .aload_n 0, 1), (19, .iconst (-1), 1), (20, .putfield 19, 3), (23, .return_, 1)]
theorem dX0_init : ∀ q ∈ tX0_init, decode cX0_init q.1 = .ok q.2 := by decide +kernel
theorem oX0_init : MOk mX0_init 0 := ⟨Gw_t1 5 rfl rfl, Gw_t1 106 rfl rfl, ⟨by decide +kernel, by decide +kernel⟩, by decide +kernel, by decide +kernel⟩
abbrev cX0_look : ByteArray := prog_2_method_2_code
def yX0_look : MethodName := ⟨RX0, "look", "(LMidSkins$Net;)V"⟩
def mX0_look : MI := (yX0_look, cX0_look, 2, none)
def tX0_look : List (Nat × Instr × Nat) := [(0, .aload_n 0, 1), (1, .iconst 0, 1), (2, .putfield 15, 3), (5, .aload_n 0, 1), (6, .iconst (-1), 1), (7, .putfield 19, 3), (10, .aload_n 1, 1), (11, .getfield 22, 3), (14, .ifCond .ne 9, 3), (17, .aload_n 0, 1), (18, .iconst 1, 1), (19, .putfield 15, 3), (22, .return_, 1), (23, .aload_n 0, 1), (24, .iconst 2, 1), (25, .aload_n 0, 1), (26, .aload_n 1, 1), (27, .invokevirtual 27, 3), (30, .invokevirtual 31, 3), (33, .ifCond .eq 4, 3), (36, .return_, 1), (37, .aload_n 0, 1), (38, .iconst 3, 1), (39, .aload_n 0, 1), (40, .aload_n 1, 1), (41, .invokevirtual 35, 3), (44, .invokevirtual 31, 3), (47, .ifCond .eq 4, 3), (50, .return_, 1), (51, .aload_n 0, 1), (52, .iconst 4, 1), (53, .aload_n 0, 1), (54, .aload_n 1, 1), (55, .invokevirtual 38, 3), (58, .invokevirtual 31, 3), (61, .ifCond .eq 4, 3), (64, .return_, 1), (65, .aload_n 1, 1), (66, .invokevirtual 41, 3), (69, .aload_n 1, 1), (70, .invokevirtual 44, 3), (73, .aload_n 0, 1), (74, .iconst 5, 1), (75, .aload_n 0, 1), (76, .aload_n 1, 1), (77, .iconst 0, 1), (78, .invokevirtual 47, 3), (81, .invokevirtual 31, 3), (84, .ifCond .eq 4, 3), (87, .return_, 1), (88, .aload_n 0, 1), (89, .bipush 6, 2), (91, .aload_n 0, 1), (92, .aload_n 1, 1), (93, .invokevirtual 51, 3), (96, .invokevirtual 31, 3), (99, .ifCond .eq 4, 3), (102, .return_, 1), (103, .aload_n 0, 1), (104, .bipush 7, 2), (106, .aload_n 0, 1), (107, .aload_n 1, 1), (108, .iconst 2, 1), (109, .invokevirtual 47, 3), (112, .invokevirtual 31, 3), (115, .pop, 1), (116, .return_, 1)]
theorem dX0_look : ∀ q ∈ tX0_look, decode cX0_look q.1 = .ok q.2 := by decide +kernel
theorem oX0_look : MOk mX0_look 1 := ⟨Gw_t1 5 rfl rfl, Gw_t2 51 rfl rfl, ⟨by decide +kernel, by decide +kernel⟩, by decide +kernel, by decide +kernel⟩
theorem iX0_look : MIn mX0_look := ⟨Gw_t2 49 rfl rfl, Gw_t2 50 rfl rfl⟩
abbrev cX0_tells : ByteArray := prog_2_method_3_code
def yX0_tells : MethodName := ⟨RX0, "tells", "(II)Z"⟩
def mX0_tells : MI := (yX0_tells, cX0_tells, 3, (some (.boolean)))
def tX0_tells : List (Nat × Instr × Nat) := [(0, .iload_n 2, 1), (1, .iconst (-1), 1), (2, .if_icmp .ne 5, 3), (5, .iconst 0, 1), (6, .ireturn, 1), (7, .aload_n 0, 1), (8, .iload_n 1, 1), (9, .putfield 15, 3), (12, .aload_n 0, 1), (13, .iload_n 2, 1), (14, .putfield 19, 3), (17, .iconst 1, 1), (18, .ireturn, 1)]
theorem dX0_tells : ∀ q ∈ tX0_tells, decode cX0_tells q.1 = .ok q.2 := by decide +kernel
theorem oX0_tells : MOk mX0_tells 2 := ⟨Gw_t1 5 rfl rfl, Gw_t2 59 rfl rfl, ⟨by decide +kernel, by decide +kernel⟩, by decide +kernel, by decide +kernel⟩
theorem iX0_tells : MIn mX0_tells := ⟨Gw_t2 57 rfl rfl, Gw_t2 58 rfl rfl⟩
abbrev cX0_plateWithTwice : ByteArray := prog_2_method_4_code
def yX0_plateWithTwice : MethodName := ⟨RX0, "plateWithTwice", "(LMidSkins$Net;)I"⟩
def mX0_plateWithTwice : MI := (yX0_plateWithTwice, cX0_plateWithTwice, 5, (some (.int)))
def tX0_plateWithTwice : List (Nat × Instr × Nat) := [(0, .iconst 0, 1), (1, .istore_n 2, 1), (2, .iload_n 2, 1), (3, .aload_n 1, 1), (4, .getfield 22, 3), (7, .if_icmp .ge 72, 3), (10, .aload_n 1, 1), (11, .getfield 54, 3), (14, .iload_n 2, 1), (15, .iaload, 1), (16, .istore_n 3, 1), (17, .iload_n 3, 1), (18, .aload_n 1, 1), (19, .getfield 54, 3), (22, .iload_n 2, 1), (23, .iconst 1, 1), (24, .iadd, 1), (25, .iaload, 1), (26, .if_icmp .ge 47, 3), (29, .aload_n 1, 1), (30, .getfield 54, 3), (33, .iload_n 2, 1), (34, .iaload, 1), (35, .istore 4, 2), (37, .iload 4, 2), (39, .iload_n 3, 1), (40, .if_icmp .ge 27, 3), (43, .aload_n 1, 1), (44, .getfield 57, 3), (47, .iload_n 3, 1), (48, .iaload, 1), (49, .aload_n 1, 1), (50, .getfield 57, 3), (53, .iload 4, 2), (55, .iaload, 1), (56, .if_icmp .ne 5, 3), (59, .iload_n 2, 1), (60, .ireturn, 1), (61, .iinc 4 1, 3), (64, .goto (-27), 3), (67, .iinc 3 1, 3), (70, .goto (-53), 3), (73, .iinc 2 1, 3), (76, .goto (-74), 3), (79, .iconst (-1), 1), (80, .ireturn, 1)]
theorem dX0_plateWithTwice : ∀ q ∈ tX0_plateWithTwice, decode cX0_plateWithTwice q.1 = .ok q.2 := by decide +kernel
theorem oX0_plateWithTwice : MOk mX0_plateWithTwice 1 := ⟨Gw_t1 5 rfl rfl, Gw_t2 55 rfl rfl, ⟨by decide +kernel, by decide +kernel⟩, by decide +kernel, by decide +kernel⟩
theorem iX0_plateWithTwice : MIn mX0_plateWithTwice := ⟨Gw_t2 53 rfl rfl, Gw_t2 54 rfl rfl⟩
abbrev cX0_plateWithDouble : ByteArray := prog_2_method_5_code
def yX0_plateWithDouble : MethodName := ⟨RX0, "plateWithDouble", "(LMidSkins$Net;)I"⟩
def mX0_plateWithDouble : MI := (yX0_plateWithDouble, cX0_plateWithDouble, 4, (some (.int)))
def tX0_plateWithDouble : List (Nat × Instr × Nat) := [(0, .iconst 0, 1), (1, .istore_n 2, 1), (2, .iload_n 2, 1), (3, .aload_n 0, 1), (4, .getfield 9, 3), (7, .arraylength, 1), (8, .if_icmp .ge 16, 3), (11, .aload_n 0, 1), (12, .getfield 9, 3), (15, .iload_n 2, 1), (16, .iconst (-1), 1), (17, .iastore, 1), (18, .iinc 2 1, 3), (21, .goto (-19), 3), (24, .iconst 0, 1), (25, .istore_n 2, 1), (26, .iload_n 2, 1), (27, .aload_n 1, 1), (28, .invokevirtual 60, 3), (31, .if_icmp .ge 49, 3), (34, .bipush 14, 2), (36, .aload_n 1, 1), (37, .getfield 57, 3), (40, .iload_n 2, 1), (41, .iaload, 1), (42, .imul, 1), (43, .aload_n 1, 1), (44, .iload_n 2, 1), (45, .invokevirtual 64, 3), (48, .iadd, 1), (49, .istore_n 3, 1), (50, .aload_n 0, 1), (51, .getfield 9, 3), (54, .iload_n 3, 1), (55, .iaload, 1), (56, .iconst (-1), 1), (57, .if_icmp .eq 10, 3), (60, .aload_n 1, 1), (61, .getfield 68, 3), (64, .iload_n 2, 1), (65, .iaload, 1), (66, .ireturn, 1), (67, .aload_n 0, 1), (68, .getfield 9, 3), (71, .iload_n 3, 1), (72, .iload_n 2, 1), (73, .iastore, 1), (74, .iinc 2 1, 3), (77, .goto (-51), 3), (80, .iconst (-1), 1), (81, .ireturn, 1)]
theorem dX0_plateWithDouble : ∀ q ∈ tX0_plateWithDouble, decode cX0_plateWithDouble q.1 = .ok q.2 := by decide +kernel
theorem oX0_plateWithDouble : MOk mX0_plateWithDouble 1 := ⟨Gw_t1 5 rfl rfl, Gw_t2 63 rfl rfl, ⟨by decide +kernel, by decide +kernel⟩, by decide +kernel, by decide +kernel⟩
theorem iX0_plateWithDouble : MIn mX0_plateWithDouble := ⟨Gw_t2 61 rfl rfl, Gw_t2 62 rfl rfl⟩
abbrev cX0_plateWithOpen : ByteArray := prog_2_method_6_code
def yX0_plateWithOpen : MethodName := ⟨RX0, "plateWithOpen", "(LMidSkins$Net;)I"⟩
def mX0_plateWithOpen : MI := (yX0_plateWithOpen, cX0_plateWithOpen, 4, (some (.int)))
def tX0_plateWithOpen : List (Nat × Instr × Nat) := [(0, .iconst 0, 1), (1, .istore_n 2, 1), (2, .iload_n 2, 1), (3, .aload_n 1, 1), (4, .invokevirtual 60, 3), (7, .if_icmp .ge 54, 3), (10, .bipush 14, 2), (12, .aload_n 1, 1), (13, .iload_n 2, 1), (14, .invokevirtual 64, 3), (17, .imul, 1), (18, .aload_n 1, 1), (19, .getfield 57, 3), (22, .iload_n 2, 1), (23, .iaload, 1), (24, .iadd, 1), (25, .istore_n 3, 1), (26, .aload_n 0, 1), (27, .getfield 9, 3), (30, .iload_n 3, 1), (31, .iaload, 1), (32, .iconst (-1), 1), (33, .if_icmp .ne 10, 3), (36, .aload_n 1, 1), (37, .getfield 68, 3), (40, .iload_n 2, 1), (41, .iaload, 1), (42, .ireturn, 1), (43, .aload_n 1, 1), (44, .getfield 71, 3), (47, .iload_n 2, 1), (48, .aload_n 0, 1), (49, .getfield 9, 3), (52, .iload_n 3, 1), (53, .iaload, 1), (54, .iastore, 1), (55, .iinc 2 1, 3), (58, .goto (-56), 3), (61, .iconst (-1), 1), (62, .ireturn, 1)]
theorem dX0_plateWithOpen : ∀ q ∈ tX0_plateWithOpen, decode cX0_plateWithOpen q.1 = .ok q.2 := by decide +kernel
theorem oX0_plateWithOpen : MOk mX0_plateWithOpen 1 := ⟨Gw_t1 5 rfl rfl, Gw_t2 76 rfl rfl, ⟨by decide +kernel, by decide +kernel⟩, by decide +kernel, by decide +kernel⟩
theorem iX0_plateWithOpen : MIn mX0_plateWithOpen := ⟨Gw_t2 74 rfl rfl, Gw_t2 75 rfl rfl⟩
abbrev cX0_cornerOfDegree : ByteArray := prog_2_method_7_code
def yX0_cornerOfDegree : MethodName := ⟨RX0, "cornerOfDegree", "(LMidSkins$Net;I)I"⟩
def mX0_cornerOfDegree : MI := (yX0_cornerOfDegree, cX0_cornerOfDegree, 4, (some (.int)))
def tX0_cornerOfDegree : List (Nat × Instr × Nat) := [(0, .iconst 0, 1), (1, .istore_n 3, 1), (2, .iload_n 3, 1), (3, .aload_n 1, 1), (4, .getfield 74, 3), (7, .if_icmp .ge 21, 3), (10, .aload_n 1, 1), (11, .getfield 77, 3), (14, .iload_n 3, 1), (15, .iaload, 1), (16, .iload_n 2, 1), (17, .if_icmp .ne 5, 3), (20, .iload_n 3, 1), (21, .ireturn, 1), (22, .iinc 3 1, 3), (25, .goto (-23), 3), (28, .iconst (-1), 1), (29, .ireturn, 1)]
theorem dX0_cornerOfDegree : ∀ q ∈ tX0_cornerOfDegree, decode cX0_cornerOfDegree q.1 = .ok q.2 := by decide +kernel
theorem oX0_cornerOfDegree : MOk mX0_cornerOfDegree 2 := ⟨Gw_t1 5 rfl rfl, Gw_t2 88 rfl rfl, ⟨by decide +kernel, by decide +kernel⟩, by decide +kernel, by decide +kernel⟩
theorem iX0_cornerOfDegree : MIn mX0_cornerOfDegree := ⟨Gw_t2 86 rfl rfl, Gw_t2 87 rfl rfl⟩
abbrev cX0_cornerPinched : ByteArray := prog_2_method_8_code
def yX0_cornerPinched : MethodName := ⟨RX0, "cornerPinched", "(LMidSkins$Net;)I"⟩
def mX0_cornerPinched : MI := (yX0_cornerPinched, cX0_cornerPinched, 3, (some (.int)))
def tX0_cornerPinched : List (Nat × Instr × Nat) := [(0, .iconst 0, 1), (1, .istore_n 2, 1), (2, .iload_n 2, 1), (3, .aload_n 1, 1), (4, .getfield 74, 3), (7, .if_icmp .ge 37, 3), (10, .aload_n 0, 1), (11, .aload_n 1, 1), (12, .aload_n 1, 1), (13, .getfield 80, 3), (16, .iload_n 2, 1), (17, .iaload, 1), (18, .aload_n 1, 1), (19, .getfield 77, 3), (22, .iload_n 2, 1), (23, .iaload, 1), (24, .invokevirtual 83, 3), (27, .aload_n 1, 1), (28, .getfield 77, 3), (31, .iload_n 2, 1), (32, .iaload, 1), (33, .if_icmp .ge 5, 3), (36, .iload_n 2, 1), (37, .ireturn, 1), (38, .iinc 2 1, 3), (41, .goto (-39), 3), (44, .iconst (-1), 1), (45, .ireturn, 1)]
theorem dX0_cornerPinched : ∀ q ∈ tX0_cornerPinched, decode cX0_cornerPinched q.1 = .ok q.2 := by decide +kernel
theorem oX0_cornerPinched : MOk mX0_cornerPinched 1 := ⟨Gw_t1 5 rfl rfl, Gw_t2 92 rfl rfl, ⟨by decide +kernel, by decide +kernel⟩, by decide +kernel, by decide +kernel⟩
theorem iX0_cornerPinched : MIn mX0_cornerPinched := ⟨Gw_t2 90 rfl rfl, Gw_t2 91 rfl rfl⟩
abbrev cX0_ringLength : ByteArray := prog_2_method_9_code
def yX0_ringLength : MethodName := ⟨RX0, "ringLength", "(LMidSkins$Net;II)I"⟩
def mX0_ringLength : MI := (yX0_ringLength, cX0_ringLength, 6, (some (.int)))
def tX0_ringLength : List (Nat × Instr × Nat) := [(0, .iload_n 2, 1), (1, .istore 4, 2), (3, .iconst 1, 1), (4, .istore 5, 2), (6, .iload 5, 2), (8, .iload_n 3, 1), (9, .if_icmp .ge 31, 3), (12, .aload_n 1, 1), (13, .getfield 71, 3), (16, .aload_n 1, 1), (17, .iload 4, 2), (19, .invokevirtual 87, 3), (22, .iaload, 1), (23, .istore 4, 2), (25, .iload 4, 2), (27, .iload_n 2, 1), (28, .if_icmp .ne 6, 3), (31, .iload 5, 2), (33, .ireturn, 1), (34, .iinc 5 1, 3), (37, .goto (-31), 3), (40, .iload_n 3, 1), (41, .ireturn, 1)]
theorem dX0_ringLength : ∀ q ∈ tX0_ringLength, decode cX0_ringLength q.1 = .ok q.2 := by decide +kernel
theorem oX0_ringLength : MOk mX0_ringLength 3 := ⟨Gw_t1 5 rfl rfl, Gw_t2 96 rfl rfl, ⟨by decide +kernel, by decide +kernel⟩, by decide +kernel, by decide +kernel⟩
theorem iX0_ringLength : MIn mX0_ringLength := ⟨Gw_t2 94 rfl rfl, Gw_t2 95 rfl rfl⟩
abbrev cX1_init : ByteArray := prog_3_method_1_code
def yX1_init : MethodName := ⟨RX1, "<init>", "()V"⟩
def mX1_init : MI := (yX1_init, cX1_init, 1, none)
def tX1_init : List (Nat × Instr × Nat) := [(0, .aload_n 0, 1), (1, .invokespecial 3, 3), (4, .aload_n 0, 1), (5, .bipush 40, 2), (7, .newarray .int, 2), (9, .putfield 9, 3), (12, .aload_n 0, 1), (13, .bipush 40, 2), (15, .newarray .int, 2), (17, .putfield 15, 3), (20, .aload_n 0, 1), (21, .bipush 120, 2), (23, .newarray .int, 2), (25, .putfield 18, 3), (28, .aload_n 0, 1), (29, .iconst 0, 1), (30, .putfield 21, 3), (33, .return_, 1)]
theorem dX1_init : ∀ q ∈ tX1_init, decode cX1_init q.1 = .ok q.2 := by decide +kernel
theorem oX1_init : MOk mX1_init 0 := ⟨Gw_t1 6 rfl rfl, Gw_t1 124 rfl rfl, ⟨by decide +kernel, by decide +kernel⟩, by decide +kernel, by decide +kernel⟩
abbrev cX1_rank : ByteArray := prog_3_method_2_code
def yX1_rank : MethodName := ⟨RX1, "rank", "(II)I"⟩
def mX1_rank : MI := (yX1_rank, cX1_rank, 4, (some (.int)))
def tX1_rank : List (Nat × Instr × Nat) := [(0, .iconst 0, 1), (1, .istore_n 3, 1), (2, .iload_n 3, 1), (3, .aload_n 0, 1), (4, .getfield 21, 3), (7, .if_icmp .ge 39, 3), (10, .aload_n 0, 1), (11, .getfield 9, 3), (14, .iload_n 3, 1), (15, .iaload, 1), (16, .iload_n 1, 1), (17, .if_icmp .lt 23, 3), (20, .aload_n 0, 1), (21, .getfield 9, 3), (24, .iload_n 3, 1), (25, .iaload, 1), (26, .iload_n 1, 1), (27, .if_icmp .ne 19, 3), (30, .aload_n 0, 1), (31, .getfield 15, 3), (34, .iload_n 3, 1), (35, .iaload, 1), (36, .iload_n 2, 1), (37, .if_icmp .ge 9, 3), (40, .iinc 3 1, 3), (43, .goto (-41), 3), (46, .iload_n 3, 1), (47, .ireturn, 1)]
theorem dX1_rank : ∀ q ∈ tX1_rank, decode cX1_rank q.1 = .ok q.2 := by decide +kernel
theorem oX1_rank : MOk mX1_rank 2 := ⟨Gw_t1 6 rfl rfl, Gw_t3 27 rfl rfl, ⟨by decide +kernel, by decide +kernel⟩, by decide +kernel, by decide +kernel⟩
theorem iX1_rank : MIn mX1_rank := ⟨Gw_t3 25 rfl rfl, Gw_t3 26 rfl rfl⟩
abbrev cX1_find : ByteArray := prog_3_method_3_code
def yX1_find : MethodName := ⟨RX1, "find", "(II)I"⟩
def mX1_find : MI := (yX1_find, cX1_find, 4, (some (.int)))
def tX1_find : List (Nat × Instr × Nat) := [(0, .aload_n 0, 1), (1, .iload_n 1, 1), (2, .iload_n 2, 1), (3, .invokevirtual 25, 3), (6, .istore_n 3, 1), (7, .iload_n 3, 1), (8, .aload_n 0, 1), (9, .getfield 21, 3), (12, .if_icmp .ge 27, 3), (15, .aload_n 0, 1), (16, .getfield 9, 3), (19, .iload_n 3, 1), (20, .iaload, 1), (21, .iload_n 1, 1), (22, .if_icmp .ne 17, 3), (25, .aload_n 0, 1), (26, .getfield 15, 3), (29, .iload_n 3, 1), (30, .iaload, 1), (31, .iload_n 2, 1), (32, .if_icmp .ne 7, 3), (35, .iload_n 3, 1), (36, .goto 4, 3), (39, .iconst (-1), 1), (40, .ireturn, 1)]
theorem dX1_find : ∀ q ∈ tX1_find, decode cX1_find q.1 = .ok q.2 := by decide +kernel
theorem oX1_find : MOk mX1_find 2 := ⟨Gw_t1 6 rfl rfl, Gw_t3 23 rfl rfl, ⟨by decide +kernel, by decide +kernel⟩, by decide +kernel, by decide +kernel⟩
theorem iX1_find : MIn mX1_find := ⟨Gw_t3 21 rfl rfl, Gw_t3 22 rfl rfl⟩
abbrev cX1_open : ByteArray := prog_3_method_4_code
def yX1_open : MethodName := ⟨RX1, "open", "(II)I"⟩
def mX1_open : MI := (yX1_open, cX1_open, 5, (some (.int)))
def tX1_open : List (Nat × Instr × Nat) := [(0, .aload_n 0, 1), (1, .iload_n 1, 1), (2, .iload_n 2, 1), (3, .invokevirtual 29, 3), (6, .istore_n 3, 1), (7, .iload_n 3, 1), (8, .iconst (-1), 1), (9, .if_icmp .eq 5, 3), (12, .iload_n 3, 1), (13, .ireturn, 1), (14, .aload_n 0, 1), (15, .getfield 21, 3), (18, .bipush 40, 2), (20, .if_icmp .lt 5, 3), (23, .iconst (-1), 1), (24, .ireturn, 1), (25, .aload_n 0, 1), (26, .iload_n 1, 1), (27, .iload_n 2, 1), (28, .invokevirtual 25, 3), (31, .istore_n 3, 1), (32, .aload_n 0, 1), (33, .getfield 21, 3), (36, .istore 4, 2), (38, .iload 4, 2), (40, .iload_n 3, 1), (41, .if_icmp .le 19, 3), (44, .aload_n 0, 1), (45, .iload 4, 2), (47, .iconst 1, 1), (48, .isub, 1), (49, .iload 4, 2), (51, .invokevirtual 32, 3), (54, .iinc 4 (-1), 3), (57, .goto (-19), 3), (60, .aload_n 0, 1), (61, .getfield 9, 3), (64, .iload_n 3, 1), (65, .iload_n 1, 1), (66, .iastore, 1), (67, .aload_n 0, 1), (68, .getfield 15, 3), (71, .iload_n 3, 1), (72, .iload_n 2, 1), (73, .iastore, 1), (74, .aload_n 0, 1), (75, .dup, 1), (76, .getfield 21, 3), (79, .iconst 1, 1), (80, .iadd, 1), (81, .putfield 21, 3), (84, .iload_n 3, 1), (85, .ireturn, 1)]
theorem dX1_open : ∀ q ∈ tX1_open, decode cX1_open q.1 = .ok q.2 := by decide +kernel
theorem oX1_open : MOk mX1_open 2 := ⟨Gw_t1 6 rfl rfl, Gw_t3 35 rfl rfl, ⟨by decide +kernel, by decide +kernel⟩, by decide +kernel, by decide +kernel⟩
theorem iX1_open : MIn mX1_open := ⟨Gw_t3 33 rfl rfl, Gw_t3 34 rfl rfl⟩
abbrev cX1_drop : ByteArray := prog_3_method_5_code
def yX1_drop : MethodName := ⟨RX1, "drop", "(II)V"⟩
def mX1_drop : MI := (yX1_drop, cX1_drop, 5, none)
def tX1_drop : List (Nat × Instr × Nat) := [(0, .aload_n 0, 1), (1, .iload_n 1, 1), (2, .iload_n 2, 1), (3, .invokevirtual 29, 3), (6, .istore_n 3, 1), (7, .iload_n 3, 1), (8, .iconst (-1), 1), (9, .if_icmp .ne 4, 3), (12, .return_, 1), (13, .aload_n 0, 1), (14, .dup, 1), (15, .getfield 21, 3), (18, .iconst 1, 1), (19, .isub, 1), (20, .putfield 21, 3), (23, .iload_n 3, 1), (24, .istore 4, 2), (26, .iload 4, 2), (28, .aload_n 0, 1), (29, .getfield 21, 3), (32, .if_icmp .ge 19, 3), (35, .aload_n 0, 1), (36, .iload 4, 2), (38, .iconst 1, 1), (39, .iadd, 1), (40, .iload 4, 2), (42, .invokevirtual 32, 3), (45, .iinc 4 1, 3), (48, .goto (-22), 3), (51, .return_, 1)]
theorem dX1_drop : ∀ q ∈ tX1_drop, decode cX1_drop q.1 = .ok q.2 := by decide +kernel
theorem oX1_drop : MOk mX1_drop 2 := ⟨Gw_t1 6 rfl rfl, Gw_t3 19 rfl rfl, ⟨by decide +kernel, by decide +kernel⟩, by decide +kernel, by decide +kernel⟩
theorem iX1_drop : MIn mX1_drop := ⟨Gw_t3 17 rfl rfl, Gw_t3 18 rfl rfl⟩
abbrev cX1_shift : ByteArray := prog_3_method_6_code
def yX1_shift : MethodName := ⟨RX1, "shift", "(II)V"⟩
def mX1_shift : MI := (yX1_shift, cX1_shift, 4, none)
def tX1_shift : List (Nat × Instr × Nat) := [(0, .aload_n 0, 1), (1, .getfield 9, 3), (4, .iload_n 2, 1), (5, .aload_n 0, 1), (6, .getfield 9, 3), (9, .iload_n 1, 1), (10, .iaload, 1), (11, .iastore, 1), (12, .aload_n 0, 1), (13, .getfield 15, 3), (16, .iload_n 2, 1), (17, .aload_n 0, 1), (18, .getfield 15, 3), (21, .iload_n 1, 1), (22, .iaload, 1), (23, .iastore, 1), (24, .iconst 0, 1), (25, .istore_n 3, 1), (26, .iload_n 3, 1), (27, .iconst 3, 1), (28, .if_icmp .ge 29, 3), (31, .aload_n 0, 1), (32, .getfield 18, 3), (35, .iconst 3, 1), (36, .iload_n 2, 1), (37, .imul, 1), (38, .iload_n 3, 1), (39, .iadd, 1), (40, .aload_n 0, 1), (41, .getfield 18, 3), (44, .iconst 3, 1), (45, .iload_n 1, 1), (46, .imul, 1), (47, .iload_n 3, 1), (48, .iadd, 1), (49, .iaload, 1), (50, .iastore, 1), (51, .iinc 3 1, 3), (54, .goto (-28), 3), (57, .return_, 1)]
theorem dX1_shift : ∀ q ∈ tX1_shift, decode cX1_shift q.1 = .ok q.2 := by decide +kernel
theorem oX1_shift : MOk mX1_shift 2 := ⟨Gw_t1 6 rfl rfl, Gw_t3 31 rfl rfl, ⟨by decide +kernel, by decide +kernel⟩, by decide +kernel, by decide +kernel⟩
theorem iX1_shift : MIn mX1_shift := ⟨Gw_t3 29 rfl rfl, Gw_t3 30 rfl rfl⟩
abbrev cX1_write : ByteArray := prog_3_method_7_code
def yX1_write : MethodName := ⟨RX1, "write", "(IIII)V"⟩
def mX1_write : MI := (yX1_write, cX1_write, 5, none)
def tX1_write : List (Nat × Instr × Nat) := [(0, .aload_n 0, 1), (1, .getfield 18, 3), (4, .iconst 3, 1), (5, .iload_n 1, 1), (6, .imul, 1), (7, .iload_n 2, 1), (8, .iastore, 1), (9, .aload_n 0, 1), (10, .getfield 18, 3), (13, .iconst 3, 1), (14, .iload_n 1, 1), (15, .imul, 1), (16, .iconst 1, 1), (17, .iadd, 1), (18, .iload_n 3, 1), (19, .iastore, 1), (20, .aload_n 0, 1), (21, .getfield 18, 3), (24, .iconst 3, 1), (25, .iload_n 1, 1), (26, .imul, 1), (27, .iconst 2, 1), (28, .iadd, 1), (29, .iload 4, 2), (31, .iastore, 1), (32, .return_, 1)]
theorem dX1_write : ∀ q ∈ tX1_write, decode cX1_write q.1 = .ok q.2 := by decide +kernel
theorem oX1_write : MOk mX1_write 4 := ⟨Gw_t1 6 rfl rfl, Gw_t3 39 rfl rfl, ⟨by decide +kernel, by decide +kernel⟩, by decide +kernel, by decide +kernel⟩
theorem iX1_write : MIn mX1_write := ⟨Gw_t3 37 rfl rfl, Gw_t3 38 rfl rfl⟩
abbrev cX1_addTo : ByteArray := prog_3_method_8_code
def yX1_addTo : MethodName := ⟨RX1, "addTo", "(LMidSkins$Net;I)V"⟩
def mX1_addTo : MI := (yX1_addTo, cX1_addTo, 5, none)
def tX1_addTo : List (Nat × Instr × Nat) := [(0, .iconst 0, 1), (1, .istore_n 3, 1), (2, .iload_n 3, 1), (3, .aload_n 0, 1), (4, .getfield 21, 3), (7, .if_icmp .ge 77, 3), (10, .aload_n 0, 1), (11, .getfield 9, 3), (14, .iload_n 3, 1), (15, .iaload, 1), (16, .iload_n 2, 1), (17, .if_icmp .ne 61, 3), (20, .aload_n 1, 1), (21, .aload_n 0, 1), (22, .getfield 15, 3), (25, .iload_n 3, 1), (26, .iaload, 1), (27, .invokevirtual 36, 3), (30, .ifCond .eq 48, 3), (33, .iconst 0, 1), (34, .istore 4, 2), (36, .iload 4, 2), (38, .iconst 3, 1), (39, .if_icmp .ge 39, 3), (42, .aload_n 1, 1), (43, .getfield 42, 3), (46, .iconst 3, 1), (47, .aload_n 0, 1), (48, .getfield 15, 3), (51, .iload_n 3, 1), (52, .iaload, 1), (53, .imul, 1), (54, .iload 4, 2), (56, .iadd, 1), (57, .dup2, 1), (58, .iaload, 1), (59, .aload_n 0, 1), (60, .getfield 18, 3), (63, .iconst 3, 1), (64, .iload_n 3, 1), (65, .imul, 1), (66, .iload 4, 2), (68, .iadd, 1), (69, .iaload, 1), (70, .iadd, 1), (71, .iastore, 1), (72, .iinc 4 1, 3), (75, .goto (-39), 3), (78, .iinc 3 1, 3), (81, .goto (-79), 3), (84, .return_, 1)]
theorem dX1_addTo : ∀ q ∈ tX1_addTo, decode cX1_addTo q.1 = .ok q.2 := by decide +kernel
theorem oX1_addTo : MOk mX1_addTo 2 := ⟨Gw_t1 6 rfl rfl, Gw_t2 144 rfl rfl, ⟨by decide +kernel, by decide +kernel⟩, by decide +kernel, by decide +kernel⟩
theorem iX1_addTo : MIn mX1_addTo := ⟨Gw_t2 142 rfl rfl, Gw_t2 143 rfl rfl⟩
abbrev cX1_mixAll : ByteArray := prog_3_method_9_code
def yX1_mixAll : MethodName := ⟨RX1, "mixAll", "(J)J"⟩
def mX1_mixAll : MI := (yX1_mixAll, cX1_mixAll, 5, (some (.long)))
def tX1_mixAll : List (Nat × Instr × Nat) := [(0, .iconst 0, 1), (1, .istore_n 3, 1), (2, .iload_n 3, 1), (3, .aload_n 0, 1), (4, .getfield 21, 3), (7, .if_icmp .ge 51, 3), (10, .lload_n 1, 1), (11, .aload_n 0, 1), (12, .getfield 15, 3), (15, .iload_n 3, 1), (16, .iaload, 1), (17, .invokestatic 43, 3), (20, .lstore_n 1, 1), (21, .iconst 0, 1), (22, .istore 4, 2), (24, .iload 4, 2), (26, .iconst 3, 1), (27, .if_icmp .ge 25, 3), (30, .lload_n 1, 1), (31, .aload_n 0, 1), (32, .getfield 18, 3), (35, .iconst 3, 1), (36, .iload_n 3, 1), (37, .imul, 1), (38, .iload 4, 2), (40, .iadd, 1), (41, .iaload, 1), (42, .invokestatic 43, 3), (45, .lstore_n 1, 1), (46, .iinc 4 1, 3), (49, .goto (-25), 3), (52, .iinc 3 1, 3), (55, .goto (-53), 3), (58, .lload_n 1, 1), (59, .lreturn, 1)]
theorem dX1_mixAll : ∀ q ∈ tX1_mixAll, decode cX1_mixAll q.1 = .ok q.2 := by decide +kernel
theorem oX1_mixAll : MOk mX1_mixAll 1 := ⟨Gw_t1 6 rfl rfl, Gw_t3 73 rfl rfl, ⟨by decide +kernel, by decide +kernel⟩, by decide +kernel, by decide +kernel⟩
theorem iX1_mixAll : MIn mX1_mixAll := ⟨Gw_t3 71 rfl rfl, Gw_t3 72 rfl rfl⟩
abbrev cX2_init : ByteArray := prog_4_method_1_code
def yX2_init : MethodName := ⟨RX2, "<init>", "(III)V"⟩
def mX2_init : MI := (yX2_init, cX2_init, 4, none)
def tX2_init : List (Nat × Instr × Nat) := [(0, .aload_n 0, 1), (1, .invokespecial 3, 3), (4, .aload_n 0, 1), (5, .iconst 3, 1), (6, .iload_n 1, 1), (7, .imul, 1), (8, .newarray .int, 2), (10, .putfield 9, 3), (13, .aload_n 0, 1), (14, .iload_n 2, 1), (15, .iconst 1, 1), (16, .iadd, 1), (17, .newarray .int, 2), (19, .putfield 15, 3), (22, .aload_n 0, 1), (23, .iconst 2, 1), (24, .iload_n 3, 1), (25, .imul, 1), (26, .newarray .int, 2), (28, .putfield 18, 3), (31, .aload_n 0, 1), (32, .iconst 2, 1), (33, .iload_n 3, 1), (34, .imul, 1), (35, .newarray .int, 2), (37, .putfield 21, 3), (40, .aload_n 0, 1), (41, .iconst 2, 1), (42, .iload_n 3, 1), (43, .imul, 1), (44, .newarray .int, 2), (46, .putfield 24, 3), (49, .aload_n 0, 1), (50, .iconst 2, 1), (51, .iload_n 3, 1), (52, .imul, 1), (53, .newarray .int, 2), (55, .putfield 27, 3), (58, .aload_n 0, 1), (59, .iload_n 3, 1), (60, .newarray .int, 2), (62, .putfield 30, 3), (65, .aload_n 0, 1), (66, .iload_n 1, 1), (67, .newarray .int, 2), (69, .putfield 33, 3), (72, .aload_n 0, 1), (73, .iload_n 1, 1), (74, .newarray .int, 2), (76, .putfield 36, 3), (79, .return_, 1)]
theorem dX2_init : ∀ q ∈ tX2_init, decode cX2_init q.1 = .ok q.2 := by decide +kernel
theorem oX2_init : MOk mX2_init 3 := ⟨Gw_t1 4 rfl rfl, Gw_t1 48 rfl rfl, ⟨by decide +kernel, by decide +kernel⟩, by decide +kernel, by decide +kernel⟩
abbrev cX2_hasCorner : ByteArray := prog_4_method_2_code
def yX2_hasCorner : MethodName := ⟨RX2, "hasCorner", "(I)Z"⟩
def mX2_hasCorner : MI := (yX2_hasCorner, cX2_hasCorner, 2, (some (.boolean)))
def tX2_hasCorner : List (Nat × Instr × Nat) := [(0, .iload_n 1, 1), (1, .ifCond .lt 15, 3), (4, .iload_n 1, 1), (5, .aload_n 0, 1), (6, .getfield 39, 3), (9, .if_icmp .ge 7, 3), (12, .iconst 1, 1), (13, .goto 4, 3), (16, .iconst 0, 1), (17, .ireturn, 1)]
theorem dX2_hasCorner : ∀ q ∈ tX2_hasCorner, decode cX2_hasCorner q.1 = .ok q.2 := by decide +kernel
theorem oX2_hasCorner : MOk mX2_hasCorner 1 := ⟨Gw_t1 4 rfl rfl, Gw_t1 230 rfl rfl, ⟨by decide +kernel, by decide +kernel⟩, by decide +kernel, by decide +kernel⟩
theorem iX2_hasCorner : MIn mX2_hasCorner := ⟨Gw_t1 228 rfl rfl, Gw_t1 229 rfl rfl⟩
abbrev cX2_hasPlate : ByteArray := prog_4_method_3_code
def yX2_hasPlate : MethodName := ⟨RX2, "hasPlate", "(I)Z"⟩
def mX2_hasPlate : MI := (yX2_hasPlate, cX2_hasPlate, 2, (some (.boolean)))
def tX2_hasPlate : List (Nat × Instr × Nat) := [(0, .iload_n 1, 1), (1, .ifCond .lt 15, 3), (4, .iload_n 1, 1), (5, .aload_n 0, 1), (6, .getfield 43, 3), (9, .if_icmp .ge 7, 3), (12, .iconst 1, 1), (13, .goto 4, 3), (16, .iconst 0, 1), (17, .ireturn, 1)]
theorem dX2_hasPlate : ∀ q ∈ tX2_hasPlate, decode cX2_hasPlate q.1 = .ok q.2 := by decide +kernel
theorem oX2_hasPlate : MOk mX2_hasPlate 1 := ⟨Gw_t1 4 rfl rfl, Gw_t2 31 rfl rfl, ⟨by decide +kernel, by decide +kernel⟩, by decide +kernel, by decide +kernel⟩
theorem iX2_hasPlate : MIn mX2_hasPlate := ⟨Gw_t2 29 rfl rfl, Gw_t2 30 rfl rfl⟩
abbrev cX2_steps : ByteArray := prog_4_method_4_code
def yX2_steps : MethodName := ⟨RX2, "steps", "()I"⟩
def mX2_steps : MI := (yX2_steps, cX2_steps, 1, (some (.int)))
def tX2_steps : List (Nat × Instr × Nat) := [(0, .aload_n 0, 1), (1, .getfield 15, 3), (4, .aload_n 0, 1), (5, .getfield 43, 3), (8, .iaload, 1), (9, .ireturn, 1)]
theorem dX2_steps : ∀ q ∈ tX2_steps, decode cX2_steps q.1 = .ok q.2 := by decide +kernel
theorem oX2_steps : MOk mX2_steps 0 := ⟨Gw_t1 4 rfl rfl, Gw_t2 15 rfl rfl, ⟨by decide +kernel, by decide +kernel⟩, by decide +kernel, by decide +kernel⟩
theorem iX2_steps : MIn mX2_steps := ⟨Gw_t2 13 rfl rfl, Gw_t2 14 rfl rfl⟩
abbrev cX2_sizeOf : ByteArray := prog_4_method_5_code
def yX2_sizeOf : MethodName := ⟨RX2, "sizeOf", "(I)I"⟩
def mX2_sizeOf : MI := (yX2_sizeOf, cX2_sizeOf, 2, (some (.int)))
def tX2_sizeOf : List (Nat × Instr × Nat) := [(0, .aload_n 0, 1), (1, .getfield 15, 3), (4, .iload_n 1, 1), (5, .iconst 1, 1), (6, .iadd, 1), (7, .iaload, 1), (8, .aload_n 0, 1), (9, .getfield 15, 3), (12, .iload_n 1, 1), (13, .iaload, 1), (14, .isub, 1), (15, .ireturn, 1)]
theorem dX2_sizeOf : ∀ q ∈ tX2_sizeOf, decode cX2_sizeOf q.1 = .ok q.2 := by decide +kernel
theorem oX2_sizeOf : MOk mX2_sizeOf 1 := ⟨Gw_t1 4 rfl rfl, Gw_t2 157 rfl rfl, ⟨by decide +kernel, by decide +kernel⟩, by decide +kernel, by decide +kernel⟩
theorem iX2_sizeOf : MIn mX2_sizeOf := ⟨Gw_t2 155 rfl rfl, Gw_t2 156 rfl rfl⟩
abbrev cX2_stepAfter : ByteArray := prog_4_method_6_code
def yX2_stepAfter : MethodName := ⟨RX2, "stepAfter", "(I)I"⟩
def mX2_stepAfter : MI := (yX2_stepAfter, cX2_stepAfter, 3, (some (.int)))
def tX2_stepAfter : List (Nat × Instr × Nat) := [(0, .aload_n 0, 1), (1, .getfield 21, 3), (4, .iload_n 1, 1), (5, .iaload, 1), (6, .istore_n 2, 1), (7, .iload_n 1, 1), (8, .iconst 1, 1), (9, .iadd, 1), (10, .aload_n 0, 1), (11, .getfield 15, 3), (14, .iload_n 2, 1), (15, .iconst 1, 1), (16, .iadd, 1), (17, .iaload, 1), (18, .if_icmp .ge 9, 3), (21, .iload_n 1, 1), (22, .iconst 1, 1), (23, .iadd, 1), (24, .goto 9, 3), (27, .aload_n 0, 1), (28, .getfield 15, 3), (31, .iload_n 2, 1), (32, .iaload, 1), (33, .ireturn, 1)]
theorem dX2_stepAfter : ∀ q ∈ tX2_stepAfter, decode cX2_stepAfter q.1 = .ok q.2 := by decide +kernel
theorem oX2_stepAfter : MOk mX2_stepAfter 1 := ⟨Gw_t1 4 rfl rfl, Gw_t2 72 rfl rfl, ⟨by decide +kernel, by decide +kernel⟩, by decide +kernel, by decide +kernel⟩
theorem iX2_stepAfter : MIn mX2_stepAfter := ⟨Gw_t2 70 rfl rfl, Gw_t2 71 rfl rfl⟩
abbrev cX2_stepBefore : ByteArray := prog_4_method_7_code
def yX2_stepBefore : MethodName := ⟨RX2, "stepBefore", "(I)I"⟩
def mX2_stepBefore : MI := (yX2_stepBefore, cX2_stepBefore, 3, (some (.int)))
def tX2_stepBefore : List (Nat × Instr × Nat) := [(0, .aload_n 0, 1), (1, .getfield 21, 3), (4, .iload_n 1, 1), (5, .iaload, 1), (6, .istore_n 2, 1), (7, .iload_n 1, 1), (8, .aload_n 0, 1), (9, .getfield 15, 3), (12, .iload_n 2, 1), (13, .iaload, 1), (14, .if_icmp .le 9, 3), (17, .iload_n 1, 1), (18, .iconst 1, 1), (19, .isub, 1), (20, .goto 13, 3), (23, .aload_n 0, 1), (24, .getfield 15, 3), (27, .iload_n 2, 1), (28, .iconst 1, 1), (29, .iadd, 1), (30, .iaload, 1), (31, .iconst 1, 1), (32, .isub, 1), (33, .ireturn, 1)]
theorem dX2_stepBefore : ∀ q ∈ tX2_stepBefore, decode cX2_stepBefore q.1 = .ok q.2 := by decide +kernel
theorem oX2_stepBefore : MOk mX2_stepBefore 1 := ⟨Gw_t1 4 rfl rfl, Gw_t2 100 rfl rfl, ⟨by decide +kernel, by decide +kernel⟩, by decide +kernel, by decide +kernel⟩
theorem iX2_stepBefore : MIn mX2_stepBefore := ⟨Gw_t2 98 rfl rfl, Gw_t2 99 rfl rfl⟩
abbrev cX2_stepTarget : ByteArray := prog_4_method_8_code
def yX2_stepTarget : MethodName := ⟨RX2, "stepTarget", "(I)I"⟩
def mX2_stepTarget : MI := (yX2_stepTarget, cX2_stepTarget, 2, (some (.int)))
def tX2_stepTarget : List (Nat × Instr × Nat) := [(0, .aload_n 0, 1), (1, .getfield 18, 3), (4, .aload_n 0, 1), (5, .iload_n 1, 1), (6, .invokevirtual 46, 3), (9, .iaload, 1), (10, .ireturn, 1)]
theorem dX2_stepTarget : ∀ q ∈ tX2_stepTarget, decode cX2_stepTarget q.1 = .ok q.2 := by decide +kernel
theorem oX2_stepTarget : MOk mX2_stepTarget 1 := ⟨Gw_t1 4 rfl rfl, Gw_t2 68 rfl rfl, ⟨by decide +kernel, by decide +kernel⟩, by decide +kernel, by decide +kernel⟩
theorem iX2_stepTarget : MIn mX2_stepTarget := ⟨Gw_t2 66 rfl rfl, Gw_t2 67 rfl rfl⟩
abbrev cX2_whence : ByteArray := prog_4_method_9_code
def yX2_whence : MethodName := ⟨RX2, "whence", "(I)I"⟩
def mX2_whence : MI := (yX2_whence, cX2_whence, 2, (some (.int)))
def tX2_whence : List (Nat × Instr × Nat) := [(0, .aload_n 0, 1), (1, .getfield 18, 3), (4, .aload_n 0, 1), (5, .getfield 30, 3), (8, .iload_n 1, 1), (9, .iaload, 1), (10, .iaload, 1), (11, .ireturn, 1)]
theorem dX2_whence : ∀ q ∈ tX2_whence, decode cX2_whence q.1 = .ok q.2 := by decide +kernel
theorem oX2_whence : MOk mX2_whence 1 := ⟨Gw_t1 4 rfl rfl, Gw_t2 135 rfl rfl, ⟨by decide +kernel, by decide +kernel⟩, by decide +kernel, by decide +kernel⟩
theorem iX2_whence : MIn mX2_whence := ⟨Gw_t2 133 rfl rfl, Gw_t2 134 rfl rfl⟩
abbrev cX2_whither : ByteArray := prog_4_method_10_code
def yX2_whither : MethodName := ⟨RX2, "whither", "(I)I"⟩
def mX2_whither : MI := (yX2_whither, cX2_whither, 2, (some (.int)))
def tX2_whither : List (Nat × Instr × Nat) := [(0, .aload_n 0, 1), (1, .aload_n 0, 1), (2, .getfield 30, 3), (5, .iload_n 1, 1), (6, .iaload, 1), (7, .invokevirtual 50, 3), (10, .ireturn, 1)]
theorem dX2_whither : ∀ q ∈ tX2_whither, decode cX2_whither q.1 = .ok q.2 := by decide +kernel
theorem oX2_whither : MOk mX2_whither 1 := ⟨Gw_t1 4 rfl rfl, Gw_t2 139 rfl rfl, ⟨by decide +kernel, by decide +kernel⟩, by decide +kernel, by decide +kernel⟩
theorem iX2_whither : MIn mX2_whither := ⟨Gw_t2 137 rfl rfl, Gw_t2 138 rfl rfl⟩
abbrev cX2_addCorner : ByteArray := prog_4_method_11_code
def yX2_addCorner : MethodName := ⟨RX2, "addCorner", "([I)V"⟩
def mX2_addCorner : MI := (yX2_addCorner, cX2_addCorner, 3, none)
def tX2_addCorner : List (Nat × Instr × Nat) := [(0, .iconst 0, 1), (1, .istore_n 2, 1), (2, .iload_n 2, 1), (3, .iconst 3, 1), (4, .if_icmp .ge 25, 3), (7, .aload_n 0, 1), (8, .getfield 9, 3), (11, .iconst 3, 1), (12, .aload_n 0, 1), (13, .getfield 39, 3), (16, .imul, 1), (17, .iload_n 2, 1), (18, .iadd, 1), (19, .aload_n 1, 1), (20, .iload_n 2, 1), (21, .iaload, 1), (22, .iastore, 1), (23, .iinc 2 1, 3), (26, .goto (-24), 3), (29, .aload_n 0, 1), (30, .dup, 1), (31, .getfield 39, 3), (34, .iconst 1, 1), (35, .iadd, 1), (36, .putfield 39, 3), (39, .return_, 1)]
theorem dX2_addCorner : ∀ q ∈ tX2_addCorner, decode cX2_addCorner q.1 = .ok q.2 := by decide +kernel
theorem oX2_addCorner : MOk mX2_addCorner 1 := ⟨Gw_t1 4 rfl rfl, Gw_t1 218 rfl rfl, ⟨by decide +kernel, by decide +kernel⟩, by decide +kernel, by decide +kernel⟩
theorem iX2_addCorner : MIn mX2_addCorner := ⟨Gw_t1 216 rfl rfl, Gw_t1 217 rfl rfl⟩
abbrev cX2_addPlate : ByteArray := prog_4_method_12_code
def yX2_addPlate : MethodName := ⟨RX2, "addPlate", "([II)V"⟩
def mX2_addPlate : MI := (yX2_addPlate, cX2_addPlate, 5, none)
def tX2_addPlate : List (Nat × Instr × Nat) := [(0, .aload_n 0, 1), (1, .invokevirtual 53, 3), (4, .istore_n 3, 1), (5, .iconst 0, 1), (6, .istore 4, 2), (8, .iload 4, 2), (10, .iload_n 2, 1), (11, .if_icmp .ge 35, 3), (14, .aload_n 0, 1), (15, .getfield 18, 3), (18, .iload_n 3, 1), (19, .iload 4, 2), (21, .iadd, 1), (22, .aload_n 1, 1), (23, .iload 4, 2), (25, .iaload, 1), (26, .iastore, 1), (27, .aload_n 0, 1), (28, .getfield 21, 3), (31, .iload_n 3, 1), (32, .iload 4, 2), (34, .iadd, 1), (35, .aload_n 0, 1), (36, .getfield 43, 3), (39, .iastore, 1), (40, .iinc 4 1, 3), (43, .goto (-35), 3), (46, .aload_n 0, 1), (47, .iload_n 3, 1), (48, .iload_n 2, 1), (49, .iadd, 1), (50, .invokevirtual 57, 3), (53, .return_, 1)]
theorem dX2_addPlate : ∀ q ∈ tX2_addPlate, decode cX2_addPlate q.1 = .ok q.2 := by decide +kernel
theorem oX2_addPlate : MOk mX2_addPlate 2 := ⟨Gw_t1 4 rfl rfl, Gw_t2 11 rfl rfl, ⟨by decide +kernel, by decide +kernel⟩, by decide +kernel, by decide +kernel⟩
theorem iX2_addPlate : MIn mX2_addPlate := ⟨Gw_t2 9 rfl rfl, Gw_t2 10 rfl rfl⟩
abbrev cX2_closePlate : ByteArray := prog_4_method_13_code
def yX2_closePlate : MethodName := ⟨RX2, "closePlate", "(I)V"⟩
def mX2_closePlate : MI := (yX2_closePlate, cX2_closePlate, 2, none)
def tX2_closePlate : List (Nat × Instr × Nat) := [(0, .aload_n 0, 1), (1, .dup, 1), (2, .getfield 43, 3), (5, .iconst 1, 1), (6, .iadd, 1), (7, .putfield 43, 3), (10, .aload_n 0, 1), (11, .getfield 15, 3), (14, .aload_n 0, 1), (15, .getfield 43, 3), (18, .iload_n 1, 1), (19, .iastore, 1), (20, .return_, 1)]
theorem dX2_closePlate : ∀ q ∈ tX2_closePlate, decode cX2_closePlate q.1 = .ok q.2 := by decide +kernel
theorem oX2_closePlate : MOk mX2_closePlate 1 := ⟨Gw_t1 4 rfl rfl, Gw_t2 19 rfl rfl, ⟨by decide +kernel, by decide +kernel⟩, by decide +kernel, by decide +kernel⟩
theorem iX2_closePlate : MIn mX2_closePlate := ⟨Gw_t2 17 rfl rfl, Gw_t2 18 rfl rfl⟩
abbrev cX2_turnPlate : ByteArray := prog_4_method_14_code
def yX2_turnPlate : MethodName := ⟨RX2, "turnPlate", "(I)V"⟩
def mX2_turnPlate : MI := (yX2_turnPlate, cX2_turnPlate, 5, none)
def tX2_turnPlate : List (Nat × Instr × Nat) := [(0, .aload_n 0, 1), (1, .getfield 15, 3), (4, .iload_n 1, 1), (5, .iaload, 1), (6, .iconst 1, 1), (7, .iadd, 1), (8, .istore_n 2, 1), (9, .aload_n 0, 1), (10, .getfield 15, 3), (13, .iload_n 1, 1), (14, .iconst 1, 1), (15, .iadd, 1), (16, .iaload, 1), (17, .iconst 1, 1), (18, .isub, 1), (19, .istore_n 3, 1), (20, .iload_n 2, 1), (21, .iload_n 3, 1), (22, .if_icmp .ge 40, 3), (25, .aload_n 0, 1), (26, .getfield 18, 3), (29, .iload_n 2, 1), (30, .iaload, 1), (31, .istore 4, 2), (33, .aload_n 0, 1), (34, .getfield 18, 3), (37, .iload_n 2, 1), (38, .aload_n 0, 1), (39, .getfield 18, 3), (42, .iload_n 3, 1), (43, .iaload, 1), (44, .iastore, 1), (45, .aload_n 0, 1), (46, .getfield 18, 3), (49, .iload_n 3, 1), (50, .iload 4, 2), (52, .iastore, 1), (53, .iinc 2 1, 3), (56, .iinc 3 (-1), 3), (59, .goto (-39), 3), (62, .return_, 1)]
theorem dX2_turnPlate : ∀ q ∈ tX2_turnPlate, decode cX2_turnPlate q.1 = .ok q.2 := by decide +kernel
theorem oX2_turnPlate : MOk mX2_turnPlate 1 := ⟨Gw_t1 4 rfl rfl, Gw_t2 35 rfl rfl, ⟨by decide +kernel, by decide +kernel⟩, by decide +kernel, by decide +kernel⟩
theorem iX2_turnPlate : MIn mX2_turnPlate := ⟨Gw_t2 33 rfl rfl, Gw_t2 34 rfl rfl⟩
abbrev cX2_numberEdges : ByteArray := prog_4_method_15_code
def yX2_numberEdges : MethodName := ⟨RX2, "numberEdges", "()V"⟩
def mX2_numberEdges : MI := (yX2_numberEdges, cX2_numberEdges, 2, none)
def tX2_numberEdges : List (Nat × Instr × Nat) := [(0, .aload_n 0, 1), (1, .iconst 0, 1), (2, .putfield 61, 3), (5, .iconst 0, 1), (6, .istore_n 1, 1), (7, .iload_n 1, 1), (8, .aload_n 0, 1), (9, .invokevirtual 53, 3), (12, .if_icmp .ge 69, 3), (15, .aload_n 0, 1), (16, .getfield 24, 3), (19, .iload_n 1, 1), (20, .iaload, 1), (21, .iload_n 1, 1), (22, .if_icmp .ge 23, 3), (25, .aload_n 0, 1), (26, .getfield 27, 3), (29, .iload_n 1, 1), (30, .aload_n 0, 1), (31, .getfield 27, 3), (34, .aload_n 0, 1), (35, .getfield 24, 3), (38, .iload_n 1, 1), (39, .iaload, 1), (40, .iaload, 1), (41, .iastore, 1), (42, .goto 33, 3), (45, .aload_n 0, 1), (46, .getfield 27, 3), (49, .iload_n 1, 1), (50, .aload_n 0, 1), (51, .getfield 61, 3), (54, .iastore, 1), (55, .aload_n 0, 1), (56, .getfield 30, 3), (59, .aload_n 0, 1), (60, .getfield 61, 3), (63, .iload_n 1, 1), (64, .iastore, 1), (65, .aload_n 0, 1), (66, .dup, 1), (67, .getfield 61, 3), (70, .iconst 1, 1), (71, .iadd, 1), (72, .putfield 61, 3), (75, .iinc 1 1, 3), (78, .goto (-71), 3), (81, .return_, 1)]
theorem dX2_numberEdges : ∀ q ∈ tX2_numberEdges, decode cX2_numberEdges q.1 = .ok q.2 := by decide +kernel
theorem oX2_numberEdges : MOk mX2_numberEdges 0 := ⟨Gw_t1 4 rfl rfl, Gw_t2 80 rfl rfl, ⟨by decide +kernel, by decide +kernel⟩, by decide +kernel, by decide +kernel⟩
theorem iX2_numberEdges : MIn mX2_numberEdges := ⟨Gw_t2 78 rfl rfl, Gw_t2 79 rfl rfl⟩
abbrev cX2_findDoors : ByteArray := prog_4_method_16_code
def yX2_findDoors : MethodName := ⟨RX2, "findDoors", "()V"⟩
def mX2_findDoors : MI := (yX2_findDoors, cX2_findDoors, 3, none)
def tX2_findDoors : List (Nat × Instr × Nat) := [(0, .iconst 0, 1), (1, .istore_n 1, 1), (2, .iload_n 1, 1), (3, .aload_n 0, 1), (4, .getfield 39, 3), (7, .if_icmp .ge 16, 3), (10, .aload_n 0, 1), (11, .getfield 33, 3), (14, .iload_n 1, 1), (15, .iconst 0, 1), (16, .iastore, 1), (17, .iinc 1 1, 3), (20, .goto (-18), 3), (23, .iconst 0, 1), (24, .istore_n 1, 1), (25, .iload_n 1, 1), (26, .aload_n 0, 1), (27, .invokevirtual 53, 3), (30, .if_icmp .ge 62, 3), (33, .aload_n 0, 1), (34, .getfield 18, 3), (37, .iload_n 1, 1), (38, .iaload, 1), (39, .istore_n 2, 1), (40, .aload_n 0, 1), (41, .getfield 33, 3), (44, .iload_n 2, 1), (45, .iaload, 1), (46, .ifCond .eq 23, 3), (49, .aload_n 0, 1), (50, .getfield 27, 3), (53, .iload_n 1, 1), (54, .iaload, 1), (55, .aload_n 0, 1), (56, .getfield 27, 3), (59, .aload_n 0, 1), (60, .getfield 36, 3), (63, .iload_n 2, 1), (64, .iaload, 1), (65, .iaload, 1), (66, .if_icmp .ge 10, 3), (69, .aload_n 0, 1), (70, .getfield 36, 3), (73, .iload_n 2, 1), (74, .iload_n 1, 1), (75, .iastore, 1), (76, .aload_n 0, 1), (77, .getfield 33, 3), (80, .iload_n 2, 1), (81, .dup2, 1), (82, .iaload, 1), (83, .iconst 1, 1), (84, .iadd, 1), (85, .iastore, 1), (86, .iinc 1 1, 3), (89, .goto (-64), 3), (92, .return_, 1)]
theorem dX2_findDoors : ∀ q ∈ tX2_findDoors, decode cX2_findDoors q.1 = .ok q.2 := by decide +kernel
theorem oX2_findDoors : MOk mX2_findDoors 0 := ⟨Gw_t1 4 rfl rfl, Gw_t2 84 rfl rfl, ⟨by decide +kernel, by decide +kernel⟩, by decide +kernel, by decide +kernel⟩
theorem iX2_findDoors : MIn mX2_findDoors := ⟨Gw_t2 82 rfl rfl, Gw_t2 83 rfl rfl⟩
abbrev cX2_shapeFrom : ByteArray := prog_4_method_17_code
def yX2_shapeFrom : MethodName := ⟨RX2, "shapeFrom", "(LMidSkins$Net;)V"⟩
def mX2_shapeFrom : MI := (yX2_shapeFrom, cX2_shapeFrom, 3, none)
def tX2_shapeFrom : List (Nat × Instr × Nat) := [(0, .aload_n 0, 1), (1, .aload_n 1, 1), (2, .getfield 61, 3), (5, .putfield 39, 3), (8, .aload_n 0, 1), (9, .aload_n 1, 1), (10, .invokevirtual 64, 3), (13, .iconst 0, 1), (14, .istore_n 2, 1), (15, .iload_n 2, 1), (16, .aload_n 1, 1), (17, .getfield 39, 3), (20, .if_icmp .ge 15, 3), (23, .aload_n 0, 1), (24, .aload_n 1, 1), (25, .iload_n 2, 1), (26, .invokevirtual 68, 3), (29, .iinc 2 1, 3), (32, .goto (-17), 3), (35, .aload_n 0, 1), (36, .invokevirtual 72, 3), (39, .aload_n 0, 1), (40, .invokevirtual 75, 3), (43, .return_, 1)]
theorem dX2_shapeFrom : ∀ q ∈ tX2_shapeFrom, decode cX2_shapeFrom q.1 = .ok q.2 := by decide +kernel
theorem oX2_shapeFrom : MOk mX2_shapeFrom 1 := ⟨Gw_t1 4 rfl rfl, Gw_t2 116 rfl rfl, ⟨by decide +kernel, by decide +kernel⟩, by decide +kernel, by decide +kernel⟩
theorem iX2_shapeFrom : MIn mX2_shapeFrom := ⟨Gw_t2 114 rfl rfl, Gw_t2 115 rfl rfl⟩
abbrev cX2_shrinkPlates : ByteArray := prog_4_method_18_code
def yX2_shrinkPlates : MethodName := ⟨RX2, "shrinkPlates", "(LMidSkins$Net;)V"⟩
def mX2_shrinkPlates : MI := (yX2_shrinkPlates, cX2_shrinkPlates, 3, none)
def tX2_shrinkPlates : List (Nat × Instr × Nat) := [(0, .aload_n 0, 1), (1, .aload_n 1, 1), (2, .getfield 43, 3), (5, .putfield 43, 3), (8, .iconst 0, 1), (9, .istore_n 2, 1), (10, .iload_n 2, 1), (11, .aload_n 0, 1), (12, .getfield 43, 3), (15, .if_icmp .gt 21, 3), (18, .aload_n 0, 1), (19, .getfield 15, 3), (22, .iload_n 2, 1), (23, .aload_n 1, 1), (24, .getfield 15, 3), (27, .iload_n 2, 1), (28, .iaload, 1), (29, .iastore, 1), (30, .iinc 2 1, 3), (33, .goto (-23), 3), (36, .iconst 0, 1), (37, .istore_n 2, 1), (38, .iload_n 2, 1), (39, .aload_n 0, 1), (40, .invokevirtual 53, 3), (43, .if_icmp .ge 33, 3), (46, .aload_n 0, 1), (47, .getfield 18, 3), (50, .iload_n 2, 1), (51, .aload_n 1, 1), (52, .getfield 27, 3), (55, .iload_n 2, 1), (56, .iaload, 1), (57, .iastore, 1), (58, .aload_n 0, 1), (59, .getfield 21, 3), (62, .iload_n 2, 1), (63, .aload_n 1, 1), (64, .getfield 21, 3), (67, .iload_n 2, 1), (68, .iaload, 1), (69, .iastore, 1), (70, .iinc 2 1, 3), (73, .goto (-35), 3), (76, .return_, 1)]
theorem dX2_shrinkPlates : ∀ q ∈ tX2_shrinkPlates, decode cX2_shrinkPlates q.1 = .ok q.2 := by decide +kernel
theorem oX2_shrinkPlates : MOk mX2_shrinkPlates 1 := ⟨Gw_t1 4 rfl rfl, Gw_t2 120 rfl rfl, ⟨by decide +kernel, by decide +kernel⟩, by decide +kernel, by decide +kernel⟩
theorem iX2_shrinkPlates : MIn mX2_shrinkPlates := ⟨Gw_t2 118 rfl rfl, Gw_t2 119 rfl rfl⟩
abbrev cX2_addCornerPlate : ByteArray := prog_4_method_19_code
def yX2_addCornerPlate : MethodName := ⟨RX2, "addCornerPlate", "(LMidSkins$Net;I)V"⟩
def mX2_addCornerPlate : MI := (yX2_addCornerPlate, cX2_addCornerPlate, 7, none)
def tX2_addCornerPlate : List (Nat × Instr × Nat) := [(0, .aload_n 0, 1), (1, .invokevirtual 53, 3), (4, .istore_n 3, 1), (5, .aload_n 1, 1), (6, .getfield 36, 3), (9, .iload_n 2, 1), (10, .iaload, 1), (11, .istore 4, 2), (13, .iconst 0, 1), (14, .istore 5, 2), (16, .iload 5, 2), (18, .aload_n 1, 1), (19, .getfield 33, 3), (22, .iload_n 2, 1), (23, .iaload, 1), (24, .if_icmp .ge 77, 3), (27, .aload_n 1, 1), (28, .iload 4, 2), (30, .invokevirtual 78, 3), (33, .istore 6, 2), (35, .aload_n 0, 1), (36, .getfield 18, 3), (39, .iload_n 3, 1), (40, .iload 5, 2), (42, .iadd, 1), (43, .aload_n 1, 1), (44, .getfield 27, 3), (47, .iload 4, 2), (49, .iaload, 1), (50, .iastore, 1), (51, .aload_n 0, 1), (52, .getfield 21, 3), (55, .iload_n 3, 1), (56, .iload 5, 2), (58, .iadd, 1), (59, .aload_n 0, 1), (60, .getfield 43, 3), (63, .iastore, 1), (64, .aload_n 0, 1), (65, .getfield 24, 3), (68, .iload_n 3, 1), (69, .iload 5, 2), (71, .iadd, 1), (72, .iload 6, 2), (74, .iastore, 1), (75, .aload_n 0, 1), (76, .getfield 24, 3), (79, .iload 6, 2), (81, .iload_n 3, 1), (82, .iload 5, 2), (84, .iadd, 1), (85, .iastore, 1), (86, .aload_n 1, 1), (87, .getfield 24, 3), (90, .iload 6, 2), (92, .iaload, 1), (93, .istore 4, 2), (95, .iinc 5 1, 3), (98, .goto (-82), 3), (101, .aload_n 0, 1), (102, .iload_n 3, 1), (103, .aload_n 1, 1), (104, .getfield 33, 3), (107, .iload_n 2, 1), (108, .iaload, 1), (109, .iadd, 1), (110, .invokevirtual 57, 3), (113, .return_, 1)]
theorem dX2_addCornerPlate : ∀ q ∈ tX2_addCornerPlate, decode cX2_addCornerPlate q.1 = .ok q.2 := by decide +kernel
theorem oX2_addCornerPlate : MOk mX2_addCornerPlate 2 := ⟨Gw_t1 4 rfl rfl, Gw_t2 124 rfl rfl, ⟨by decide +kernel, by decide +kernel⟩, by decide +kernel, by decide +kernel⟩
theorem iX2_addCornerPlate : MIn mX2_addCornerPlate := ⟨Gw_t2 122 rfl rfl, Gw_t2 123 rfl rfl⟩
abbrev cX2_sumFrom : ByteArray := prog_4_method_20_code
def yX2_sumFrom : MethodName := ⟨RX2, "sumFrom", "(LMidSkins$Net;)V"⟩
def mX2_sumFrom : MI := (yX2_sumFrom, cX2_sumFrom, 6, none)
def tX2_sumFrom : List (Nat × Instr × Nat) := [(0, .iconst 0, 1), (1, .istore_n 2, 1), (2, .iload_n 2, 1), (3, .aload_n 1, 1), (4, .getfield 61, 3), (7, .if_icmp .ge 72, 3), (10, .iconst 3, 1), (11, .aload_n 1, 1), (12, .iload_n 2, 1), (13, .invokevirtual 81, 3), (16, .imul, 1), (17, .istore_n 3, 1), (18, .iconst 3, 1), (19, .aload_n 1, 1), (20, .iload_n 2, 1), (21, .invokevirtual 84, 3), (24, .imul, 1), (25, .istore 4, 2), (27, .iconst 0, 1), (28, .istore 5, 2), (30, .iload 5, 2), (32, .iconst 3, 1), (33, .if_icmp .ge 40, 3), (36, .aload_n 0, 1), (37, .getfield 9, 3), (40, .iconst 3, 1), (41, .iload_n 2, 1), (42, .imul, 1), (43, .iload 5, 2), (45, .iadd, 1), (46, .aload_n 1, 1), (47, .getfield 9, 3), (50, .iload_n 3, 1), (51, .iload 5, 2), (53, .iadd, 1), (54, .iaload, 1), (55, .aload_n 1, 1), (56, .getfield 9, 3), (59, .iload 4, 2), (61, .iload 5, 2), (63, .iadd, 1), (64, .iaload, 1), (65, .iadd, 1), (66, .iastore, 1), (67, .iinc 5 1, 3), (70, .goto (-40), 3), (73, .iinc 2 1, 3), (76, .goto (-74), 3), (79, .return_, 1)]
theorem dX2_sumFrom : ∀ q ∈ tX2_sumFrom, decode cX2_sumFrom q.1 = .ok q.2 := by decide +kernel
theorem oX2_sumFrom : MOk mX2_sumFrom 1 := ⟨Gw_t1 4 rfl rfl, Gw_t2 131 rfl rfl, ⟨by decide +kernel, by decide +kernel⟩, by decide +kernel, by decide +kernel⟩
theorem iX2_sumFrom : MIn mX2_sumFrom := ⟨Gw_t2 129 rfl rfl, Gw_t2 130 rfl rfl⟩
abbrev cX2_oddCorners : ByteArray := prog_4_method_21_code
def yX2_oddCorners : MethodName := ⟨RX2, "oddCorners", "()I"⟩
def mX2_oddCorners : MI := (yX2_oddCorners, cX2_oddCorners, 3, (some (.int)))
def tX2_oddCorners : List (Nat × Instr × Nat) := [(0, .iconst 0, 1), (1, .istore_n 1, 1), (2, .iconst 0, 1), (3, .istore_n 2, 1), (4, .iload_n 2, 1), (5, .aload_n 0, 1), (6, .getfield 39, 3), (9, .if_icmp .ge 22, 3), (12, .aload_n 0, 1), (13, .getfield 33, 3), (16, .iload_n 2, 1), (17, .iaload, 1), (18, .iconst 4, 1), (19, .if_icmp .eq 6, 3), (22, .iinc 1 1, 3), (25, .iinc 2 1, 3), (28, .goto (-24), 3), (31, .iload_n 1, 1), (32, .ireturn, 1)]
theorem dX2_oddCorners : ∀ q ∈ tX2_oddCorners, decode cX2_oddCorners q.1 = .ok q.2 := by decide +kernel
theorem oX2_oddCorners : MOk mX2_oddCorners 0 := ⟨Gw_t1 4 rfl rfl, Gw_t2 149 rfl rfl, ⟨by decide +kernel, by decide +kernel⟩, by decide +kernel, by decide +kernel⟩
theorem iX2_oddCorners : MIn mX2_oddCorners := ⟨Gw_t2 147 rfl rfl, Gw_t2 148 rfl rfl⟩
abbrev cX2_oddPlates : ByteArray := prog_4_method_22_code
def yX2_oddPlates : MethodName := ⟨RX2, "oddPlates", "()I"⟩
def mX2_oddPlates : MI := (yX2_oddPlates, cX2_oddPlates, 3, (some (.int)))
def tX2_oddPlates : List (Nat × Instr × Nat) := [(0, .iconst 0, 1), (1, .istore_n 1, 1), (2, .iconst 0, 1), (3, .istore_n 2, 1), (4, .iload_n 2, 1), (5, .aload_n 0, 1), (6, .getfield 43, 3), (9, .if_icmp .ge 21, 3), (12, .aload_n 0, 1), (13, .iload_n 2, 1), (14, .invokevirtual 87, 3), (17, .iconst 4, 1), (18, .if_icmp .eq 6, 3), (21, .iinc 1 1, 3), (24, .iinc 2 1, 3), (27, .goto (-23), 3), (30, .iload_n 1, 1), (31, .ireturn, 1)]
theorem dX2_oddPlates : ∀ q ∈ tX2_oddPlates, decode cX2_oddPlates q.1 = .ok q.2 := by decide +kernel
theorem oX2_oddPlates : MOk mX2_oddPlates 0 := ⟨Gw_t1 4 rfl rfl, Gw_t2 153 rfl rfl, ⟨by decide +kernel, by decide +kernel⟩, by decide +kernel, by decide +kernel⟩
theorem iX2_oddPlates : MIn mX2_oddPlates := ⟨Gw_t2 151 rfl rfl, Gw_t2 152 rfl rfl⟩
abbrev cX2_sumOfPlate : ByteArray := prog_4_method_23_code
def yX2_sumOfPlate : MethodName := ⟨RX2, "sumOfPlate", "(II)I"⟩
def mX2_sumOfPlate : MI := (yX2_sumOfPlate, cX2_sumOfPlate, 5, (some (.int)))
def tX2_sumOfPlate : List (Nat × Instr × Nat) := [(0, .iconst 0, 1), (1, .istore_n 3, 1), (2, .aload_n 0, 1), (3, .getfield 15, 3), (6, .iload_n 1, 1), (7, .iaload, 1), (8, .istore 4, 2), (10, .iload 4, 2), (12, .aload_n 0, 1), (13, .getfield 15, 3), (16, .iload_n 1, 1), (17, .iconst 1, 1), (18, .iadd, 1), (19, .iaload, 1), (20, .if_icmp .ge 28, 3), (23, .iload_n 3, 1), (24, .aload_n 0, 1), (25, .getfield 9, 3), (28, .iconst 3, 1), (29, .aload_n 0, 1), (30, .getfield 18, 3), (33, .iload 4, 2), (35, .iaload, 1), (36, .imul, 1), (37, .iload_n 2, 1), (38, .iadd, 1), (39, .iaload, 1), (40, .iadd, 1), (41, .istore_n 3, 1), (42, .iinc 4 1, 3), (45, .goto (-35), 3), (48, .iload_n 3, 1), (49, .ireturn, 1)]
theorem dX2_sumOfPlate : ∀ q ∈ tX2_sumOfPlate, decode cX2_sumOfPlate q.1 = .ok q.2 := by decide +kernel
theorem oX2_sumOfPlate : MOk mX2_sumOfPlate 2 := ⟨Gw_t1 4 rfl rfl, Gw_t2 189 rfl rfl, ⟨by decide +kernel, by decide +kernel⟩, by decide +kernel, by decide +kernel⟩
theorem iX2_sumOfPlate : MIn mX2_sumOfPlate := ⟨Gw_t2 187 rfl rfl, Gw_t2 188 rfl rfl⟩
abbrev cX2_least : ByteArray := prog_4_method_24_code
def yX2_least : MethodName := ⟨RX2, "least", "(I)I"⟩
def mX2_least : MI := (yX2_least, cX2_least, 4, (some (.int)))
def tX2_least : List (Nat × Instr × Nat) := [(0, .aload_n 0, 1), (1, .getfield 9, 3), (4, .iload_n 1, 1), (5, .iaload, 1), (6, .istore_n 2, 1), (7, .iconst 1, 1), (8, .istore_n 3, 1), (9, .iload_n 3, 1), (10, .aload_n 0, 1), (11, .getfield 39, 3), (14, .if_icmp .ge 24, 3), (17, .iload_n 2, 1), (18, .aload_n 0, 1), (19, .getfield 9, 3), (22, .iconst 3, 1), (23, .iload_n 3, 1), (24, .imul, 1), (25, .iload_n 1, 1), (26, .iadd, 1), (27, .iaload, 1), (28, .invokestatic 90, 3), (31, .istore_n 2, 1), (32, .iinc 3 1, 3), (35, .goto (-26), 3), (38, .iload_n 2, 1), (39, .ireturn, 1)]
theorem dX2_least : ∀ q ∈ tX2_least, decode cX2_least q.1 = .ok q.2 := by decide +kernel
theorem oX2_least : MOk mX2_least 1 := ⟨Gw_t1 4 rfl rfl, Gw_t2 198 rfl rfl, ⟨by decide +kernel, by decide +kernel⟩, by decide +kernel, by decide +kernel⟩
theorem iX2_least : MIn mX2_least := ⟨Gw_t2 196 rfl rfl, Gw_t2 197 rfl rfl⟩
abbrev cX2_greatest : ByteArray := prog_4_method_25_code
def yX2_greatest : MethodName := ⟨RX2, "greatest", "(I)I"⟩
def mX2_greatest : MI := (yX2_greatest, cX2_greatest, 4, (some (.int)))
def tX2_greatest : List (Nat × Instr × Nat) := [(0, .aload_n 0, 1), (1, .getfield 9, 3), (4, .iload_n 1, 1), (5, .iaload, 1), (6, .istore_n 2, 1), (7, .iconst 1, 1), (8, .istore_n 3, 1), (9, .iload_n 3, 1), (10, .aload_n 0, 1), (11, .getfield 39, 3), (14, .if_icmp .ge 24, 3), (17, .iload_n 2, 1), (18, .aload_n 0, 1), (19, .getfield 9, 3), (22, .iconst 3, 1), (23, .iload_n 3, 1), (24, .imul, 1), (25, .iload_n 1, 1), (26, .iadd, 1), (27, .iaload, 1), (28, .invokestatic 96, 3), (31, .istore_n 2, 1), (32, .iinc 3 1, 3), (35, .goto (-26), 3), (38, .iload_n 2, 1), (39, .ireturn, 1)]
theorem dX2_greatest : ∀ q ∈ tX2_greatest, decode cX2_greatest q.1 = .ok q.2 := by decide +kernel
theorem oX2_greatest : MOk mX2_greatest 1 := ⟨Gw_t1 4 rfl rfl, Gw_t2 203 rfl rfl, ⟨by decide +kernel, by decide +kernel⟩, by decide +kernel, by decide +kernel⟩
theorem iX2_greatest : MIn mX2_greatest := ⟨Gw_t2 201 rfl rfl, Gw_t2 202 rfl rfl⟩
abbrev cX2_sixfoldRoom : ByteArray := prog_4_method_26_code
def yX2_sixfoldRoom : MethodName := ⟨RX2, "sixfoldRoom", "()J"⟩
def mX2_sixfoldRoom : MI := (yX2_sixfoldRoom, cX2_sixfoldRoom, 6, (some (.long)))
def tX2_sixfoldRoom : List (Nat × Instr × Nat) := [(0, .lconst 0, 1), (1, .lstore_n 1, 1), (2, .iconst 0, 1), (3, .istore_n 3, 1), (4, .iload_n 3, 1), (5, .aload_n 0, 1), (6, .getfield 43, 3), (9, .if_icmp .ge 84, 3), (12, .aload_n 0, 1), (13, .getfield 18, 3), (16, .aload_n 0, 1), (17, .getfield 15, 3), (20, .iload_n 3, 1), (21, .iaload, 1), (22, .iaload, 1), (23, .istore 4, 2), (25, .aload_n 0, 1), (26, .getfield 15, 3), (29, .iload_n 3, 1), (30, .iaload, 1), (31, .iconst 1, 1), (32, .iadd, 1), (33, .istore 5, 2), (35, .iload 5, 2), (37, .iconst 1, 1), (38, .iadd, 1), (39, .aload_n 0, 1), (40, .getfield 15, 3), (43, .iload_n 3, 1), (44, .iconst 1, 1), (45, .iadd, 1), (46, .iaload, 1), (47, .if_icmp .ge 40, 3), (50, .lload_n 1, 1), (51, .aload_n 0, 1), (52, .iconst 3, 1), (53, .iload 4, 2), (55, .imul, 1), (56, .iconst 3, 1), (57, .aload_n 0, 1), (58, .getfield 18, 3), (61, .iload 5, 2), (63, .iaload, 1), (64, .imul, 1), (65, .iconst 3, 1), (66, .aload_n 0, 1), (67, .getfield 18, 3), (70, .iload 5, 2), (72, .iconst 1, 1), (73, .iadd, 1), (74, .iaload, 1), (75, .imul, 1), (76, .invokevirtual 99, 3), (79, .ladd, 1), (80, .lstore_n 1, 1), (81, .iinc 5 1, 3), (84, .goto (-49), 3), (87, .iinc 3 1, 3), (90, .goto (-86), 3), (93, .lload_n 1, 1), (94, .lreturn, 1)]
theorem dX2_sixfoldRoom : ∀ q ∈ tX2_sixfoldRoom, decode cX2_sixfoldRoom q.1 = .ok q.2 := by decide +kernel
theorem oX2_sixfoldRoom : MOk mX2_sixfoldRoom 0 := ⟨Gw_t1 4 rfl rfl, Gw_t2 216 rfl rfl, ⟨by decide +kernel, by decide +kernel⟩, by decide +kernel, by decide +kernel⟩
theorem iX2_sixfoldRoom : MIn mX2_sixfoldRoom := ⟨Gw_t2 214 rfl rfl, Gw_t2 215 rfl rfl⟩
abbrev cX2_sixfoldWedge : ByteArray := prog_4_method_27_code
def yX2_sixfoldWedge : MethodName := ⟨RX2, "sixfoldWedge", "(III)J"⟩
def mX2_sixfoldWedge : MI := (yX2_sixfoldWedge, cX2_sixfoldWedge, 4, (some (.long)))
def tX2_sixfoldWedge : List (Nat × Instr × Nat) := [(0, .aload_n 0, 1), (1, .getfield 9, 3), (4, .iload_n 1, 1), (5, .iaload, 1), (6, .i2l, 1), (7, .aload_n 0, 1), (8, .iload_n 2, 1), (9, .iconst 1, 1), (10, .iadd, 1), (11, .iload_n 3, 1), (12, .iconst 2, 1), (13, .iadd, 1), (14, .iload_n 2, 1), (15, .iconst 2, 1), (16, .iadd, 1), (17, .iload_n 3, 1), (18, .iconst 1, 1), (19, .iadd, 1), (20, .invokevirtual 103, 3), (23, .lmul, 1), (24, .aload_n 0, 1), (25, .getfield 9, 3), (28, .iload_n 1, 1), (29, .iconst 1, 1), (30, .iadd, 1), (31, .iaload, 1), (32, .i2l, 1), (33, .aload_n 0, 1), (34, .iload_n 2, 1), (35, .iconst 2, 1), (36, .iadd, 1), (37, .iload_n 3, 1), (38, .iload_n 2, 1), (39, .iload_n 3, 1), (40, .iconst 2, 1), (41, .iadd, 1), (42, .invokevirtual 103, 3), (45, .lmul, 1), (46, .ladd, 1), (47, .aload_n 0, 1), (48, .getfield 9, 3), (51, .iload_n 1, 1), (52, .iconst 2, 1), (53, .iadd, 1), (54, .iaload, 1), (55, .i2l, 1), (56, .aload_n 0, 1), (57, .iload_n 2, 1), (58, .iload_n 3, 1), (59, .iconst 1, 1), (60, .iadd, 1), (61, .iload_n 2, 1), (62, .iconst 1, 1), (63, .iadd, 1), (64, .iload_n 3, 1), (65, .invokevirtual 103, 3), (68, .lmul, 1), (69, .ladd, 1), (70, .lreturn, 1)]
theorem dX2_sixfoldWedge : ∀ q ∈ tX2_sixfoldWedge, decode cX2_sixfoldWedge q.1 = .ok q.2 := by decide +kernel
theorem oX2_sixfoldWedge : MOk mX2_sixfoldWedge 3 := ⟨Gw_t1 4 rfl rfl, Gw_t2 220 rfl rfl, ⟨by decide +kernel, by decide +kernel⟩, by decide +kernel, by decide +kernel⟩
theorem iX2_sixfoldWedge : MIn mX2_sixfoldWedge := ⟨Gw_t2 218 rfl rfl, Gw_t2 219 rfl rfl⟩
abbrev cX2_crossed : ByteArray := prog_4_method_28_code
def yX2_crossed : MethodName := ⟨RX2, "crossed", "(IIII)J"⟩
def mX2_crossed : MI := (yX2_crossed, cX2_crossed, 5, (some (.long)))
def tX2_crossed : List (Nat × Instr × Nat) := [(0, .aload_n 0, 1), (1, .getfield 9, 3), (4, .iload_n 1, 1), (5, .iaload, 1), (6, .i2l, 1), (7, .aload_n 0, 1), (8, .getfield 9, 3), (11, .iload_n 2, 1), (12, .iaload, 1), (13, .i2l, 1), (14, .lmul, 1), (15, .aload_n 0, 1), (16, .getfield 9, 3), (19, .iload_n 3, 1), (20, .iaload, 1), (21, .i2l, 1), (22, .aload_n 0, 1), (23, .getfield 9, 3), (26, .iload 4, 2), (28, .iaload, 1), (29, .i2l, 1), (30, .lmul, 1), (31, .lsub, 1), (32, .lreturn, 1)]
theorem dX2_crossed : ∀ q ∈ tX2_crossed, decode cX2_crossed q.1 = .ok q.2 := by decide +kernel
theorem oX2_crossed : MOk mX2_crossed 4 := ⟨Gw_t1 4 rfl rfl, Gw_t2 224 rfl rfl, ⟨by decide +kernel, by decide +kernel⟩, by decide +kernel, by decide +kernel⟩
theorem iX2_crossed : MIn mX2_crossed := ⟨Gw_t2 222 rfl rfl, Gw_t2 223 rfl rfl⟩
abbrev cX2_crossings : ByteArray := prog_4_method_29_code
def yX2_crossings : MethodName := ⟨RX2, "crossings", "(II)I"⟩
def mX2_crossings : MI := (yX2_crossings, cX2_crossings, 7, (some (.int)))
def tX2_crossings : List (Nat × Instr × Nat) := [(0, .iconst 0, 1), (1, .istore_n 3, 1), (2, .iconst 0, 1), (3, .istore 4, 2), (5, .iload 4, 2), (7, .aload_n 0, 1), (8, .getfield 61, 3), (11, .if_icmp .ge 71, 3), (14, .aload_n 0, 1), (15, .getfield 9, 3), (18, .iconst 3, 1), (19, .aload_n 0, 1), (20, .iload 4, 2), (22, .invokevirtual 81, 3), (25, .imul, 1), (26, .iload_n 1, 1), (27, .iadd, 1), (28, .iaload, 1), (29, .iload_n 2, 1), (30, .if_icmp .ge 7, 3), (33, .iconst 1, 1), (34, .goto 4, 3), (37, .iconst 0, 1), (38, .istore 5, 2), (40, .aload_n 0, 1), (41, .getfield 9, 3), (44, .iconst 3, 1), (45, .aload_n 0, 1), (46, .iload 4, 2), (48, .invokevirtual 84, 3), (51, .imul, 1), (52, .iload_n 1, 1), (53, .iadd, 1), (54, .iaload, 1), (55, .iload_n 2, 1), (56, .if_icmp .ge 7, 3), (59, .iconst 1, 1), (60, .goto 4, 3), (63, .iconst 0, 1), (64, .istore 6, 2), (66, .iload 5, 2), (68, .iload 6, 2), (70, .if_icmp .eq 6, 3), (73, .iinc 3 1, 3), (76, .iinc 4 1, 3), (79, .goto (-74), 3), (82, .iload_n 3, 1), (83, .ireturn, 1)]
theorem dX2_crossings : ∀ q ∈ tX2_crossings, decode cX2_crossings q.1 = .ok q.2 := by decide +kernel
theorem oX2_crossings : MOk mX2_crossings 2 := ⟨Gw_t1 4 rfl rfl, Gw_t2 232 rfl rfl, ⟨by decide +kernel, by decide +kernel⟩, by decide +kernel, by decide +kernel⟩
theorem iX2_crossings : MIn mX2_crossings := ⟨Gw_t2 230 rfl rfl, Gw_t2 231 rfl rfl⟩
abbrev cX2_nearest : ByteArray := prog_4_method_30_code
def yX2_nearest : MethodName := ⟨RX2, "nearest", "(III)I"⟩
def mX2_nearest : MI := (yX2_nearest, cX2_nearest, 10, (some (.int)))
def tX2_nearest : List (Nat × Instr × Nat) := [(0, .iconst 0, 1), (1, .istore 4, 2), (3, .aload_n 0, 1), (4, .iconst 0, 1), (5, .iload_n 1, 1), (6, .iload_n 2, 1), (7, .iload_n 3, 1), (8, .invokevirtual 107, 3), (11, .lstore 5, 2), (13, .iconst 1, 1), (14, .istore 7, 2), (16, .iload 7, 2), (18, .aload_n 0, 1), (19, .getfield 39, 3), (22, .if_icmp .ge 36, 3), (25, .aload_n 0, 1), (26, .iload 7, 2), (28, .iload_n 1, 1), (29, .iload_n 2, 1), (30, .iload_n 3, 1), (31, .invokevirtual 107, 3), (34, .lstore 8, 2), (36, .lload 8, 2), (38, .lload 5, 2), (40, .lcmp, 1), (41, .ifCond .ge 11, 3), (44, .lload 8, 2), (46, .lstore 5, 2), (48, .iload 7, 2), (50, .istore 4, 2), (52, .iinc 7 1, 3), (55, .goto (-39), 3), (58, .iload 4, 2), (60, .ireturn, 1)]
theorem dX2_nearest : ∀ q ∈ tX2_nearest, decode cX2_nearest q.1 = .ok q.2 := by decide +kernel
theorem oX2_nearest : MOk mX2_nearest 3 := ⟨Gw_t1 4 rfl rfl, Gw_t3 4 rfl rfl, ⟨by decide +kernel, by decide +kernel⟩, by decide +kernel, by decide +kernel⟩
theorem iX2_nearest : MIn mX2_nearest := ⟨Gw_t3 2 rfl rfl, Gw_t3 3 rfl rfl⟩
abbrev cX2_squareTo : ByteArray := prog_4_method_31_code
def yX2_squareTo : MethodName := ⟨RX2, "squareTo", "(IIII)J"⟩
def mX2_squareTo : MI := (yX2_squareTo, cX2_squareTo, 11, (some (.long)))
def tX2_squareTo : List (Nat × Instr × Nat) := [(0, .aload_n 0, 1), (1, .getfield 9, 3), (4, .iconst 3, 1), (5, .iload_n 1, 1), (6, .imul, 1), (7, .iaload, 1), (8, .iload_n 2, 1), (9, .isub, 1), (10, .i2l, 1), (11, .lstore 5, 2), (13, .aload_n 0, 1), (14, .getfield 9, 3), (17, .iconst 3, 1), (18, .iload_n 1, 1), (19, .imul, 1), (20, .iconst 1, 1), (21, .iadd, 1), (22, .iaload, 1), (23, .iload_n 3, 1), (24, .isub, 1), (25, .i2l, 1), (26, .lstore 7, 2), (28, .aload_n 0, 1), (29, .getfield 9, 3), (32, .iconst 3, 1), (33, .iload_n 1, 1), (34, .imul, 1), (35, .iconst 2, 1), (36, .iadd, 1), (37, .iaload, 1), (38, .iload 4, 2), (40, .isub, 1), (41, .i2l, 1), (42, .lstore 9, 2), (44, .lload 5, 2), (46, .lload 5, 2), (48, .lmul, 1), (49, .lload 7, 2), (51, .lload 7, 2), (53, .lmul, 1), (54, .ladd, 1), (55, .lload 9, 2), (57, .lload 9, 2), (59, .lmul, 1), (60, .ladd, 1), (61, .lreturn, 1)]
theorem dX2_squareTo : ∀ q ∈ tX2_squareTo, decode cX2_squareTo q.1 = .ok q.2 := by decide +kernel
theorem oX2_squareTo : MOk mX2_squareTo 4 := ⟨Gw_t1 4 rfl rfl, Gw_t3 8 rfl rfl, ⟨by decide +kernel, by decide +kernel⟩, by decide +kernel, by decide +kernel⟩
theorem iX2_squareTo : MIn mX2_squareTo := ⟨Gw_t3 6 rfl rfl, Gw_t3 7 rfl rfl⟩
abbrev cX2_mixNumbers : ByteArray := prog_4_method_32_code
def yX2_mixNumbers : MethodName := ⟨RX2, "mixNumbers", "(J)J"⟩
def mX2_mixNumbers : MI := (yX2_mixNumbers, cX2_mixNumbers, 4, (some (.long)))
def tX2_mixNumbers : List (Nat × Instr × Nat) := [(0, .iconst 0, 1), (1, .istore_n 3, 1), (2, .iload_n 3, 1), (3, .iconst 3, 1), (4, .aload_n 0, 1), (5, .getfield 39, 3), (8, .imul, 1), (9, .if_icmp .ge 20, 3), (12, .lload_n 1, 1), (13, .aload_n 0, 1), (14, .getfield 9, 3), (17, .iload_n 3, 1), (18, .iaload, 1), (19, .invokestatic 110, 3), (22, .lstore_n 1, 1), (23, .iinc 3 1, 3), (26, .goto (-24), 3), (29, .lload_n 1, 1), (30, .lreturn, 1)]
theorem dX2_mixNumbers : ∀ q ∈ tX2_mixNumbers, decode cX2_mixNumbers q.1 = .ok q.2 := by decide +kernel
theorem oX2_mixNumbers : MOk mX2_mixNumbers 1 := ⟨Gw_t1 4 rfl rfl, Gw_t3 61 rfl rfl, ⟨by decide +kernel, by decide +kernel⟩, by decide +kernel, by decide +kernel⟩
theorem iX2_mixNumbers : MIn mX2_mixNumbers := ⟨Gw_t3 59 rfl rfl, Gw_t3 60 rfl rfl⟩
abbrev cX2_mixPlates : ByteArray := prog_4_method_33_code
def yX2_mixPlates : MethodName := ⟨RX2, "mixPlates", "(J)J"⟩
def mX2_mixPlates : MI := (yX2_mixPlates, cX2_mixPlates, 5, (some (.long)))
def tX2_mixPlates : List (Nat × Instr × Nat) := [(0, .iconst 0, 1), (1, .istore_n 3, 1), (2, .iload_n 3, 1), (3, .aload_n 0, 1), (4, .getfield 43, 3), (7, .if_icmp .ge 58, 3), (10, .lload_n 1, 1), (11, .aload_n 0, 1), (12, .iload_n 3, 1), (13, .invokevirtual 87, 3), (16, .invokestatic 110, 3), (19, .lstore_n 1, 1), (20, .aload_n 0, 1), (21, .getfield 15, 3), (24, .iload_n 3, 1), (25, .iaload, 1), (26, .istore 4, 2), (28, .iload 4, 2), (30, .aload_n 0, 1), (31, .getfield 15, 3), (34, .iload_n 3, 1), (35, .iconst 1, 1), (36, .iadd, 1), (37, .iaload, 1), (38, .if_icmp .ge 21, 3), (41, .lload_n 1, 1), (42, .aload_n 0, 1), (43, .getfield 18, 3), (46, .iload 4, 2), (48, .iaload, 1), (49, .invokestatic 110, 3), (52, .lstore_n 1, 1), (53, .iinc 4 1, 3), (56, .goto (-28), 3), (59, .iinc 3 1, 3), (62, .goto (-60), 3), (65, .lload_n 1, 1), (66, .lreturn, 1)]
theorem dX2_mixPlates : ∀ q ∈ tX2_mixPlates, decode cX2_mixPlates q.1 = .ok q.2 := by decide +kernel
theorem oX2_mixPlates : MOk mX2_mixPlates 1 := ⟨Gw_t1 4 rfl rfl, Gw_t3 69 rfl rfl, ⟨by decide +kernel, by decide +kernel⟩, by decide +kernel, by decide +kernel⟩
theorem iX2_mixPlates : MIn mX2_mixPlates := ⟨Gw_t3 67 rfl rfl, Gw_t3 68 rfl rfl⟩
abbrev cX3_init : ByteArray := prog_5_method_1_code
def yX3_init : MethodName := ⟨RX3, "<init>", "()V"⟩
def mX3_init : MI := (yX3_init, cX3_init, 1, none)
def tX3_init : List (Nat × Instr × Nat) := [(0, .aload_n 0, 1), (1, .invokespecial 3, 3), (4, .aload_n 0, 1), (5, .bipush 8, 2), (7, .newarray .int, 2), (9, .putfield 9, 3), (12, .aload_n 0, 1), (13, .iconst 0, 1), (14, .putfield 15, 3), (17, .aload_n 0, 1), (18, .iconst (-1), 1), (19, .putfield 19, 3), (22, .return_, 1)]
theorem dX3_init : ∀ q ∈ tX3_init, decode cX3_init q.1 = .ok q.2 := by decide +kernel
theorem oX3_init : MOk mX3_init 0 := ⟨Gw_t1 2 rfl rfl, Gw_t1 21 rfl rfl, ⟨by decide +kernel, by decide +kernel⟩, by decide +kernel, by decide +kernel⟩
abbrev cX3_isLost : ByteArray := prog_5_method_2_code
def yX3_isLost : MethodName := ⟨RX3, "isLost", "()Z"⟩
def mX3_isLost : MI := (yX3_isLost, cX3_isLost, 1, (some (.boolean)))
def tX3_isLost : List (Nat × Instr × Nat) := [(0, .aload_n 0, 1), (1, .getfield 19, 3), (4, .iconst (-1), 1), (5, .if_icmp .ne 7, 3), (8, .iconst 1, 1), (9, .goto 4, 3), (12, .iconst 0, 1), (13, .ireturn, 1)]
theorem dX3_isLost : ∀ q ∈ tX3_isLost, decode cX3_isLost q.1 = .ok q.2 := by decide +kernel
theorem oX3_isLost : MOk mX3_isLost 0 := ⟨Gw_t1 2 rfl rfl, Gw_t1 198 rfl rfl, ⟨by decide +kernel, by decide +kernel⟩, by decide +kernel, by decide +kernel⟩
theorem iX3_isLost : MIn mX3_isLost := ⟨Gw_t1 196 rfl rfl, Gw_t1 197 rfl rfl⟩
abbrev cX3_renew : ByteArray := prog_5_method_3_code
def yX3_renew : MethodName := ⟨RX3, "renew", "(II)V"⟩
def mX3_renew : MI := (yX3_renew, cX3_renew, 4, none)
def tX3_renew : List (Nat × Instr × Nat) := [(0, .aload_n 0, 1), (1, .iload_n 1, 1), (2, .putfield 15, 3), (5, .aload_n 0, 1), (6, .iload_n 2, 1), (7, .putfield 19, 3), (10, .iconst 0, 1), (11, .istore_n 3, 1), (12, .iload_n 3, 1), (13, .bipush 8, 2), (15, .if_icmp .ge 16, 3), (18, .aload_n 0, 1), (19, .getfield 9, 3), (22, .iload_n 3, 1), (23, .iconst 0, 1), (24, .iastore, 1), (25, .iinc 3 1, 3), (28, .goto (-16), 3), (31, .return_, 1)]
theorem dX3_renew : ∀ q ∈ tX3_renew, decode cX3_renew q.1 = .ok q.2 := by decide +kernel
theorem oX3_renew : MOk mX3_renew 2 := ⟨Gw_t1 2 rfl rfl, Gw_t1 190 rfl rfl, ⟨by decide +kernel, by decide +kernel⟩, by decide +kernel, by decide +kernel⟩
theorem iX3_renew : MIn mX3_renew := ⟨Gw_t1 188 rfl rfl, Gw_t1 189 rfl rfl⟩
abbrev cX3_write : ByteArray := prog_5_method_4_code
def yX3_write : MethodName := ⟨RX3, "write", "(II)V"⟩
def mX3_write : MI := (yX3_write, cX3_write, 3, none)
def tX3_write : List (Nat × Instr × Nat) := [(0, .aload_n 0, 1), (1, .getfield 15, 3), (4, .ifCond .ne 14, 3), (7, .aload_n 0, 1), (8, .getfield 9, 3), (11, .iload_n 1, 1), (12, .iload_n 2, 1), (13, .i2b, 1), (14, .iastore, 1), (15, .goto 29, 3), (18, .aload_n 0, 1), (19, .getfield 15, 3), (22, .iconst 1, 1), (23, .if_icmp .ne 14, 3), (26, .aload_n 0, 1), (27, .getfield 9, 3), (30, .iload_n 1, 1), (31, .iload_n 2, 1), (32, .i2s, 1), (33, .iastore, 1), (34, .goto 10, 3), (37, .aload_n 0, 1), (38, .getfield 9, 3), (41, .iload_n 1, 1), (42, .iload_n 2, 1), (43, .iastore, 1), (44, .return_, 1)]
theorem dX3_write : ∀ q ∈ tX3_write, decode cX3_write q.1 = .ok q.2 := by decide +kernel
theorem oX3_write : MOk mX3_write 2 := ⟨Gw_t1 2 rfl rfl, Gw_t1 202 rfl rfl, ⟨by decide +kernel, by decide +kernel⟩, by decide +kernel, by decide +kernel⟩
theorem iX3_write : MIn mX3_write := ⟨Gw_t1 200 rfl rfl, Gw_t1 201 rfl rfl⟩
abbrev cX3_hasNumbersWithin : ByteArray := prog_5_method_5_code
def yX3_hasNumbersWithin : MethodName := ⟨RX3, "hasNumbersWithin", "(III)Z"⟩
def mX3_hasNumbersWithin : MI := (yX3_hasNumbersWithin, cX3_hasNumbersWithin, 5, (some (.boolean)))
def tX3_hasNumbersWithin : List (Nat × Instr × Nat) := [(0, .iconst 0, 1), (1, .istore 4, 2), (3, .iload 4, 2), (5, .iload_n 1, 1), (6, .if_icmp .ge 33, 3), (9, .aload_n 0, 1), (10, .getfield 9, 3), (13, .iload 4, 2), (15, .iaload, 1), (16, .iload_n 2, 1), (17, .if_icmp .lt 14, 3), (20, .aload_n 0, 1), (21, .getfield 9, 3), (24, .iload 4, 2), (26, .iaload, 1), (27, .iload_n 3, 1), (28, .if_icmp .le 5, 3), (31, .iconst 0, 1), (32, .ireturn, 1), (33, .iinc 4 1, 3), (36, .goto (-33), 3), (39, .iconst 1, 1), (40, .ireturn, 1)]
theorem dX3_hasNumbersWithin : ∀ q ∈ tX3_hasNumbersWithin, decode cX3_hasNumbersWithin q.1 = .ok q.2 := by decide +kernel
theorem oX3_hasNumbersWithin : MOk mX3_hasNumbersWithin 3 := ⟨Gw_t1 2 rfl rfl, Gw_t1 214 rfl rfl, ⟨by decide +kernel, by decide +kernel⟩, by decide +kernel, by decide +kernel⟩
theorem iX3_hasNumbersWithin : MIn mX3_hasNumbersWithin := ⟨Gw_t1 212 rfl rfl, Gw_t1 213 rfl rfl⟩
abbrev cX4_init : ByteArray := prog_6_method_1_code
def yX4_init : MethodName := ⟨RX4, "<init>", "()V"⟩
def mX4_init : MI := (yX4_init, cX4_init, 5, none)
def tX4_init : List (Nat × Instr × Nat) := [(0, .aload_n 0, 1), (1, .invokespecial 3, 3), (4, .aload_n 0, 1), (5, .iconst 4, 1), (6, .anewarray 9, 3), (9, .putfield 11, 3), (12, .aload_n 0, 1), (13, .new 9, 3), (16, .dup, 1), (17, .bipush 14, 2), (19, .bipush 14, 2), (21, .bipush 42, 2), (23, .invokespecial 17, 3), (26, .putfield 20, 3), (29, .aload_n 0, 1), (30, .getfield 11, 3), (33, .iconst 0, 1), (34, .aload_n 0, 1), (35, .getfield 20, 3), (38, .aastore, 1), (39, .bipush 14, 2), (41, .istore_n 1, 1), (42, .bipush 14, 2), (44, .istore_n 2, 1), (45, .bipush 42, 2), (47, .istore_n 3, 1), (48, .iconst 1, 1), (49, .istore 4, 2), (51, .iload 4, 2), (53, .iconst 4, 1), (54, .if_icmp .ge 36, 3), (57, .iload_n 2, 1), (58, .iload_n 1, 1), (59, .iadd, 1), (60, .istore_n 2, 1), (61, .iload_n 3, 1), (62, .istore_n 1, 1), (63, .iload_n 3, 1), (64, .iconst 2, 1), (65, .imul, 1), (66, .istore_n 3, 1), (67, .aload_n 0, 1), (68, .getfield 11, 3), (71, .iload 4, 2), (73, .new 9, 3), (76, .dup, 1), (77, .iload_n 1, 1), (78, .iload_n 2, 1), (79, .iload_n 3, 1), (80, .invokespecial 17, 3), (83, .aastore, 1), (84, .iinc 4 1, 3), (87, .goto (-36), 3), (90, .aload_n 0, 1), (91, .new 24, 3), (94, .dup, 1), (95, .invokespecial 26, 3), (98, .putfield 27, 3), (101, .aload_n 0, 1), (102, .new 31, 3), (105, .dup, 1), (106, .invokespecial 33, 3), (109, .putfield 34, 3), (112, .aload_n 0, 1), (113, .iconst 0, 1), (114, .putfield 38, 3), (117, .aload_n 0, 1), (118, .iconst 0, 1), (119, .putfield 42, 3), (122, .aload_n 0, 1), (123, .iconst 0, 1), (124, .putfield 46, 3), (127, .return_, 1)]
theorem dX4_init : ∀ q ∈ tX4_init, decode cX4_init q.1 = .ok q.2 := by decide +kernel
theorem oX4_init : MOk mX4_init 0 := ⟨Gw_t1 3 rfl rfl, Gw_t1 41 rfl rfl, ⟨by decide +kernel, by decide +kernel⟩, by decide +kernel, by decide +kernel⟩
abbrev cX4_forgetShapes : ByteArray := prog_6_method_2_code
def yX4_forgetShapes : MethodName := ⟨RX4, "forgetShapes", "()V"⟩
def mX4_forgetShapes : MI := (yX4_forgetShapes, cX4_forgetShapes, 1, none)
def tX4_forgetShapes : List (Nat × Instr × Nat) := [(0, .aload_n 0, 1), (1, .iconst 0, 1), (2, .putfield 38, 3), (5, .aload_n 0, 1), (6, .iconst 0, 1), (7, .putfield 42, 3), (10, .aload_n 0, 1), (11, .iconst 0, 1), (12, .putfield 46, 3), (15, .return_, 1)]
theorem dX4_forgetShapes : ∀ q ∈ tX4_forgetShapes, decode cX4_forgetShapes q.1 = .ok q.2 := by decide +kernel
theorem oX4_forgetShapes : MOk mX4_forgetShapes 0 := ⟨Gw_t1 3 rfl rfl, Gw_t1 222 rfl rfl, ⟨by decide +kernel, by decide +kernel⟩, by decide +kernel, by decide +kernel⟩
theorem iX4_forgetShapes : MIn mX4_forgetShapes := ⟨Gw_t1 220 rfl rfl, Gw_t1 221 rfl rfl⟩
abbrev cX4_forgetNumbersAbove : ByteArray := prog_6_method_3_code
def yX4_forgetNumbersAbove : MethodName := ⟨RX4, "forgetNumbersAbove", "(I)V"⟩
def mX4_forgetNumbersAbove : MI := (yX4_forgetNumbersAbove, cX4_forgetNumbersAbove, 2, none)
def tX4_forgetNumbersAbove : List (Nat × Instr × Nat) := [(0, .aload_n 0, 1), (1, .aload_n 0, 1), (2, .getfield 46, 3), (5, .iload_n 1, 1), (6, .invokestatic 49, 3), (9, .putfield 46, 3), (12, .return_, 1)]
theorem dX4_forgetNumbersAbove : ∀ q ∈ tX4_forgetNumbersAbove, decode cX4_forgetNumbersAbove q.1 = .ok q.2 := by decide +kernel
theorem oX4_forgetNumbersAbove : MOk mX4_forgetNumbersAbove 1 := ⟨Gw_t1 3 rfl rfl, Gw_t2 0 rfl rfl, ⟨by decide +kernel, by decide +kernel⟩, by decide +kernel, by decide +kernel⟩
theorem iX4_forgetNumbersAbove : MIn mX4_forgetNumbersAbove := ⟨Gw_t1 238 rfl rfl, Gw_t1 239 rfl rfl⟩
abbrev cX4_findFault : ByteArray := prog_6_method_4_code
def yX4_findFault : MethodName := ⟨RX4, "findFault", "()I"⟩
def mX4_findFault : MI := (yX4_findFault, cX4_findFault, 1, (some (.int)))
def tX4_findFault : List (Nat × Instr × Nat) := [(0, .aload_n 0, 1), (1, .getfield 38, 3), (4, .ifCond .ne 19, 3), (7, .aload_n 0, 1), (8, .getfield 27, 3), (11, .aload_n 0, 1), (12, .getfield 20, 3), (15, .invokevirtual 55, 3), (18, .aload_n 0, 1), (19, .iconst 1, 1), (20, .putfield 38, 3), (23, .aload_n 0, 1), (24, .getfield 27, 3), (27, .getfield 59, 3), (30, .ireturn, 1)]
theorem dX4_findFault : ∀ q ∈ tX4_findFault, decode cX4_findFault q.1 = .ok q.2 := by decide +kernel
theorem oX4_findFault : MOk mX4_findFault 0 := ⟨Gw_t1 3 rfl rfl, Gw_t2 47 rfl rfl, ⟨by decide +kernel, by decide +kernel⟩, by decide +kernel, by decide +kernel⟩
theorem iX4_findFault : MIn mX4_findFault := ⟨Gw_t2 45 rfl rfl, Gw_t2 46 rfl rfl⟩
abbrev cX4_reach : ByteArray := prog_6_method_5_code
def yX4_reach : MethodName := ⟨RX4, "reach", "(I)LMidSkins$Net;"⟩
def mX4_reach : MI := (yX4_reach, cX4_reach, 2, (some (.object "MidSkins$Net")))
def tX4_reach : List (Nat × Instr × Nat) := [(0, .aload_n 0, 1), (1, .invokevirtual 62, 3), (4, .ifCond .eq 5, 3), (7, .aconst_null, 1), (8, .areturn, 1), (9, .aload_n 0, 1), (10, .getfield 42, 3), (13, .iload_n 1, 1), (14, .if_icmp .ge 39, 3), (17, .aload_n 0, 1), (18, .getfield 11, 3), (21, .aload_n 0, 1), (22, .getfield 42, 3), (25, .iconst 1, 1), (26, .iadd, 1), (27, .aaload, 1), (28, .aload_n 0, 1), (29, .getfield 11, 3), (32, .aload_n 0, 1), (33, .getfield 42, 3), (36, .aaload, 1), (37, .invokevirtual 66, 3), (40, .aload_n 0, 1), (41, .dup, 1), (42, .getfield 42, 3), (45, .iconst 1, 1), (46, .iadd, 1), (47, .putfield 42, 3), (50, .goto (-41), 3), (53, .aload_n 0, 1), (54, .getfield 46, 3), (57, .iload_n 1, 1), (58, .if_icmp .ge 63, 3), (61, .aload_n 0, 1), (62, .getfield 11, 3), (65, .aload_n 0, 1), (66, .getfield 46, 3), (69, .iconst 1, 1), (70, .iadd, 1), (71, .aaload, 1), (72, .aload_n 0, 1), (73, .getfield 11, 3), (76, .aload_n 0, 1), (77, .getfield 46, 3), (80, .aaload, 1), (81, .invokevirtual 69, 3), (84, .aload_n 0, 1), (85, .getfield 34, 3), (88, .aload_n 0, 1), (89, .getfield 11, 3), (92, .aload_n 0, 1), (93, .getfield 46, 3), (96, .iconst 1, 1), (97, .iadd, 1), (98, .aaload, 1), (99, .aload_n 0, 1), (100, .getfield 46, 3), (103, .iconst 1, 1), (104, .iadd, 1), (105, .invokevirtual 72, 3), (108, .aload_n 0, 1), (109, .dup, 1), (110, .getfield 46, 3), (113, .iconst 1, 1), (114, .iadd, 1), (115, .putfield 46, 3), (118, .goto (-65), 3), (121, .aload_n 0, 1), (122, .getfield 11, 3), (125, .iload_n 1, 1), (126, .aaload, 1), (127, .areturn, 1)]
theorem dX4_reach : ∀ q ∈ tX4_reach, decode cX4_reach q.1 = .ok q.2 := by decide +kernel
theorem oX4_reach : MOk mX4_reach 1 := ⟨Gw_t1 3 rfl rfl, Gw_t2 111 rfl rfl, ⟨by decide +kernel, by decide +kernel⟩, by decide +kernel, by decide +kernel⟩
theorem iX4_reach : MIn mX4_reach := ⟨Gw_t2 109 rfl rfl, Gw_t2 110 rfl rfl⟩
abbrev cX5_init : ByteArray := prog_1_method_1_code
def yX5_init : MethodName := ⟨RX5, "<init>", "()V"⟩
def mX5_init : MI := (yX5_init, cX5_init, 1, none)
def tX5_init : List (Nat × Instr × Nat) := [(0, .aload_n 0, 1), (1, .invokespecial 3, 3), (4, .aload_n 0, 1), (5, .new 9, 3), (8, .dup, 1), (9, .invokespecial 11, 3), (12, .putfield 12, 3), (15, .aload_n 0, 1), (16, .new 16, 3), (19, .dup, 1), (20, .invokespecial 18, 3), (23, .putfield 19, 3), (26, .aload_n 0, 1), (27, .iconst 0, 1), (28, .putfield 23, 3), (31, .return_, 1)]
theorem dX5_init : ∀ q ∈ tX5_init, decode cX5_init q.1 = .ok q.2 := by decide +kernel
theorem oX5_init : MOk mX5_init 0 := ⟨Gw_t1 1 rfl rfl, Gw_t1 13 rfl rfl, ⟨by decide +kernel, by decide +kernel⟩, by decide +kernel, by decide +kernel⟩
abbrev cX5_row : ByteArray := prog_1_method_2_code
def yX5_row : MethodName := ⟨RX5, "row", "(II)I"⟩
def mX5_row : MI := (yX5_row, cX5_row, 3, (some (.int)))
def tX5_row : List (Nat × Instr × Nat) := [(0, .iload_n 1, 1), (1, .invokestatic 27, 3), (4, .ifCond .eq 9, 3), (7, .iload_n 2, 1), (8, .bipush 8, 2), (10, .if_icmp .le 6, 3), (13, .bipush (-102), 2), (15, .ireturn, 1), (16, .iload_n 2, 1), (17, .ifCond .ge 9, 3), (20, .aload_n 0, 1), (21, .iconst 3, 1), (22, .invokevirtual 31, 3), (25, .ireturn, 1), (26, .aload_n 0, 1), (27, .getfield 12, 3), (30, .iload_n 1, 1), (31, .iload_n 2, 1), (32, .invokevirtual 35, 3), (35, .iload_n 2, 1), (36, .ireturn, 1)]
theorem dX5_row : ∀ q ∈ tX5_row, decode cX5_row q.1 = .ok q.2 := by decide +kernel
theorem oX5_row : MOk mX5_row 2 := ⟨Gw_t1 1 rfl rfl, Gw_t1 179 rfl rfl, ⟨by decide +kernel, by decide +kernel⟩, by decide +kernel, by decide +kernel⟩
theorem iX5_row : MIn mX5_row := ⟨Gw_t1 177 rfl rfl, Gw_t1 178 rfl rfl⟩
abbrev cX5_put : ByteArray := prog_1_method_3_code
def yX5_put : MethodName := ⟨RX5, "put", "(III)I"⟩
def mX5_put : MI := (yX5_put, cX5_put, 4, (some (.int)))
def tX5_put : List (Nat × Instr × Nat) := [(0, .iload_n 1, 1), (1, .invokestatic 27, 3), (4, .ifCond .ne 6, 3), (7, .bipush (-102), 2), (9, .ireturn, 1), (10, .aload_n 0, 1), (11, .getfield 12, 3), (14, .invokevirtual 39, 3), (17, .ifCond .eq 9, 3), (20, .aload_n 0, 1), (21, .iconst 1, 1), (22, .invokevirtual 31, 3), (25, .ireturn, 1), (26, .iload_n 1, 1), (27, .aload_n 0, 1), (28, .getfield 12, 3), (31, .getfield 43, 3), (34, .if_icmp .eq 9, 3), (37, .aload_n 0, 1), (38, .iconst 4, 1), (39, .invokevirtual 31, 3), (42, .ireturn, 1), (43, .iload_n 2, 1), (44, .ifCond .lt 14, 3), (47, .iload_n 2, 1), (48, .aload_n 0, 1), (49, .getfield 12, 3), (52, .getfield 46, 3), (55, .if_icmp .lt 9, 3), (58, .aload_n 0, 1), (59, .iconst 2, 1), (60, .invokevirtual 31, 3), (63, .ireturn, 1), (64, .aload_n 0, 1), (65, .getfield 12, 3), (68, .iload_n 2, 1), (69, .iload_n 3, 1), (70, .invokevirtual 49, 3), (73, .iconst 1, 1), (74, .ireturn, 1)]
theorem dX5_put : ∀ q ∈ tX5_put, decode cX5_put q.1 = .ok q.2 := by decide +kernel
theorem oX5_put : MOk mX5_put 3 := ⟨Gw_t1 1 rfl rfl, Gw_t1 194 rfl rfl, ⟨by decide +kernel, by decide +kernel⟩, by decide +kernel, by decide +kernel⟩
theorem iX5_put : MIn mX5_put := ⟨Gw_t1 192 rfl rfl, Gw_t1 193 rfl rfl⟩
abbrev cX5_lose : ByteArray := prog_1_method_4_code
def yX5_lose : MethodName := ⟨RX5, "lose", "()I"⟩
def mX5_lose : MI := (yX5_lose, cX5_lose, 1, (some (.int)))
def tX5_lose : List (Nat × Instr × Nat) := [(0, .aload_n 0, 1), (1, .getfield 12, 3), (4, .invokevirtual 39, 3), (7, .ifCond .eq 9, 3), (10, .aload_n 0, 1), (11, .iconst 1, 1), (12, .invokevirtual 31, 3), (15, .ireturn, 1), (16, .aload_n 0, 1), (17, .getfield 12, 3), (20, .iconst (-1), 1), (21, .putfield 46, 3), (24, .iconst 1, 1), (25, .ireturn, 1)]
theorem dX5_lose : ∀ q ∈ tX5_lose, decode cX5_lose q.1 = .ok q.2 := by decide +kernel
theorem oX5_lose : MOk mX5_lose 0 := ⟨Gw_t1 1 rfl rfl, Gw_t1 206 rfl rfl, ⟨by decide +kernel, by decide +kernel⟩, by decide +kernel, by decide +kernel⟩
theorem iX5_lose : MIn mX5_lose := ⟨Gw_t1 204 rfl rfl, Gw_t1 205 rfl rfl⟩
abbrev cX5_corner : ByteArray := prog_1_method_5_code
def yX5_corner : MethodName := ⟨RX5, "corner", "()I"⟩
def mX5_corner : MI := (yX5_corner, cX5_corner, 2, (some (.int)))
def tX5_corner : List (Nat × Instr × Nat) := [(0, .aload_n 0, 1), (1, .getfield 19, 3), (4, .getfield 52, 3), (7, .astore_n 1, 1), (8, .aload_n 0, 1), (9, .getfield 12, 3), (12, .invokevirtual 39, 3), (15, .ifCond .eq 9, 3), (18, .aload_n 0, 1), (19, .iconst 1, 1), (20, .invokevirtual 31, 3), (23, .ireturn, 1), (24, .aload_n 0, 1), (25, .getfield 12, 3), (28, .getfield 46, 3), (31, .iconst 3, 1), (32, .if_icmp .ge 9, 3), (35, .aload_n 0, 1), (36, .iconst 2, 1), (37, .invokevirtual 31, 3), (40, .ireturn, 1), (41, .aload_n 0, 1), (42, .getfield 12, 3), (45, .iconst 3, 1), (46, .sipush (-1000), 3), (49, .sipush 1000, 3), (52, .invokevirtual 56, 3), (55, .ifCond .ne 6, 3), (58, .bipush (-102), 2), (60, .ireturn, 1), (61, .aload_n 1, 1), (62, .getfield 60, 3), (65, .bipush 14, 2), (67, .if_icmp .lt 6, 3), (70, .bipush (-104), 2), (72, .ireturn, 1), (73, .aload_n 1, 1), (74, .aload_n 0, 1), (75, .getfield 12, 3), (78, .getfield 65, 3), (81, .invokevirtual 69, 3), (84, .aload_n 0, 1), (85, .getfield 19, 3), (88, .invokevirtual 73, 3), (91, .aload_n 1, 1), (92, .getfield 60, 3), (95, .iconst 1, 1), (96, .isub, 1), (97, .ireturn, 1)]
theorem dX5_corner : ∀ q ∈ tX5_corner, decode cX5_corner q.1 = .ok q.2 := by decide +kernel
theorem oX5_corner : MOk mX5_corner 0 := ⟨Gw_t1 1 rfl rfl, Gw_t1 210 rfl rfl, ⟨by decide +kernel, by decide +kernel⟩, by decide +kernel, by decide +kernel⟩
theorem iX5_corner : MIn mX5_corner := ⟨Gw_t1 208 rfl rfl, Gw_t1 209 rfl rfl⟩
abbrev cX5_place : ByteArray := prog_1_method_6_code
def yX5_place : MethodName := ⟨RX5, "place", "(III)I"⟩
def mX5_place : MI := (yX5_place, cX5_place, 6, (some (.int)))
def tX5_place : List (Nat × Instr × Nat) := [(0, .aload_n 0, 1), (1, .getfield 19, 3), (4, .getfield 52, 3), (7, .astore 4, 2), (9, .aload 4, 2), (11, .iload_n 1, 1), (12, .invokevirtual 76, 3), (15, .ifCond .eq 10, 3), (18, .iload_n 2, 1), (19, .invokestatic 79, 3), (22, .ifCond .ne 6, 3), (25, .bipush (-101), 2), (27, .ireturn, 1), (28, .iload_n 3, 1), (29, .sipush 1000, 3), (32, .invokestatic 82, 3), (35, .ifCond .ne 6, 3), (38, .bipush (-102), 2), (40, .ireturn, 1), (41, .aload 4, 2), (43, .getfield 86, 3), (46, .iconst 3, 1), (47, .iload_n 1, 1), (48, .imul, 1), (49, .iload_n 2, 1), (50, .iadd, 1), (51, .iaload, 1), (52, .istore 5, 2), (54, .aload 4, 2), (56, .getfield 86, 3), (59, .iconst 3, 1), (60, .iload_n 1, 1), (61, .imul, 1), (62, .iload_n 2, 1), (63, .iadd, 1), (64, .iload_n 3, 1), (65, .iastore, 1), (66, .aload_n 0, 1), (67, .getfield 19, 3), (70, .iconst 0, 1), (71, .invokevirtual 87, 3), (74, .iload 5, 2), (76, .ireturn, 1)]
theorem dX5_place : ∀ q ∈ tX5_place, decode cX5_place q.1 = .ok q.2 := by decide +kernel
theorem oX5_place : MOk mX5_place 3 := ⟨Gw_t1 1 rfl rfl, Gw_t1 226 rfl rfl, ⟨by decide +kernel, by decide +kernel⟩, by decide +kernel, by decide +kernel⟩
theorem iX5_place : MIn mX5_place := ⟨Gw_t1 224 rfl rfl, Gw_t1 225 rfl rfl⟩
abbrev cX5_face : ByteArray := prog_1_method_7_code
def yX5_face : MethodName := ⟨RX5, "face", "(I)I"⟩
def mX5_face : MI := (yX5_face, cX5_face, 3, (some (.int)))
def tX5_face : List (Nat × Instr × Nat) := [(0, .aload_n 0, 1), (1, .getfield 19, 3), (4, .getfield 52, 3), (7, .astore_n 2, 1), (8, .iload_n 1, 1), (9, .iconst 3, 1), (10, .if_icmp .lt 9, 3), (13, .iload_n 1, 1), (14, .bipush 6, 2), (16, .if_icmp .le 6, 3), (19, .bipush (-102), 2), (21, .ireturn, 1), (22, .aload_n 0, 1), (23, .getfield 12, 3), (26, .invokevirtual 39, 3), (29, .ifCond .eq 9, 3), (32, .aload_n 0, 1), (33, .iconst 1, 1), (34, .invokevirtual 31, 3), (37, .ireturn, 1), (38, .aload_n 0, 1), (39, .getfield 12, 3), (42, .getfield 46, 3), (45, .iload_n 1, 1), (46, .if_icmp .ge 9, 3), (49, .aload_n 0, 1), (50, .iconst 2, 1), (51, .invokevirtual 31, 3), (54, .ireturn, 1), (55, .aload_n 0, 1), (56, .getfield 12, 3), (59, .iload_n 1, 1), (60, .iconst 0, 1), (61, .aload_n 2, 1), (62, .getfield 60, 3), (65, .iconst 1, 1), (66, .isub, 1), (67, .invokevirtual 56, 3), (70, .ifCond .ne 6, 3), (73, .bipush (-101), 2), (75, .ireturn, 1), (76, .aload_n 2, 1), (77, .getfield 91, 3), (80, .bipush 14, 2), (82, .if_icmp .lt 6, 3), (85, .bipush (-104), 2), (87, .ireturn, 1), (88, .aload_n 2, 1), (89, .aload_n 0, 1), (90, .getfield 12, 3), (93, .getfield 65, 3), (96, .iload_n 1, 1), (97, .invokevirtual 94, 3), (100, .aload_n 0, 1), (101, .getfield 19, 3), (104, .invokevirtual 73, 3), (107, .aload_n 2, 1), (108, .getfield 91, 3), (111, .ireturn, 1)]
theorem dX5_face : ∀ q ∈ tX5_face, decode cX5_face q.1 = .ok q.2 := by decide +kernel
theorem oX5_face : MOk mX5_face 1 := ⟨Gw_t1 1 rfl rfl, Gw_t2 7 rfl rfl, ⟨by decide +kernel, by decide +kernel⟩, by decide +kernel, by decide +kernel⟩
theorem iX5_face : MIn mX5_face := ⟨Gw_t2 5 rfl rfl, Gw_t2 6 rfl rfl⟩
abbrev cX5_undo : ByteArray := prog_1_method_8_code
def yX5_undo : MethodName := ⟨RX5, "undo", "()I"⟩
def mX5_undo : MI := (yX5_undo, cX5_undo, 2, (some (.int)))
def tX5_undo : List (Nat × Instr × Nat) := [(0, .aload_n 0, 1), (1, .getfield 19, 3), (4, .getfield 52, 3), (7, .astore_n 1, 1), (8, .aload_n 1, 1), (9, .getfield 91, 3), (12, .ifCond .ne 6, 3), (15, .bipush (-103), 2), (17, .ireturn, 1), (18, .aload_n 1, 1), (19, .dup, 1), (20, .getfield 91, 3), (23, .iconst 1, 1), (24, .isub, 1), (25, .putfield 91, 3), (28, .aload_n 0, 1), (29, .getfield 19, 3), (32, .invokevirtual 73, 3), (35, .aload_n 1, 1), (36, .getfield 91, 3), (39, .ireturn, 1)]
theorem dX5_undo : ∀ q ∈ tX5_undo, decode cX5_undo q.1 = .ok q.2 := by decide +kernel
theorem oX5_undo : MOk mX5_undo 0 := ⟨Gw_t1 1 rfl rfl, Gw_t2 23 rfl rfl, ⟨by decide +kernel, by decide +kernel⟩, by decide +kernel, by decide +kernel⟩
theorem iX5_undo : MIn mX5_undo := ⟨Gw_t2 21 rfl rfl, Gw_t2 22 rfl rfl⟩
abbrev cX5_turn : ByteArray := prog_1_method_9_code
def yX5_turn : MethodName := ⟨RX5, "turn", "(I)I"⟩
def mX5_turn : MI := (yX5_turn, cX5_turn, 3, (some (.int)))
def tX5_turn : List (Nat × Instr × Nat) := [(0, .aload_n 0, 1), (1, .getfield 19, 3), (4, .getfield 52, 3), (7, .astore_n 2, 1), (8, .aload_n 2, 1), (9, .iload_n 1, 1), (10, .invokevirtual 98, 3), (13, .ifCond .ne 6, 3), (16, .bipush (-101), 2), (18, .ireturn, 1), (19, .aload_n 2, 1), (20, .iload_n 1, 1), (21, .invokevirtual 101, 3), (24, .aload_n 0, 1), (25, .getfield 19, 3), (28, .invokevirtual 73, 3), (31, .iconst 1, 1), (32, .ireturn, 1)]
theorem dX5_turn : ∀ q ∈ tX5_turn, decode cX5_turn q.1 = .ok q.2 := by decide +kernel
theorem oX5_turn : MOk mX5_turn 1 := ⟨Gw_t1 1 rfl rfl, Gw_t2 27 rfl rfl, ⟨by decide +kernel, by decide +kernel⟩, by decide +kernel, by decide +kernel⟩
theorem iX5_turn : MIn mX5_turn := ⟨Gw_t2 25 rfl rfl, Gw_t2 26 rfl rfl⟩
abbrev cX5_clear : ByteArray := prog_1_method_10_code
def yX5_clear : MethodName := ⟨RX5, "clear", "()I"⟩
def mX5_clear : MI := (yX5_clear, cX5_clear, 3, (some (.int)))
def tX5_clear : List (Nat × Instr × Nat) := [(0, .aload_n 0, 1), (1, .getfield 19, 3), (4, .getfield 52, 3), (7, .astore_n 1, 1), (8, .aload_n 1, 1), (9, .getfield 60, 3), (12, .istore_n 2, 1), (13, .aload_n 1, 1), (14, .iconst 0, 1), (15, .putfield 60, 3), (18, .aload_n 1, 1), (19, .iconst 0, 1), (20, .putfield 91, 3), (23, .aload_n 0, 1), (24, .getfield 19, 3), (27, .getfield 104, 3), (30, .iconst 0, 1), (31, .putfield 108, 3), (34, .aload_n 0, 1), (35, .getfield 19, 3), (38, .invokevirtual 73, 3), (41, .iload_n 2, 1), (42, .ireturn, 1)]
theorem dX5_clear : ∀ q ∈ tX5_clear, decode cX5_clear q.1 = .ok q.2 := by decide +kernel
theorem oX5_clear : MOk mX5_clear 0 := ⟨Gw_t1 1 rfl rfl, Gw_t2 39 rfl rfl, ⟨by decide +kernel, by decide +kernel⟩, by decide +kernel, by decide +kernel⟩
theorem iX5_clear : MIn mX5_clear := ⟨Gw_t2 37 rfl rfl, Gw_t2 38 rfl rfl⟩
abbrev cX5_fault : ByteArray := prog_1_method_11_code
def yX5_fault : MethodName := ⟨RX5, "fault", "(I)I"⟩
def mX5_fault : MI := (yX5_fault, cX5_fault, 3, (some (.int)))
def tX5_fault : List (Nat × Instr × Nat) := [(0, .iload_n 1, 1), (1, .ifCond .lt 8, 3), (4, .iload_n 1, 1), (5, .iconst 1, 1), (6, .if_icmp .le 6, 3), (9, .bipush (-102), 2), (11, .ireturn, 1), (12, .aload_n 0, 1), (13, .getfield 19, 3), (16, .invokevirtual 113, 3), (19, .istore_n 2, 1), (20, .iload_n 1, 1), (21, .ifCond .ne 7, 3), (24, .iload_n 2, 1), (25, .goto 13, 3), (28, .aload_n 0, 1), (29, .getfield 19, 3), (32, .getfield 117, 3), (35, .getfield 121, 3), (38, .ireturn, 1)]
theorem dX5_fault : ∀ q ∈ tX5_fault, decode cX5_fault q.1 = .ok q.2 := by decide +kernel
theorem oX5_fault : MOk mX5_fault 1 := ⟨Gw_t1 1 rfl rfl, Gw_t2 43 rfl rfl, ⟨by decide +kernel, by decide +kernel⟩, by decide +kernel, by decide +kernel⟩
theorem iX5_fault : MIn mX5_fault := ⟨Gw_t2 41 rfl rfl, Gw_t2 42 rfl rfl⟩
abbrev cX5_many : ByteArray := prog_1_method_12_code
def yX5_many : MethodName := ⟨RX5, "many", "(II)I"⟩
def mX5_many : MI := (yX5_many, cX5_many, 4, (some (.int)))
def tX5_many : List (Nat × Instr × Nat) := [(0, .iload_n 1, 1), (1, .invokestatic 126, 3), (4, .ifCond .ne 6, 3), (7, .bipush (-101), 2), (9, .ireturn, 1), (10, .iload_n 2, 1), (11, .ifCond .lt 8, 3), (14, .iload_n 2, 1), (15, .iconst 5, 1), (16, .if_icmp .le 6, 3), (19, .bipush (-102), 2), (21, .ireturn, 1), (22, .aload_n 0, 1), (23, .getfield 19, 3), (26, .iload_n 1, 1), (27, .invokevirtual 129, 3), (30, .astore_n 3, 1), (31, .aload_n 3, 1), (32, .ifnonnull 6, 3), (35, .bipush (-103), 2), (37, .ireturn, 1), (38, .iload_n 2, 1), (39, .tableswitch 58 0 4 #[33, 38, 43, 48, 53], 33), (72, .aload_n 3, 1), (73, .getfield 60, 3), (76, .ireturn, 1), (77, .aload_n 3, 1), (78, .getfield 133, 3), (81, .ireturn, 1), (82, .aload_n 3, 1), (83, .getfield 91, 3), (86, .ireturn, 1), (87, .aload_n 3, 1), (88, .invokevirtual 136, 3), (91, .ireturn, 1), (92, .aload_n 3, 1), (93, .invokevirtual 139, 3), (96, .ireturn, 1), (97, .aload_n 3, 1), (98, .getfield 60, 3), (101, .aload_n 3, 1), (102, .getfield 91, 3), (105, .iadd, 1), (106, .aload_n 3, 1), (107, .getfield 133, 3), (110, .isub, 1), (111, .ireturn, 1)]
theorem dX5_many : ∀ q ∈ tX5_many, decode cX5_many q.1 = .ok q.2 := by decide +kernel
theorem oX5_many : MOk mX5_many 2 := ⟨Gw_t1 1 rfl rfl, Gw_t2 104 rfl rfl, ⟨by decide +kernel, by decide +kernel⟩, by decide +kernel, by decide +kernel⟩
theorem iX5_many : MIn mX5_many := ⟨Gw_t2 102 rfl rfl, Gw_t2 103 rfl rfl⟩
abbrev cX5_at : ByteArray := prog_1_method_13_code
def yX5_at : MethodName := ⟨RX5, "at", "(III)I"⟩
def mX5_at : MI := (yX5_at, cX5_at, 5, (some (.int)))
def tX5_at : List (Nat × Instr × Nat) := [(0, .iload_n 1, 1), (1, .invokestatic 126, 3), (4, .ifCond .eq 10, 3), (7, .iload_n 3, 1), (8, .invokestatic 79, 3), (11, .ifCond .ne 6, 3), (14, .ldc 142, 2), (16, .ireturn, 1), (17, .aload_n 0, 1), (18, .getfield 19, 3), (21, .iload_n 1, 1), (22, .invokevirtual 129, 3), (25, .astore 4, 2), (27, .aload 4, 2), (29, .ifnonnull 6, 3), (32, .ldc 143, 2), (34, .ireturn, 1), (35, .aload 4, 2), (37, .iload_n 2, 1), (38, .invokevirtual 76, 3), (41, .ifCond .ne 6, 3), (44, .ldc 142, 2), (46, .ireturn, 1), (47, .aload 4, 2), (49, .getfield 86, 3), (52, .iconst 3, 1), (53, .iload_n 2, 1), (54, .imul, 1), (55, .iload_n 3, 1), (56, .iadd, 1), (57, .iaload, 1), (58, .ireturn, 1)]
theorem dX5_at : ∀ q ∈ tX5_at, decode cX5_at q.1 = .ok q.2 := by decide +kernel
theorem oX5_at : MOk mX5_at 3 := ⟨Gw_t1 1 rfl rfl, Gw_t2 161 rfl rfl, ⟨by decide +kernel, by decide +kernel⟩, by decide +kernel, by decide +kernel⟩
theorem iX5_at : MIn mX5_at := ⟨Gw_t2 159 rfl rfl, Gw_t2 160 rfl rfl⟩
abbrev cX5_edge : ByteArray := prog_1_method_14_code
def yX5_edge : MethodName := ⟨RX5, "edge", "(III)I"⟩
def mX5_edge : MI := (yX5_edge, cX5_edge, 5, (some (.int)))
def tX5_edge : List (Nat × Instr × Nat) := [(0, .iload_n 1, 1), (1, .invokestatic 126, 3), (4, .ifCond .ne 6, 3), (7, .bipush (-101), 2), (9, .ireturn, 1), (10, .iload_n 3, 1), (11, .invokestatic 144, 3), (14, .ifCond .ne 6, 3), (17, .bipush (-102), 2), (19, .ireturn, 1), (20, .aload_n 0, 1), (21, .getfield 19, 3), (24, .iload_n 1, 1), (25, .invokevirtual 129, 3), (28, .astore 4, 2), (30, .aload 4, 2), (32, .ifnonnull 6, 3), (35, .bipush (-103), 2), (37, .ireturn, 1), (38, .iload_n 2, 1), (39, .ifCond .lt 12, 3), (42, .iload_n 2, 1), (43, .aload 4, 2), (45, .getfield 133, 3), (48, .if_icmp .lt 6, 3), (51, .bipush (-101), 2), (53, .ireturn, 1), (54, .iload_n 3, 1), (55, .ifCond .ne 12, 3), (58, .aload 4, 2), (60, .iload_n 2, 1), (61, .invokevirtual 147, 3), (64, .goto 9, 3), (67, .aload 4, 2), (69, .iload_n 2, 1), (70, .invokevirtual 150, 3), (73, .ireturn, 1)]
theorem dX5_edge : ∀ q ∈ tX5_edge, decode cX5_edge q.1 = .ok q.2 := by decide +kernel
theorem oX5_edge : MOk mX5_edge 3 := ⟨Gw_t1 1 rfl rfl, Gw_t2 167 rfl rfl, ⟨by decide +kernel, by decide +kernel⟩, by decide +kernel, by decide +kernel⟩
theorem iX5_edge : MIn mX5_edge := ⟨Gw_t2 165 rfl rfl, Gw_t2 166 rfl rfl⟩
abbrev cX5_size : ByteArray := prog_1_method_15_code
def yX5_size : MethodName := ⟨RX5, "size", "(II)I"⟩
def mX5_size : MI := (yX5_size, cX5_size, 4, (some (.int)))
def tX5_size : List (Nat × Instr × Nat) := [(0, .iload_n 1, 1), (1, .invokestatic 126, 3), (4, .ifCond .ne 6, 3), (7, .bipush (-101), 2), (9, .ireturn, 1), (10, .aload_n 0, 1), (11, .getfield 19, 3), (14, .iload_n 1, 1), (15, .invokevirtual 129, 3), (18, .astore_n 3, 1), (19, .aload_n 3, 1), (20, .ifnonnull 6, 3), (23, .bipush (-103), 2), (25, .ireturn, 1), (26, .aload_n 3, 1), (27, .iload_n 2, 1), (28, .invokevirtual 98, 3), (31, .ifCond .ne 6, 3), (34, .bipush (-101), 2), (36, .ireturn, 1), (37, .aload_n 3, 1), (38, .iload_n 2, 1), (39, .invokevirtual 153, 3), (42, .ireturn, 1)]
theorem dX5_size : ∀ q ∈ tX5_size, decode cX5_size q.1 = .ok q.2 := by decide +kernel
theorem oX5_size : MOk mX5_size 2 := ⟨Gw_t1 1 rfl rfl, Gw_t2 176 rfl rfl, ⟨by decide +kernel, by decide +kernel⟩, by decide +kernel, by decide +kernel⟩
theorem iX5_size : MIn mX5_size := ⟨Gw_t2 174 rfl rfl, Gw_t2 175 rfl rfl⟩
abbrev cX5_ring : ByteArray := prog_1_method_16_code
def yX5_ring : MethodName := ⟨RX5, "ring", "(III)I"⟩
def mX5_ring : MI := (yX5_ring, cX5_ring, 5, (some (.int)))
def tX5_ring : List (Nat × Instr × Nat) := [(0, .iload_n 1, 1), (1, .invokestatic 126, 3), (4, .ifCond .ne 6, 3), (7, .bipush (-101), 2), (9, .ireturn, 1), (10, .aload_n 0, 1), (11, .getfield 19, 3), (14, .iload_n 1, 1), (15, .invokevirtual 129, 3), (18, .astore 4, 2), (20, .aload 4, 2), (22, .ifnonnull 6, 3), (25, .bipush (-103), 2), (27, .ireturn, 1), (28, .aload 4, 2), (30, .iload_n 2, 1), (31, .invokevirtual 98, 3), (34, .ifCond .ne 6, 3), (37, .bipush (-101), 2), (39, .ireturn, 1), (40, .iload_n 3, 1), (41, .ifCond .lt 13, 3), (44, .iload_n 3, 1), (45, .aload 4, 2), (47, .iload_n 2, 1), (48, .invokevirtual 153, 3), (51, .if_icmp .lt 5, 3), (54, .iconst (-1), 1), (55, .ireturn, 1), (56, .aload 4, 2), (58, .getfield 156, 3), (61, .aload 4, 2), (63, .getfield 159, 3), (66, .iload_n 2, 1), (67, .iaload, 1), (68, .iload_n 3, 1), (69, .iadd, 1), (70, .iaload, 1), (71, .ireturn, 1)]
theorem dX5_ring : ∀ q ∈ tX5_ring, decode cX5_ring q.1 = .ok q.2 := by decide +kernel
theorem oX5_ring : MOk mX5_ring 3 := ⟨Gw_t1 1 rfl rfl, Gw_t2 181 rfl rfl, ⟨by decide +kernel, by decide +kernel⟩, by decide +kernel, by decide +kernel⟩
theorem iX5_ring : MIn mX5_ring := ⟨Gw_t2 179 rfl rfl, Gw_t2 180 rfl rfl⟩
abbrev cX5_middle : ByteArray := prog_1_method_17_code
def yX5_middle : MethodName := ⟨RX5, "middle", "(III)I"⟩
def mX5_middle : MI := (yX5_middle, cX5_middle, 5, (some (.int)))
def tX5_middle : List (Nat × Instr × Nat) := [(0, .iload_n 1, 1), (1, .invokestatic 126, 3), (4, .ifCond .eq 10, 3), (7, .iload_n 3, 1), (8, .invokestatic 79, 3), (11, .ifCond .ne 6, 3), (14, .ldc 142, 2), (16, .ireturn, 1), (17, .aload_n 0, 1), (18, .getfield 19, 3), (21, .iload_n 1, 1), (22, .invokevirtual 129, 3), (25, .astore 4, 2), (27, .aload 4, 2), (29, .ifnonnull 6, 3), (32, .ldc 143, 2), (34, .ireturn, 1), (35, .aload 4, 2), (37, .iload_n 2, 1), (38, .invokevirtual 98, 3), (41, .ifCond .ne 6, 3), (44, .ldc 142, 2), (46, .ireturn, 1), (47, .aload 4, 2), (49, .iload_n 2, 1), (50, .iload_n 3, 1), (51, .invokevirtual 162, 3), (54, .ireturn, 1)]
theorem dX5_middle : ∀ q ∈ tX5_middle, decode cX5_middle q.1 = .ok q.2 := by decide +kernel
theorem oX5_middle : MOk mX5_middle 3 := ⟨Gw_t1 1 rfl rfl, Gw_t2 185 rfl rfl, ⟨by decide +kernel, by decide +kernel⟩, by decide +kernel, by decide +kernel⟩
theorem iX5_middle : MIn mX5_middle := ⟨Gw_t2 183 rfl rfl, Gw_t2 184 rfl rfl⟩
abbrev cX5_box : ByteArray := prog_1_method_18_code
def yX5_box : MethodName := ⟨RX5, "box", "(III)I"⟩
def mX5_box : MI := (yX5_box, cX5_box, 5, (some (.int)))
def tX5_box : List (Nat × Instr × Nat) := [(0, .iload_n 1, 1), (1, .invokestatic 126, 3), (4, .ifCond .eq 10, 3), (7, .iload_n 2, 1), (8, .invokestatic 79, 3), (11, .ifCond .ne 6, 3), (14, .ldc 142, 2), (16, .ireturn, 1), (17, .iload_n 3, 1), (18, .invokestatic 144, 3), (21, .ifCond .ne 6, 3), (24, .ldc 166, 2), (26, .ireturn, 1), (27, .aload_n 0, 1), (28, .getfield 19, 3), (31, .iload_n 1, 1), (32, .invokevirtual 129, 3), (35, .astore 4, 2), (37, .aload 4, 2), (39, .ifnonnull 6, 3), (42, .ldc 143, 2), (44, .ireturn, 1), (45, .iload_n 3, 1), (46, .ifCond .ne 12, 3), (49, .aload 4, 2), (51, .iload_n 2, 1), (52, .invokevirtual 167, 3), (55, .goto 9, 3), (58, .aload 4, 2), (60, .iload_n 2, 1), (61, .invokevirtual 170, 3), (64, .ireturn, 1)]
theorem dX5_box : ∀ q ∈ tX5_box, decode cX5_box q.1 = .ok q.2 := by decide +kernel
theorem oX5_box : MOk mX5_box 3 := ⟨Gw_t1 1 rfl rfl, Gw_t2 193 rfl rfl, ⟨by decide +kernel, by decide +kernel⟩, by decide +kernel, by decide +kernel⟩
theorem iX5_box : MIn mX5_box := ⟨Gw_t2 191 rfl rfl, Gw_t2 192 rfl rfl⟩
abbrev cX5_room : ByteArray := prog_1_method_19_code
def yX5_room : MethodName := ⟨RX5, "room", "(I)J"⟩
def mX5_room : MI := (yX5_room, cX5_room, 3, (some (.long)))
def tX5_room : List (Nat × Instr × Nat) := [(0, .iload_n 1, 1), (1, .invokestatic 126, 3), (4, .ifCond .ne 7, 3), (7, .ldc2_w 173, 3), (10, .lreturn, 1), (11, .aload_n 0, 1), (12, .getfield 19, 3), (15, .iload_n 1, 1), (16, .invokevirtual 129, 3), (19, .astore_n 2, 1), (20, .aload_n 2, 1), (21, .ifnonnull 7, 3), (24, .ldc2_w 175, 3), (27, .lreturn, 1), (28, .aload_n 2, 1), (29, .invokevirtual 177, 3), (32, .lreturn, 1)]
theorem dX5_room : ∀ q ∈ tX5_room, decode cX5_room q.1 = .ok q.2 := by decide +kernel
theorem oX5_room : MOk mX5_room 1 := ⟨Gw_t1 1 rfl rfl, Gw_t2 210 rfl rfl, ⟨by decide +kernel, by decide +kernel⟩, by decide +kernel, by decide +kernel⟩
theorem iX5_room : MIn mX5_room := ⟨Gw_t2 208 rfl rfl, Gw_t2 209 rfl rfl⟩
abbrev cX5_cut : ByteArray := prog_1_method_20_code
def yX5_cut : MethodName := ⟨RX5, "cut", "(III)I"⟩
def mX5_cut : MI := (yX5_cut, cX5_cut, 5, (some (.int)))
def tX5_cut : List (Nat × Instr × Nat) := [(0, .iload_n 1, 1), (1, .invokestatic 126, 3), (4, .ifCond .eq 10, 3), (7, .iload_n 2, 1), (8, .invokestatic 79, 3), (11, .ifCond .ne 6, 3), (14, .bipush (-101), 2), (16, .ireturn, 1), (17, .aload_n 0, 1), (18, .getfield 19, 3), (21, .iload_n 1, 1), (22, .invokevirtual 129, 3), (25, .astore 4, 2), (27, .aload 4, 2), (29, .ifnonnull 6, 3), (32, .bipush (-103), 2), (34, .ireturn, 1), (35, .aload 4, 2), (37, .iload_n 2, 1), (38, .iload_n 3, 1), (39, .invokevirtual 181, 3), (42, .ireturn, 1)]
theorem dX5_cut : ∀ q ∈ tX5_cut, decode cX5_cut q.1 = .ok q.2 := by decide +kernel
theorem oX5_cut : MOk mX5_cut 3 := ⟨Gw_t1 1 rfl rfl, Gw_t2 228 rfl rfl, ⟨by decide +kernel, by decide +kernel⟩, by decide +kernel, by decide +kernel⟩
theorem iX5_cut : MIn mX5_cut := ⟨Gw_t2 226 rfl rfl, Gw_t2 227 rfl rfl⟩
abbrev cX5_near : ByteArray := prog_1_method_21_code
def yX5_near : MethodName := ⟨RX5, "near", "(IIII)I"⟩
def mX5_near : MI := (yX5_near, cX5_near, 6, (some (.int)))
def tX5_near : List (Nat × Instr × Nat) := [(0, .iload_n 1, 1), (1, .invokestatic 126, 3), (4, .ifCond .ne 6, 3), (7, .bipush (-101), 2), (9, .ireturn, 1), (10, .iload_n 2, 1), (11, .iload_n 3, 1), (12, .iload 4, 2), (14, .ldc 184, 2), (16, .invokestatic 185, 3), (19, .ifCond .ne 6, 3), (22, .bipush (-102), 2), (24, .ireturn, 1), (25, .aload_n 0, 1), (26, .getfield 19, 3), (29, .iload_n 1, 1), (30, .invokevirtual 129, 3), (33, .astore 5, 2), (35, .aload 5, 2), (37, .ifnonnull 6, 3), (40, .bipush (-103), 2), (42, .ireturn, 1), (43, .aload 5, 2), (45, .iload_n 2, 1), (46, .iload_n 3, 1), (47, .iload 4, 2), (49, .invokevirtual 189, 3), (52, .ireturn, 1)]
theorem dX5_near : ∀ q ∈ tX5_near, decode cX5_near q.1 = .ok q.2 := by decide +kernel
theorem oX5_near : MOk mX5_near 4 := ⟨Gw_t1 1 rfl rfl, Gw_t2 236 rfl rfl, ⟨by decide +kernel, by decide +kernel⟩, by decide +kernel, by decide +kernel⟩
theorem iX5_near : MIn mX5_near := ⟨Gw_t2 234 rfl rfl, Gw_t2 235 rfl rfl⟩
abbrev cX5_move : ByteArray := prog_1_method_22_code
def yX5_move : MethodName := ⟨RX5, "move", "(IIIII)I"⟩
def mX5_move : MI := (yX5_move, cX5_move, 8, (some (.int)))
def tX5_move : List (Nat × Instr × Nat) := [(0, .aload_n 0, 1), (1, .getfield 19, 3), (4, .getfield 104, 3), (7, .astore 6, 2), (9, .iload_n 1, 1), (10, .iload_n 2, 1), (11, .invokestatic 193, 3), (14, .ifCond .ne 6, 3), (17, .bipush (-101), 2), (19, .ireturn, 1), (20, .iload_n 3, 1), (21, .iload 4, 2), (23, .iload 5, 2), (25, .sipush 1000, 3), (28, .invokestatic 185, 3), (31, .ifCond .ne 6, 3), (34, .bipush (-102), 2), (36, .ireturn, 1), (37, .iload_n 3, 1), (38, .ifCond .ne 23, 3), (41, .iload 4, 2), (43, .ifCond .ne 18, 3), (46, .iload 5, 2), (48, .ifCond .ne 13, 3), (51, .aload 6, 2), (53, .iload_n 1, 1), (54, .iload_n 2, 1), (55, .invokevirtual 196, 3), (58, .goto 33, 3), (61, .aload 6, 2), (63, .iload_n 1, 1), (64, .iload_n 2, 1), (65, .invokevirtual 199, 3), (68, .istore 7, 2), (70, .iload 7, 2), (72, .iconst (-1), 1), (73, .if_icmp .ne 6, 3), (76, .bipush (-104), 2), (78, .ireturn, 1), (79, .aload 6, 2), (81, .iload 7, 2), (83, .iload_n 3, 1), (84, .iload 4, 2), (86, .iload 5, 2), (88, .invokevirtual 202, 3), (91, .aload_n 0, 1), (92, .getfield 19, 3), (95, .iload_n 1, 1), (96, .iconst 1, 1), (97, .isub, 1), (98, .invokevirtual 87, 3), (101, .aload 6, 2), (103, .getfield 108, 3), (106, .ireturn, 1)]
theorem dX5_move : ∀ q ∈ tX5_move, decode cX5_move q.1 = .ok q.2 := by decide +kernel
theorem oX5_move : MOk mX5_move 5 := ⟨Gw_t1 1 rfl rfl, Gw_t3 12 rfl rfl, ⟨by decide +kernel, by decide +kernel⟩, by decide +kernel, by decide +kernel⟩
theorem iX5_move : MIn mX5_move := ⟨Gw_t3 10 rfl rfl, Gw_t3 11 rfl rfl⟩
abbrev cX5_moved : ByteArray := prog_1_method_23_code
def yX5_moved : MethodName := ⟨RX5, "moved", "(III)I"⟩
def mX5_moved : MI := (yX5_moved, cX5_moved, 5, (some (.int)))
def tX5_moved : List (Nat × Instr × Nat) := [(0, .iload_n 1, 1), (1, .iload_n 2, 1), (2, .invokestatic 193, 3), (5, .ifCond .eq 10, 3), (8, .iload_n 3, 1), (9, .invokestatic 79, 3), (12, .ifCond .ne 5, 3), (15, .iconst 0, 1), (16, .ireturn, 1), (17, .aload_n 0, 1), (18, .getfield 19, 3), (21, .getfield 104, 3), (24, .iload_n 1, 1), (25, .iload_n 2, 1), (26, .invokevirtual 205, 3), (29, .istore 4, 2), (31, .iload 4, 2), (33, .iconst (-1), 1), (34, .if_icmp .ne 7, 3), (37, .iconst 0, 1), (38, .goto 20, 3), (41, .aload_n 0, 1), (42, .getfield 19, 3), (45, .getfield 104, 3), (48, .getfield 208, 3), (51, .iconst 3, 1), (52, .iload 4, 2), (54, .imul, 1), (55, .iload_n 3, 1), (56, .iadd, 1), (57, .iaload, 1), (58, .ireturn, 1)]
theorem dX5_moved : ∀ q ∈ tX5_moved, decode cX5_moved q.1 = .ok q.2 := by decide +kernel
theorem oX5_moved : MOk mX5_moved 3 := ⟨Gw_t1 1 rfl rfl, Gw_t3 43 rfl rfl, ⟨by decide +kernel, by decide +kernel⟩, by decide +kernel, by decide +kernel⟩
theorem iX5_moved : MIn mX5_moved := ⟨Gw_t3 41 rfl rfl, Gw_t3 42 rfl rfl⟩
abbrev cX5_cause : ByteArray := prog_1_method_24_code
def yX5_cause : MethodName := ⟨RX5, "cause", "()I"⟩
def mX5_cause : MI := (yX5_cause, cX5_cause, 1, (some (.int)))
def tX5_cause : List (Nat × Instr × Nat) := [(0, .aload_n 0, 1), (1, .getfield 23, 3), (4, .ireturn, 1)]
theorem dX5_cause : ∀ q ∈ tX5_cause, decode cX5_cause q.1 = .ok q.2 := by decide +kernel
theorem oX5_cause : MOk mX5_cause 0 := ⟨Gw_t1 1 rfl rfl, Gw_t3 48 rfl rfl, ⟨by decide +kernel, by decide +kernel⟩, by decide +kernel, by decide +kernel⟩
theorem iX5_cause : MIn mX5_cause := ⟨Gw_t3 46 rfl rfl, Gw_t3 47 rfl rfl⟩
abbrev cX5_count : ByteArray := prog_1_method_25_code
def yX5_count : MethodName := ⟨RX5, "count", "(I)I"⟩
def mX5_count : MI := (yX5_count, cX5_count, 2, (some (.int)))
def tX5_count : List (Nat × Instr × Nat) := [(0, .iload_n 1, 1), (1, .tableswitch 72 0 3 #[31, 42, 53, 64], 31), (32, .aload_n 0, 1), (33, .getfield 19, 3), (36, .getfield 52, 3), (39, .getfield 60, 3), (42, .ireturn, 1), (43, .aload_n 0, 1), (44, .getfield 19, 3), (47, .getfield 52, 3), (50, .getfield 91, 3), (53, .ireturn, 1), (54, .aload_n 0, 1), (55, .getfield 19, 3), (58, .getfield 104, 3), (61, .getfield 108, 3), (64, .ireturn, 1), (65, .aload_n 0, 1), (66, .getfield 12, 3), (69, .getfield 46, 3), (72, .ireturn, 1), (73, .bipush (-102), 2), (75, .ireturn, 1)]
theorem dX5_count : ∀ q ∈ tX5_count, decode cX5_count q.1 = .ok q.2 := by decide +kernel
theorem oX5_count : MOk mX5_count 1 := ⟨Gw_t1 1 rfl rfl, Gw_t3 52 rfl rfl, ⟨by decide +kernel, by decide +kernel⟩, by decide +kernel, by decide +kernel⟩
theorem iX5_count : MIn mX5_count := ⟨Gw_t3 50 rfl rfl, Gw_t3 51 rfl rfl⟩
abbrev cX5_digest : ByteArray := prog_1_method_26_code
def yX5_digest : MethodName := ⟨RX5, "digest", "()J"⟩
def mX5_digest : MI := (yX5_digest, cX5_digest, 5, (some (.long)))
def tX5_digest : List (Nat × Instr × Nat) := [(0, .aload_n 0, 1), (1, .getfield 19, 3), (4, .getfield 52, 3), (7, .astore_n 1, 1), (8, .aload_n 1, 1), (9, .ldc2_w 209, 3), (12, .invokevirtual 211, 3), (15, .lstore_n 2, 1), (16, .aload_n 1, 1), (17, .lload_n 2, 1), (18, .invokevirtual 215, 3), (21, .lstore_n 2, 1), (22, .aload_n 0, 1), (23, .getfield 19, 3), (26, .getfield 104, 3), (29, .lload_n 2, 1), (30, .invokevirtual 218, 3), (33, .lstore_n 2, 1), (34, .lload_n 2, 1), (35, .aload_n 0, 1), (36, .getfield 19, 3), (39, .invokevirtual 113, 3), (42, .invokestatic 221, 3), (45, .lstore_n 2, 1), (46, .aload_n 0, 1), (47, .getfield 19, 3), (50, .iconst 2, 1), (51, .invokevirtual 129, 3), (54, .astore 4, 2), (56, .aload 4, 2), (58, .ifnonnull 7, 3), (61, .lload_n 2, 1), (62, .goto 9, 3), (65, .aload 4, 2), (67, .lload_n 2, 1), (68, .invokevirtual 211, 3), (71, .lreturn, 1)]
theorem dX5_digest : ∀ q ∈ tX5_digest, decode cX5_digest q.1 = .ok q.2 := by decide +kernel
theorem oX5_digest : MOk mX5_digest 0 := ⟨Gw_t1 1 rfl rfl, Gw_t3 56 rfl rfl, ⟨by decide +kernel, by decide +kernel⟩, by decide +kernel, by decide +kernel⟩
theorem iX5_digest : MIn mX5_digest := ⟨Gw_t3 54 rfl rfl, Gw_t3 55 rfl rfl⟩
abbrev cX5_fail : ByteArray := prog_1_method_27_code
def yX5_fail : MethodName := ⟨RX5, "fail", "(I)I"⟩
def mX5_fail : MI := (yX5_fail, cX5_fail, 2, (some (.int)))
def tX5_fail : List (Nat × Instr × Nat) := [(0, .aload_n 0, 1), (1, .iload_n 1, 1), (2, .putfield 23, 3), (5, .bipush (-10), 2), (7, .iload_n 1, 1), (8, .isub, 1), (9, .ireturn, 1)]
theorem dX5_fail : ∀ q ∈ tX5_fail, decode cX5_fail q.1 = .ok q.2 := by decide +kernel
theorem oX5_fail : MOk mX5_fail 1 := ⟨Gw_t1 1 rfl rfl, Gw_t1 186 rfl rfl, ⟨by decide +kernel, by decide +kernel⟩, by decide +kernel, by decide +kernel⟩
theorem iX5_fail : MIn mX5_fail := ⟨Gw_t1 185 rfl rfl, Gw_sel 0 rfl rfl⟩
abbrev cX5_isLane : ByteArray := prog_1_method_28_code
def yX5_isLane : MethodName := ⟨RX5, "isLane", "(I)Z"⟩
def mX5_isLane : MI := (yX5_isLane, cX5_isLane, 1, (some (.boolean)))
def tX5_isLane : List (Nat × Instr × Nat) := [(0, .iload_n 0, 1), (1, .ifCond .lt 12, 3), (4, .iload_n 0, 1), (5, .iconst 3, 1), (6, .if_icmp .ge 7, 3), (9, .iconst 1, 1), (10, .goto 4, 3), (13, .iconst 0, 1), (14, .ireturn, 1)]
theorem dX5_isLane : ∀ q ∈ tX5_isLane, decode cX5_isLane q.1 = .ok q.2 := by decide +kernel
theorem oX5_isLane : MOk mX5_isLane 1 := ⟨Gw_t1 1 rfl rfl, Gw_t1 182 rfl rfl, ⟨by decide +kernel, by decide +kernel⟩, by decide +kernel, by decide +kernel⟩
theorem sX5_isLane : MSt mX5_isLane := Gw_t1 181 rfl rfl
abbrev cX5_isAxis : ByteArray := prog_1_method_29_code
def yX5_isAxis : MethodName := ⟨RX5, "isAxis", "(I)Z"⟩
def mX5_isAxis : MI := (yX5_isAxis, cX5_isAxis, 1, (some (.boolean)))
def tX5_isAxis : List (Nat × Instr × Nat) := [(0, .iload_n 0, 1), (1, .ifCond .lt 12, 3), (4, .iload_n 0, 1), (5, .iconst 3, 1), (6, .if_icmp .ge 7, 3), (9, .iconst 1, 1), (10, .goto 4, 3), (13, .iconst 0, 1), (14, .ireturn, 1)]
theorem dX5_isAxis : ∀ q ∈ tX5_isAxis, decode cX5_isAxis q.1 = .ok q.2 := by decide +kernel
theorem oX5_isAxis : MOk mX5_isAxis 1 := ⟨Gw_t1 1 rfl rfl, Gw_t1 233 rfl rfl, ⟨by decide +kernel, by decide +kernel⟩, by decide +kernel, by decide +kernel⟩
theorem sX5_isAxis : MSt mX5_isAxis := Gw_t1 232 rfl rfl
abbrev cX5_isSide : ByteArray := prog_1_method_30_code
def yX5_isSide : MethodName := ⟨RX5, "isSide", "(I)Z"⟩
def mX5_isSide : MI := (yX5_isSide, cX5_isSide, 1, (some (.boolean)))
def tX5_isSide : List (Nat × Instr × Nat) := [(0, .iload_n 0, 1), (1, .ifCond .eq 8, 3), (4, .iload_n 0, 1), (5, .iconst 1, 1), (6, .if_icmp .ne 7, 3), (9, .iconst 1, 1), (10, .goto 4, 3), (13, .iconst 0, 1), (14, .ireturn, 1)]
theorem dX5_isSide : ∀ q ∈ tX5_isSide, decode cX5_isSide q.1 = .ok q.2 := by decide +kernel
theorem oX5_isSide : MOk mX5_isSide 1 := ⟨Gw_t1 1 rfl rfl, Gw_t2 170 rfl rfl, ⟨by decide +kernel, by decide +kernel⟩, by decide +kernel, by decide +kernel⟩
theorem sX5_isSide : MSt mX5_isSide := Gw_t2 169 rfl rfl
abbrev cX5_isLevel : ByteArray := prog_1_method_31_code
def yX5_isLevel : MethodName := ⟨RX5, "isLevel", "(I)Z"⟩
def mX5_isLevel : MI := (yX5_isLevel, cX5_isLevel, 1, (some (.boolean)))
def tX5_isLevel : List (Nat × Instr × Nat) := [(0, .iload_n 0, 1), (1, .ifCond .lt 12, 3), (4, .iload_n 0, 1), (5, .iconst 4, 1), (6, .if_icmp .ge 7, 3), (9, .iconst 1, 1), (10, .goto 4, 3), (13, .iconst 0, 1), (14, .ireturn, 1)]
theorem dX5_isLevel : ∀ q ∈ tX5_isLevel, decode cX5_isLevel q.1 = .ok q.2 := by decide +kernel
theorem oX5_isLevel : MOk mX5_isLevel 1 := ⟨Gw_t1 1 rfl rfl, Gw_t2 107 rfl rfl, ⟨by decide +kernel, by decide +kernel⟩, by decide +kernel, by decide +kernel⟩
theorem sX5_isLevel : MSt mX5_isLevel := Gw_t2 106 rfl rfl
abbrev cX5_isMovable : ByteArray := prog_1_method_32_code
def yX5_isMovable : MethodName := ⟨RX5, "isMovable", "(II)Z"⟩
def mX5_isMovable : MI := (yX5_isMovable, cX5_isMovable, 2, (some (.boolean)))
def tX5_isMovable : List (Nat × Instr × Nat) := [(0, .iload_n 0, 1), (1, .iconst 1, 1), (2, .if_icmp .lt 23, 3), (5, .iload_n 0, 1), (6, .iconst 4, 1), (7, .if_icmp .ge 18, 3), (10, .iload_n 1, 1), (11, .ifCond .lt 14, 3), (14, .iload_n 1, 1), (15, .sipush 1000, 3), (18, .if_icmp .gt 7, 3), (21, .iconst 1, 1), (22, .goto 4, 3), (25, .iconst 0, 1), (26, .ireturn, 1)]
theorem dX5_isMovable : ∀ q ∈ tX5_isMovable, decode cX5_isMovable q.1 = .ok q.2 := by decide +kernel
theorem oX5_isMovable : MOk mX5_isMovable 2 := ⟨Gw_t1 1 rfl rfl, Gw_t3 15 rfl rfl, ⟨by decide +kernel, by decide +kernel⟩, by decide +kernel, by decide +kernel⟩
theorem sX5_isMovable : MSt mX5_isMovable := Gw_t3 14 rfl rfl
abbrev cX5_isWithin : ByteArray := prog_1_method_33_code
def yX5_isWithin : MethodName := ⟨RX5, "isWithin", "(II)Z"⟩
def mX5_isWithin : MI := (yX5_isWithin, cX5_isWithin, 2, (some (.boolean)))
def tX5_isWithin : List (Nat × Instr × Nat) := [(0, .iload_n 0, 1), (1, .iload_n 1, 1), (2, .ineg, 1), (3, .if_icmp .lt 12, 3), (6, .iload_n 0, 1), (7, .iload_n 1, 1), (8, .if_icmp .gt 7, 3), (11, .iconst 1, 1), (12, .goto 4, 3), (15, .iconst 0, 1), (16, .ireturn, 1)]
theorem dX5_isWithin : ∀ q ∈ tX5_isWithin, decode cX5_isWithin q.1 = .ok q.2 := by decide +kernel
theorem oX5_isWithin : MOk mX5_isWithin 2 := ⟨Gw_t1 1 rfl rfl, Gw_t1 236 rfl rfl, ⟨by decide +kernel, by decide +kernel⟩, by decide +kernel, by decide +kernel⟩
theorem sX5_isWithin : MSt mX5_isWithin := Gw_t1 235 rfl rfl
abbrev cX5_areWithin : ByteArray := prog_1_method_34_code
def yX5_areWithin : MethodName := ⟨RX5, "areWithin", "(IIII)Z"⟩
def mX5_areWithin : MI := (yX5_areWithin, cX5_areWithin, 4, (some (.boolean)))
def tX5_areWithin : List (Nat × Instr × Nat) := [(0, .iload_n 0, 1), (1, .iload_n 3, 1), (2, .invokestatic 82, 3), (5, .ifCond .eq 23, 3), (8, .iload_n 1, 1), (9, .iload_n 3, 1), (10, .invokestatic 82, 3), (13, .ifCond .eq 15, 3), (16, .iload_n 2, 1), (17, .iload_n 3, 1), (18, .invokestatic 82, 3), (21, .ifCond .eq 7, 3), (24, .iconst 1, 1), (25, .goto 4, 3), (28, .iconst 0, 1), (29, .ireturn, 1)]
theorem dX5_areWithin : ∀ q ∈ tX5_areWithin, decode cX5_areWithin q.1 = .ok q.2 := by decide +kernel
theorem oX5_areWithin : MOk mX5_areWithin 4 := ⟨Gw_t1 1 rfl rfl, Gw_t3 0 rfl rfl, ⟨by decide +kernel, by decide +kernel⟩, by decide +kernel, by decide +kernel⟩
theorem sX5_areWithin : MSt mX5_areWithin := Gw_t2 239 rfl rfl
abbrev cX5_mix : ByteArray := prog_1_method_35_code
def yX5_mix : MethodName := ⟨RX5, "mix", "(JI)J"⟩
def mX5_mix : MI := (yX5_mix, cX5_mix, 3, (some (.long)))
def tX5_mix : List (Nat × Instr × Nat) := [(0, .ldc2_w 225, 3), (3, .lload_n 0, 1), (4, .lmul, 1), (5, .iload_n 2, 1), (6, .i2l, 1), (7, .ladd, 1), (8, .lreturn, 1)]
theorem dX5_mix : ∀ q ∈ tX5_mix, decode cX5_mix q.1 = .ok q.2 := by decide +kernel
theorem oX5_mix : MOk mX5_mix 2 := ⟨Gw_t1 1 rfl rfl, Gw_t3 64 rfl rfl, ⟨by decide +kernel, by decide +kernel⟩, by decide +kernel, by decide +kernel⟩
theorem sX5_mix : MSt mX5_mix := Gw_t3 63 rfl rfl
abbrev cX6_init : ByteArray := prog_8_method_1_code
def yX6_init : MethodName := ⟨RX6, "<init>", "()V"⟩
def mX6_init : MI := (yX6_init, cX6_init, 1, none)
def tX6_init : List (Nat × Instr × Nat) := [(0, .aload_n 0, 1), (1, .invokespecial 1, 3), (4, .aload_n 0, 1), (5, .bipush 8, 2), (7, .newarray .int, 2), (9, .putfield 7, 3), (12, .aload_n 0, 1), (13, .iconst 4, 1), (14, .newarray .int, 2), (16, .putfield 13, 3), (19, .aload_n 0, 1), (20, .iconst 4, 1), (21, .newarray .int, 2), (23, .putfield 16, 3), (26, .aload_n 0, 1), (27, .iconst 4, 1), (28, .newarray .int, 2), (30, .putfield 19, 3), (33, .aload_n 0, 1), (34, .sipush 2400, 3), (37, .newarray .int, 2), (39, .putfield 22, 3), (42, .aload_n 0, 1), (43, .sipush 640, 3), (46, .newarray .int, 2), (48, .putfield 25, 3), (51, .aload_n 0, 1), (52, .sipush 640, 3), (55, .newarray .int, 2), (57, .putfield 28, 3), (60, .aload_n 0, 1), (61, .sipush 2800, 3), (64, .newarray .int, 2), (66, .putfield 31, 3), (69, .aload_n 0, 1), (70, .sipush 1400, 3), (73, .newarray .int, 2), (75, .putfield 34, 3), (78, .aload_n 0, 1), (79, .sipush 1400, 3), (82, .newarray .int, 2), (84, .putfield 37, 3), (87, .aload_n 0, 1), (88, .bipush 40, 2), (90, .newarray .int, 2), (92, .putfield 40, 3), (95, .aload_n 0, 1), (96, .bipush 120, 2), (98, .newarray .int, 2), (100, .putfield 43, 3), (103, .aload_n 0, 1), (104, .iconst (-1), 1), (105, .putfield 46, 3), (108, .aload_n 0, 1), (109, .iconst 1, 1), (110, .putfield 50, 3), (113, .return_, 1)]
theorem dX6_init : ∀ q ∈ tX6_init, decode cX6_init q.1 = .ok q.2 := by decide +kernel
theorem oX6_init : MOk mX6_init 0 := ⟨Gw_t1 7 rfl rfl, Gw_t3 80 rfl rfl, ⟨by decide +kernel, by decide +kernel⟩, by decide +kernel, by decide +kernel⟩
abbrev cX6_in : ByteArray := prog_8_method_2_code
def yX6_in : MethodName := ⟨RX6, "in", "(JJJ)Z"⟩
def mX6_in : MI := (yX6_in, cX6_in, 6, (some (.boolean)))
def tX6_in : List (Nat × Instr × Nat) := [(0, .lload_n 0, 1), (1, .lload_n 2, 1), (2, .lcmp, 1), (3, .ifCond .lt 14, 3), (6, .lload_n 0, 1), (7, .lload 4, 2), (9, .lcmp, 1), (10, .ifCond .gt 7, 3), (13, .iconst 1, 1), (14, .goto 4, 3), (17, .iconst 0, 1), (18, .ireturn, 1)]
theorem dX6_in : ∀ q ∈ tX6_in, decode cX6_in q.1 = .ok q.2 := by decide +kernel
theorem oX6_in : MOk mX6_in 3 := ⟨Gw_t1 7 rfl rfl, Gw_t3 153 rfl rfl, ⟨by decide +kernel, by decide +kernel⟩, by decide +kernel, by decide +kernel⟩
theorem sX6_in : MSt mX6_in := Gw_t3 152 rfl rfl
abbrev cX6_meets : ByteArray := prog_8_method_3_code
def yX6_meets : MethodName := ⟨RX6, "meets", "(I)I"⟩
def mX6_meets : MI := (yX6_meets, cX6_meets, 2, (some (.int)))
def tX6_meets : List (Nat × Instr × Nat) := [(0, .aload_n 0, 1), (1, .iload_n 1, 1), (2, .putfield 54, 3), (5, .bipush (-10), 2), (7, .iload_n 1, 1), (8, .isub, 1), (9, .ireturn, 1)]
theorem dX6_meets : ∀ q ∈ tX6_meets, decode cX6_meets q.1 = .ok q.2 := by decide +kernel
theorem oX6_meets : MOk mX6_meets 1 := ⟨Gw_t1 7 rfl rfl, Gw_t3 157 rfl rfl, ⟨by decide +kernel, by decide +kernel⟩, by decide +kernel, by decide +kernel⟩
theorem iX6_meets : MIn mX6_meets := ⟨Gw_t3 156 rfl rfl, Gw_sel 1 rfl rfl⟩
abbrev cX6_row : ByteArray := prog_8_method_4_code
def yX6_row : MethodName := ⟨RX6, "row", "(II)I"⟩
def mX6_row : MI := (yX6_row, cX6_row, 4, (some (.int)))
def tX6_row : List (Nat × Instr × Nat) := [(0, .iload_n 1, 1), (1, .i2l, 1), (2, .lconst 0, 1), (3, .ldc2_w 57, 3), (6, .invokestatic 59, 3), (9, .ifCond .eq 9, 3), (12, .iload_n 2, 1), (13, .bipush 8, 2), (15, .if_icmp .le 6, 3), (18, .bipush (-102), 2), (20, .ireturn, 1), (21, .iload_n 2, 1), (22, .ifCond .ge 9, 3), (25, .aload_n 0, 1), (26, .iconst 3, 1), (27, .invokevirtual 63, 3), (30, .ireturn, 1), (31, .aload_n 0, 1), (32, .iload_n 1, 1), (33, .putfield 46, 3), (36, .aload_n 0, 1), (37, .iload_n 2, 1), (38, .putfield 67, 3), (41, .iconst 0, 1), (42, .istore_n 3, 1), (43, .iload_n 3, 1), (44, .bipush 8, 2), (46, .if_icmp .ge 16, 3), (49, .aload_n 0, 1), (50, .getfield 7, 3), (53, .iload_n 3, 1), (54, .iconst 0, 1), (55, .iastore, 1), (56, .iinc 3 1, 3), (59, .goto (-16), 3), (62, .iload_n 2, 1), (63, .ireturn, 1)]
theorem dX6_row : ∀ q ∈ tX6_row, decode cX6_row q.1 = .ok q.2 := by decide +kernel
theorem oX6_row : MOk mX6_row 2 := ⟨Gw_t1 7 rfl rfl, Gw_t3 149 rfl rfl, ⟨by decide +kernel, by decide +kernel⟩, by decide +kernel, by decide +kernel⟩
theorem iX6_row : MIn mX6_row := ⟨Gw_t3 147 rfl rfl, Gw_t3 148 rfl rfl⟩
abbrev cX6_put : ByteArray := prog_8_method_5_code
def yX6_put : MethodName := ⟨RX6, "put", "(III)I"⟩
def mX6_put : MI := (yX6_put, cX6_put, 4, (some (.int)))
def tX6_put : List (Nat × Instr × Nat) := [(0, .iload_n 1, 1), (1, .i2l, 1), (2, .lconst 0, 1), (3, .ldc2_w 57, 3), (6, .invokestatic 59, 3), (9, .ifCond .ne 6, 3), (12, .bipush (-102), 2), (14, .ireturn, 1), (15, .aload_n 0, 1), (16, .getfield 46, 3), (19, .iconst (-1), 1), (20, .if_icmp .ne 9, 3), (23, .aload_n 0, 1), (24, .iconst 1, 1), (25, .invokevirtual 63, 3), (28, .ireturn, 1), (29, .aload_n 0, 1), (30, .getfield 46, 3), (33, .iload_n 1, 1), (34, .if_icmp .eq 9, 3), (37, .aload_n 0, 1), (38, .iconst 4, 1), (39, .invokevirtual 63, 3), (42, .ireturn, 1), (43, .iload_n 2, 1), (44, .i2l, 1), (45, .lconst 0, 1), (46, .aload_n 0, 1), (47, .getfield 67, 3), (50, .iconst 1, 1), (51, .isub, 1), (52, .i2l, 1), (53, .invokestatic 59, 3), (56, .ifCond .ne 9, 3), (59, .aload_n 0, 1), (60, .iconst 2, 1), (61, .invokevirtual 63, 3), (64, .ireturn, 1), (65, .aload_n 0, 1), (66, .getfield 7, 3), (69, .iload_n 2, 1), (70, .iload_n 1, 1), (71, .ifCond .ne 8, 3), (74, .iload_n 3, 1), (75, .i2b, 1), (76, .goto 14, 3), (79, .iload_n 1, 1), (80, .iconst 1, 1), (81, .if_icmp .ne 8, 3), (84, .iload_n 3, 1), (85, .i2s, 1), (86, .goto 4, 3), (89, .iload_n 3, 1), (90, .iastore, 1), (91, .iconst 1, 1), (92, .ireturn, 1)]
theorem dX6_put : ∀ q ∈ tX6_put, decode cX6_put q.1 = .ok q.2 := by decide +kernel
theorem oX6_put : MOk mX6_put 3 := ⟨Gw_t1 7 rfl rfl, Gw_t3 161 rfl rfl, ⟨by decide +kernel, by decide +kernel⟩, by decide +kernel, by decide +kernel⟩
theorem iX6_put : MIn mX6_put := ⟨Gw_t3 159 rfl rfl, Gw_t3 160 rfl rfl⟩
abbrev cX6_lose : ByteArray := prog_8_method_6_code
def yX6_lose : MethodName := ⟨RX6, "lose", "()I"⟩
def mX6_lose : MI := (yX6_lose, cX6_lose, 1, (some (.int)))
def tX6_lose : List (Nat × Instr × Nat) := [(0, .aload_n 0, 1), (1, .getfield 46, 3), (4, .iconst (-1), 1), (5, .if_icmp .ne 9, 3), (8, .aload_n 0, 1), (9, .iconst 1, 1), (10, .invokevirtual 63, 3), (13, .ireturn, 1), (14, .aload_n 0, 1), (15, .iconst (-1), 1), (16, .putfield 46, 3), (19, .iconst 1, 1), (20, .ireturn, 1)]
theorem dX6_lose : ∀ q ∈ tX6_lose, decode cX6_lose q.1 = .ok q.2 := by decide +kernel
theorem oX6_lose : MOk mX6_lose 0 := ⟨Gw_t1 7 rfl rfl, Gw_t3 165 rfl rfl, ⟨by decide +kernel, by decide +kernel⟩, by decide +kernel, by decide +kernel⟩
theorem iX6_lose : MIn mX6_lose := ⟨Gw_t3 163 rfl rfl, Gw_t3 164 rfl rfl⟩
abbrev cX6_cornerOf : ByteArray := prog_8_method_7_code
def yX6_cornerOf : MethodName := ⟨RX6, "cornerOf", "(III)I"⟩
def mX6_cornerOf : MI := (yX6_cornerOf, cX6_cornerOf, 4, (some (.int)))
def tX6_cornerOf : List (Nat × Instr × Nat) := [(0, .aload_n 0, 1), (1, .getfield 31, 3), (4, .sipush 700, 3), (7, .iload_n 1, 1), (8, .imul, 1), (9, .aload_n 0, 1), (10, .getfield 25, 3), (13, .sipush 160, 3), (16, .iload_n 1, 1), (17, .imul, 1), (18, .iload_n 2, 1), (19, .iadd, 1), (20, .iaload, 1), (21, .iadd, 1), (22, .iload_n 3, 1), (23, .iadd, 1), (24, .iaload, 1), (25, .ireturn, 1)]
theorem dX6_cornerOf : ∀ q ∈ tX6_cornerOf, decode cX6_cornerOf q.1 = .ok q.2 := by decide +kernel
theorem oX6_cornerOf : MOk mX6_cornerOf 3 := ⟨Gw_t1 7 rfl rfl, Gw_t3 217 rfl rfl, ⟨by decide +kernel, by decide +kernel⟩, by decide +kernel, by decide +kernel⟩
theorem iX6_cornerOf : MIn mX6_cornerOf := ⟨Gw_t3 216 rfl rfl, Gw_sel 6 rfl rfl⟩
abbrev cX6_sizeOf : ByteArray := prog_8_method_8_code
def yX6_sizeOf : MethodName := ⟨RX6, "sizeOf", "(II)I"⟩
def mX6_sizeOf : MI := (yX6_sizeOf, cX6_sizeOf, 3, (some (.int)))
def tX6_sizeOf : List (Nat × Instr × Nat) := [(0, .aload_n 0, 1), (1, .getfield 28, 3), (4, .sipush 160, 3), (7, .iload_n 1, 1), (8, .imul, 1), (9, .iload_n 2, 1), (10, .iadd, 1), (11, .iaload, 1), (12, .ireturn, 1)]
theorem dX6_sizeOf : ∀ q ∈ tX6_sizeOf, decode cX6_sizeOf q.1 = .ok q.2 := by decide +kernel
theorem oX6_sizeOf : MOk mX6_sizeOf 2 := ⟨Gw_t1 7 rfl rfl, Gw_t3 213 rfl rfl, ⟨by decide +kernel, by decide +kernel⟩, by decide +kernel, by decide +kernel⟩
theorem iX6_sizeOf : MIn mX6_sizeOf := ⟨Gw_t3 212 rfl rfl, Gw_sel 5 rfl rfl⟩
abbrev cX6_next : ByteArray := prog_8_method_9_code
def yX6_next : MethodName := ⟨RX6, "next", "(III)I"⟩
def mX6_next : MI := (yX6_next, cX6_next, 4, (some (.int)))
def tX6_next : List (Nat × Instr × Nat) := [(0, .aload_n 0, 1), (1, .iload_n 1, 1), (2, .iload_n 2, 1), (3, .iload_n 3, 1), (4, .iconst 1, 1), (5, .iadd, 1), (6, .aload_n 0, 1), (7, .iload_n 1, 1), (8, .iload_n 2, 1), (9, .invokevirtual 70, 3), (12, .irem, 1), (13, .invokevirtual 74, 3), (16, .ireturn, 1)]
theorem dX6_next : ∀ q ∈ tX6_next, decode cX6_next q.1 = .ok q.2 := by decide +kernel
theorem oX6_next : MOk mX6_next 3 := ⟨Gw_t1 7 rfl rfl, Gw_t3 221 rfl rfl, ⟨by decide +kernel, by decide +kernel⟩, by decide +kernel, by decide +kernel⟩
theorem iX6_next : MIn mX6_next := ⟨Gw_t3 220 rfl rfl, Gw_sel 7 rfl rfl⟩
abbrev cX6_corner : ByteArray := prog_8_method_10_code
def yX6_corner : MethodName := ⟨RX6, "corner", "()I"⟩
def mX6_corner : MI := (yX6_corner, cX6_corner, 2, (some (.int)))
def tX6_corner : List (Nat × Instr × Nat) := [(0, .aload_n 0, 1), (1, .getfield 46, 3), (4, .iconst (-1), 1), (5, .if_icmp .ne 9, 3), (8, .aload_n 0, 1), (9, .iconst 1, 1), (10, .invokevirtual 63, 3), (13, .ireturn, 1), (14, .aload_n 0, 1), (15, .getfield 67, 3), (18, .iconst 3, 1), (19, .if_icmp .ge 9, 3), (22, .aload_n 0, 1), (23, .iconst 2, 1), (24, .invokevirtual 63, 3), (27, .ireturn, 1), (28, .iconst 0, 1), (29, .istore_n 1, 1), (30, .iload_n 1, 1), (31, .iconst 3, 1), (32, .if_icmp .ge 31, 3), (35, .aload_n 0, 1), (36, .getfield 7, 3), (39, .iload_n 1, 1), (40, .iaload, 1), (41, .i2l, 1), (42, .ldc2_w 78, 3), (45, .ldc2_w 80, 3), (48, .invokestatic 59, 3), (51, .ifCond .ne 6, 3), (54, .bipush (-102), 2), (56, .ireturn, 1), (57, .iinc 1 1, 3), (60, .goto (-30), 3), (63, .aload_n 0, 1), (64, .getfield 13, 3), (67, .iconst 0, 1), (68, .iaload, 1), (69, .bipush 14, 2), (71, .if_icmp .ne 6, 3), (74, .bipush (-104), 2), (76, .ireturn, 1), (77, .iconst 0, 1), (78, .istore_n 1, 1), (79, .iload_n 1, 1), (80, .iconst 3, 1), (81, .if_icmp .ge 30, 3), (84, .aload_n 0, 1), (85, .getfield 22, 3), (88, .iconst 3, 1), (89, .aload_n 0, 1), (90, .getfield 13, 3), (93, .iconst 0, 1), (94, .iaload, 1), (95, .imul, 1), (96, .iload_n 1, 1), (97, .iadd, 1), (98, .aload_n 0, 1), (99, .getfield 7, 3), (102, .iload_n 1, 1), (103, .iaload, 1), (104, .iastore, 1), (105, .iinc 1 1, 3), (108, .goto (-29), 3), (111, .aload_n 0, 1), (112, .getfield 13, 3), (115, .iconst 0, 1), (116, .dup2, 1), (117, .iaload, 1), (118, .iconst 1, 1), (119, .iadd, 1), (120, .iastore, 1), (121, .aload_n 0, 1), (122, .iconst 1, 1), (123, .putfield 50, 3), (126, .aload_n 0, 1), (127, .getfield 13, 3), (130, .iconst 0, 1), (131, .iaload, 1), (132, .iconst 1, 1), (133, .isub, 1), (134, .ireturn, 1)]
theorem dX6_corner : ∀ q ∈ tX6_corner, decode cX6_corner q.1 = .ok q.2 := by decide +kernel
theorem oX6_corner : MOk mX6_corner 0 := ⟨Gw_t1 7 rfl rfl, Gw_t3 169 rfl rfl, ⟨by decide +kernel, by decide +kernel⟩, by decide +kernel, by decide +kernel⟩
theorem iX6_corner : MIn mX6_corner := ⟨Gw_t3 167 rfl rfl, Gw_t3 168 rfl rfl⟩
abbrev cX6_place : ByteArray := prog_8_method_11_code
def yX6_place : MethodName := ⟨RX6, "place", "(III)I"⟩
def mX6_place : MI := (yX6_place, cX6_place, 5, (some (.int)))
def tX6_place : List (Nat × Instr × Nat) := [(0, .iload_n 1, 1), (1, .i2l, 1), (2, .lconst 0, 1), (3, .aload_n 0, 1), (4, .getfield 13, 3), (7, .iconst 0, 1), (8, .iaload, 1), (9, .iconst 1, 1), (10, .isub, 1), (11, .i2l, 1), (12, .invokestatic 59, 3), (15, .ifCond .eq 15, 3), (18, .iload_n 2, 1), (19, .i2l, 1), (20, .lconst 0, 1), (21, .ldc2_w 57, 3), (24, .invokestatic 59, 3), (27, .ifCond .ne 6, 3), (30, .bipush (-101), 2), (32, .ireturn, 1), (33, .iload_n 3, 1), (34, .i2l, 1), (35, .ldc2_w 78, 3), (38, .ldc2_w 80, 3), (41, .invokestatic 59, 3), (44, .ifCond .ne 6, 3), (47, .bipush (-102), 2), (49, .ireturn, 1), (50, .aload_n 0, 1), (51, .getfield 22, 3), (54, .iconst 3, 1), (55, .iload_n 1, 1), (56, .imul, 1), (57, .iload_n 2, 1), (58, .iadd, 1), (59, .iaload, 1), (60, .istore 4, 2), (62, .aload_n 0, 1), (63, .getfield 22, 3), (66, .iconst 3, 1), (67, .iload_n 1, 1), (68, .imul, 1), (69, .iload_n 2, 1), (70, .iadd, 1), (71, .iload_n 3, 1), (72, .iastore, 1), (73, .aload_n 0, 1), (74, .iconst 1, 1), (75, .putfield 50, 3), (78, .iload 4, 2), (80, .ireturn, 1)]
theorem dX6_place : ∀ q ∈ tX6_place, decode cX6_place q.1 = .ok q.2 := by decide +kernel
theorem oX6_place : MOk mX6_place 3 := ⟨Gw_t1 7 rfl rfl, Gw_t3 175 rfl rfl, ⟨by decide +kernel, by decide +kernel⟩, by decide +kernel, by decide +kernel⟩
theorem iX6_place : MIn mX6_place := ⟨Gw_t3 173 rfl rfl, Gw_t3 174 rfl rfl⟩
abbrev cX6_face : ByteArray := prog_8_method_12_code
def yX6_face : MethodName := ⟨RX6, "face", "(I)I"⟩
def mX6_face : MI := (yX6_face, cX6_face, 4, (some (.int)))
def tX6_face : List (Nat × Instr × Nat) := [(0, .iload_n 1, 1), (1, .i2l, 1), (2, .ldc2_w 82, 3), (5, .ldc2_w 84, 3), (8, .invokestatic 59, 3), (11, .ifCond .ne 6, 3), (14, .bipush (-102), 2), (16, .ireturn, 1), (17, .aload_n 0, 1), (18, .getfield 46, 3), (21, .iconst (-1), 1), (22, .if_icmp .ne 9, 3), (25, .aload_n 0, 1), (26, .iconst 1, 1), (27, .invokevirtual 63, 3), (30, .ireturn, 1), (31, .aload_n 0, 1), (32, .getfield 67, 3), (35, .iload_n 1, 1), (36, .if_icmp .ge 9, 3), (39, .aload_n 0, 1), (40, .iconst 2, 1), (41, .invokevirtual 63, 3), (44, .ireturn, 1), (45, .iconst 0, 1), (46, .istore_n 2, 1), (47, .iload_n 2, 1), (48, .iload_n 1, 1), (49, .if_icmp .ge 35, 3), (52, .aload_n 0, 1), (53, .getfield 7, 3), (56, .iload_n 2, 1), (57, .iaload, 1), (58, .i2l, 1), (59, .lconst 0, 1), (60, .aload_n 0, 1), (61, .getfield 13, 3), (64, .iconst 0, 1), (65, .iaload, 1), (66, .iconst 1, 1), (67, .isub, 1), (68, .i2l, 1), (69, .invokestatic 59, 3), (72, .ifCond .ne 6, 3), (75, .bipush (-101), 2), (77, .ireturn, 1), (78, .iinc 2 1, 3), (81, .goto (-34), 3), (84, .aload_n 0, 1), (85, .getfield 16, 3), (88, .iconst 0, 1), (89, .iaload, 1), (90, .bipush 14, 2), (92, .if_icmp .ne 6, 3), (95, .bipush (-104), 2), (97, .ireturn, 1), (98, .aload_n 0, 1), (99, .getfield 16, 3), (102, .iconst 0, 1), (103, .iaload, 1), (104, .istore_n 2, 1), (105, .aload_n 0, 1), (106, .getfield 25, 3), (109, .iload_n 2, 1), (110, .iload_n 2, 1), (111, .ifCond .ne 7, 3), (114, .iconst 0, 1), (115, .goto 20, 3), (118, .aload_n 0, 1), (119, .getfield 25, 3), (122, .iload_n 2, 1), (123, .iconst 1, 1), (124, .isub, 1), (125, .iaload, 1), (126, .aload_n 0, 1), (127, .getfield 28, 3), (130, .iload_n 2, 1), (131, .iconst 1, 1), (132, .isub, 1), (133, .iaload, 1), (134, .iadd, 1), (135, .iastore, 1), (136, .aload_n 0, 1), (137, .getfield 28, 3), (140, .iload_n 2, 1), (141, .iload_n 1, 1), (142, .iastore, 1), (143, .iconst 0, 1), (144, .istore_n 3, 1), (145, .iload_n 3, 1), (146, .iload_n 1, 1), (147, .if_icmp .ge 28, 3), (150, .aload_n 0, 1), (151, .getfield 31, 3), (154, .aload_n 0, 1), (155, .getfield 25, 3), (158, .iload_n 2, 1), (159, .iaload, 1), (160, .iload_n 3, 1), (161, .iadd, 1), (162, .aload_n 0, 1), (163, .getfield 7, 3), (166, .iload_n 3, 1), (167, .iaload, 1), (168, .iastore, 1), (169, .iinc 3 1, 3), (172, .goto (-27), 3), (175, .aload_n 0, 1), (176, .getfield 16, 3), (179, .iconst 0, 1), (180, .dup2, 1), (181, .iaload, 1), (182, .iconst 1, 1), (183, .iadd, 1), (184, .iastore, 1), (185, .aload_n 0, 1), (186, .iconst 1, 1), (187, .putfield 50, 3), (190, .iload_n 2, 1), (191, .iconst 1, 1), (192, .iadd, 1), (193, .ireturn, 1)]
theorem dX6_face : ∀ q ∈ tX6_face, decode cX6_face q.1 = .ok q.2 := by decide +kernel
theorem oX6_face : MOk mX6_face 1 := ⟨Gw_t1 7 rfl rfl, Gw_t3 179 rfl rfl, ⟨by decide +kernel, by decide +kernel⟩, by decide +kernel, by decide +kernel⟩
theorem iX6_face : MIn mX6_face := ⟨Gw_t3 177 rfl rfl, Gw_t3 178 rfl rfl⟩
abbrev cX6_undo : ByteArray := prog_8_method_13_code
def yX6_undo : MethodName := ⟨RX6, "undo", "()I"⟩
def mX6_undo : MI := (yX6_undo, cX6_undo, 1, (some (.int)))
def tX6_undo : List (Nat × Instr × Nat) := [(0, .aload_n 0, 1), (1, .getfield 16, 3), (4, .iconst 0, 1), (5, .iaload, 1), (6, .ifCond .ne 6, 3), (9, .bipush (-103), 2), (11, .ireturn, 1), (12, .aload_n 0, 1), (13, .getfield 16, 3), (16, .iconst 0, 1), (17, .dup2, 1), (18, .iaload, 1), (19, .iconst 1, 1), (20, .isub, 1), (21, .iastore, 1), (22, .aload_n 0, 1), (23, .iconst 1, 1), (24, .putfield 50, 3), (27, .aload_n 0, 1), (28, .getfield 16, 3), (31, .iconst 0, 1), (32, .iaload, 1), (33, .ireturn, 1)]
theorem dX6_undo : ∀ q ∈ tX6_undo, decode cX6_undo q.1 = .ok q.2 := by decide +kernel
theorem oX6_undo : MOk mX6_undo 0 := ⟨Gw_t1 7 rfl rfl, Gw_t3 185 rfl rfl, ⟨by decide +kernel, by decide +kernel⟩, by decide +kernel, by decide +kernel⟩
theorem iX6_undo : MIn mX6_undo := ⟨Gw_t3 183 rfl rfl, Gw_t3 184 rfl rfl⟩
abbrev cX6_turn : ByteArray := prog_8_method_14_code
def yX6_turn : MethodName := ⟨RX6, "turn", "(I)I"⟩
def mX6_turn : MI := (yX6_turn, cX6_turn, 5, (some (.int)))
def tX6_turn : List (Nat × Instr × Nat) := [(0, .iload_n 1, 1), (1, .i2l, 1), (2, .lconst 0, 1), (3, .aload_n 0, 1), (4, .getfield 16, 3), (7, .iconst 0, 1), (8, .iaload, 1), (9, .iconst 1, 1), (10, .isub, 1), (11, .i2l, 1), (12, .invokestatic 59, 3), (15, .ifCond .ne 6, 3), (18, .bipush (-101), 2), (20, .ireturn, 1), (21, .aload_n 0, 1), (22, .getfield 28, 3), (25, .iload_n 1, 1), (26, .iaload, 1), (27, .istore_n 2, 1), (28, .iconst 1, 1), (29, .istore_n 3, 1), (30, .iload_n 3, 1), (31, .iload_n 2, 1), (32, .iload_n 3, 1), (33, .isub, 1), (34, .if_icmp .ge 69, 3), (37, .aload_n 0, 1), (38, .getfield 31, 3), (41, .aload_n 0, 1), (42, .getfield 25, 3), (45, .iload_n 1, 1), (46, .iaload, 1), (47, .iload_n 3, 1), (48, .iadd, 1), (49, .iaload, 1), (50, .istore 4, 2), (52, .aload_n 0, 1), (53, .getfield 31, 3), (56, .aload_n 0, 1), (57, .getfield 25, 3), (60, .iload_n 1, 1), (61, .iaload, 1), (62, .iload_n 3, 1), (63, .iadd, 1), (64, .aload_n 0, 1), (65, .getfield 31, 3), (68, .aload_n 0, 1), (69, .getfield 25, 3), (72, .iload_n 1, 1), (73, .iaload, 1), (74, .iload_n 2, 1), (75, .iadd, 1), (76, .iload_n 3, 1), (77, .isub, 1), (78, .iaload, 1), (79, .iastore, 1), (80, .aload_n 0, 1), (81, .getfield 31, 3), (84, .aload_n 0, 1), (85, .getfield 25, 3), (88, .iload_n 1, 1), (89, .iaload, 1), (90, .iload_n 2, 1), (91, .iadd, 1), (92, .iload_n 3, 1), (93, .isub, 1), (94, .iload 4, 2), (96, .iastore, 1), (97, .iinc 3 1, 3), (100, .goto (-70), 3), (103, .aload_n 0, 1), (104, .iconst 1, 1), (105, .putfield 50, 3), (108, .iconst 1, 1), (109, .ireturn, 1)]
theorem dX6_turn : ∀ q ∈ tX6_turn, decode cX6_turn q.1 = .ok q.2 := by decide +kernel
theorem oX6_turn : MOk mX6_turn 1 := ⟨Gw_t1 7 rfl rfl, Gw_t3 189 rfl rfl, ⟨by decide +kernel, by decide +kernel⟩, by decide +kernel, by decide +kernel⟩
theorem iX6_turn : MIn mX6_turn := ⟨Gw_t3 187 rfl rfl, Gw_t3 188 rfl rfl⟩
abbrev cX6_clear : ByteArray := prog_8_method_15_code
def yX6_clear : MethodName := ⟨RX6, "clear", "()I"⟩
def mX6_clear : MI := (yX6_clear, cX6_clear, 2, (some (.int)))
def tX6_clear : List (Nat × Instr × Nat) := [(0, .aload_n 0, 1), (1, .getfield 13, 3), (4, .iconst 0, 1), (5, .iaload, 1), (6, .istore_n 1, 1), (7, .aload_n 0, 1), (8, .getfield 13, 3), (11, .iconst 0, 1), (12, .iconst 0, 1), (13, .iastore, 1), (14, .aload_n 0, 1), (15, .getfield 16, 3), (18, .iconst 0, 1), (19, .iconst 0, 1), (20, .iastore, 1), (21, .aload_n 0, 1), (22, .iconst 0, 1), (23, .putfield 86, 3), (26, .aload_n 0, 1), (27, .iconst 1, 1), (28, .putfield 50, 3), (31, .iload_n 1, 1), (32, .ireturn, 1)]
theorem dX6_clear : ∀ q ∈ tX6_clear, decode cX6_clear q.1 = .ok q.2 := by decide +kernel
theorem oX6_clear : MOk mX6_clear 0 := ⟨Gw_t1 7 rfl rfl, Gw_t3 193 rfl rfl, ⟨by decide +kernel, by decide +kernel⟩, by decide +kernel, by decide +kernel⟩
theorem iX6_clear : MIn mX6_clear := ⟨Gw_t3 191 rfl rfl, Gw_t3 192 rfl rfl⟩
abbrev cX6_faceWith : ByteArray := prog_8_method_16_code
def yX6_faceWith : MethodName := ⟨RX6, "faceWith", "(IIII)I"⟩
def mX6_faceWith : MI := (yX6_faceWith, cX6_faceWith, 7, (some (.int)))
def tX6_faceWith : List (Nat × Instr × Nat) := [(0, .iconst 0, 1), (1, .istore 5, 2), (3, .iload 5, 2), (5, .iload 4, 2), (7, .if_icmp .ge 65, 3), (10, .iconst 0, 1), (11, .istore 6, 2), (13, .iload 6, 2), (15, .aload_n 0, 1), (16, .iload_n 1, 1), (17, .iload 5, 2), (19, .invokevirtual 70, 3), (22, .if_icmp .ge 44, 3), (25, .aload_n 0, 1), (26, .iload_n 1, 1), (27, .iload 5, 2), (29, .iload 6, 2), (31, .invokevirtual 74, 3), (34, .iload_n 2, 1), (35, .if_icmp .ne 25, 3), (38, .aload_n 0, 1), (39, .iload_n 1, 1), (40, .iload 5, 2), (42, .iload 6, 2), (44, .invokevirtual 89, 3), (47, .iload_n 3, 1), (48, .if_icmp .ne 12, 3), (51, .aload_n 0, 1), (52, .iload 6, 2), (54, .putfield 92, 3), (57, .iload 5, 2), (59, .ireturn, 1), (60, .iinc 6 1, 3), (63, .goto (-50), 3), (66, .iinc 5 1, 3), (69, .goto (-66), 3), (72, .iconst (-1), 1), (73, .ireturn, 1)]
theorem dX6_faceWith : ∀ q ∈ tX6_faceWith, decode cX6_faceWith q.1 = .ok q.2 := by decide +kernel
theorem oX6_faceWith : MOk mX6_faceWith 4 := ⟨Gw_t1 7 rfl rfl, Gw_t3 225 rfl rfl, ⟨by decide +kernel, by decide +kernel⟩, by decide +kernel, by decide +kernel⟩
theorem iX6_faceWith : MIn mX6_faceWith := ⟨Gw_t3 224 rfl rfl, Gw_sel 8 rfl rfl⟩
abbrev cX6_facesOf : ByteArray := prog_8_method_17_code
def yX6_facesOf : MethodName := ⟨RX6, "facesOf", "(I)I"⟩
def mX6_facesOf : MI := (yX6_facesOf, cX6_facesOf, 5, (some (.int)))
def tX6_facesOf : List (Nat × Instr × Nat) := [(0, .iconst 0, 1), (1, .istore_n 2, 1), (2, .iconst 0, 1), (3, .istore_n 3, 1), (4, .iload_n 3, 1), (5, .aload_n 0, 1), (6, .getfield 16, 3), (9, .iconst 0, 1), (10, .iaload, 1), (11, .if_icmp .ge 49, 3), (14, .iconst 0, 1), (15, .istore 4, 2), (17, .iload 4, 2), (19, .aload_n 0, 1), (20, .iconst 0, 1), (21, .iload_n 3, 1), (22, .invokevirtual 70, 3), (25, .if_icmp .ge 29, 3), (28, .iload_n 2, 1), (29, .aload_n 0, 1), (30, .iconst 0, 1), (31, .iload_n 3, 1), (32, .iload 4, 2), (34, .invokevirtual 74, 3), (37, .iload_n 1, 1), (38, .if_icmp .ne 7, 3), (41, .iconst 1, 1), (42, .goto 4, 3), (45, .iconst 0, 1), (46, .iadd, 1), (47, .istore_n 2, 1), (48, .iinc 4 1, 3), (51, .goto (-34), 3), (54, .iinc 3 1, 3), (57, .goto (-53), 3), (60, .iload_n 2, 1), (61, .ireturn, 1)]
theorem dX6_facesOf : ∀ q ∈ tX6_facesOf, decode cX6_facesOf q.1 = .ok q.2 := by decide +kernel
theorem oX6_facesOf : MOk mX6_facesOf 1 := ⟨Gw_t1 7 rfl rfl, Gw_t3 229 rfl rfl, ⟨by decide +kernel, by decide +kernel⟩, by decide +kernel, by decide +kernel⟩
theorem iX6_facesOf : MIn mX6_facesOf := ⟨Gw_t3 228 rfl rfl, Gw_sel 9 rfl rfl⟩
abbrev cX6_ringOf : ByteArray := prog_8_method_18_code
def yX6_ringOf : MethodName := ⟨RX6, "ringOf", "(I)I"⟩
def mX6_ringOf : MI := (yX6_ringOf, cX6_ringOf, 8, (some (.int)))
def tX6_ringOf : List (Nat × Instr × Nat) := [(0, .iconst 0, 1), (1, .istore_n 2, 1), (2, .iconst (-1), 1), (3, .istore_n 3, 1), (4, .iconst 0, 1), (5, .istore 4, 2), (7, .iload 4, 2), (9, .aload_n 0, 1), (10, .getfield 16, 3), (13, .iconst 0, 1), (14, .iaload, 1), (15, .if_icmp .ge 54, 3), (18, .iload_n 3, 1), (19, .iconst (-1), 1), (20, .if_icmp .ne 49, 3), (23, .iconst 0, 1), (24, .istore 5, 2), (26, .iload 5, 2), (28, .aload_n 0, 1), (29, .iconst 0, 1), (30, .iload 4, 2), (32, .invokevirtual 70, 3), (35, .if_icmp .ge 28, 3), (38, .aload_n 0, 1), (39, .iconst 0, 1), (40, .iload 4, 2), (42, .iload 5, 2), (44, .invokevirtual 74, 3), (47, .iload_n 1, 1), (48, .if_icmp .ne 9, 3), (51, .iload 4, 2), (53, .istore_n 2, 1), (54, .iload 5, 2), (56, .istore_n 3, 1), (57, .iinc 5 1, 3), (60, .goto (-34), 3), (63, .iinc 4 1, 3), (66, .goto (-59), 3), (69, .iconst 0, 1), (70, .istore 4, 2), (72, .iload_n 2, 1), (73, .istore 5, 2), (75, .iload_n 3, 1), (76, .istore 6, 2), (78, .iinc 4 1, 3), (81, .aload_n 0, 1), (82, .iconst 0, 1), (83, .iload 5, 2), (85, .iload 6, 2), (87, .aload_n 0, 1), (88, .iconst 0, 1), (89, .iload 5, 2), (91, .invokevirtual 70, 3), (94, .iadd, 1), (95, .iconst 1, 1), (96, .isub, 1), (97, .aload_n 0, 1), (98, .iconst 0, 1), (99, .iload 5, 2), (101, .invokevirtual 70, 3), (104, .irem, 1), (105, .invokevirtual 74, 3), (108, .istore 7, 2), (110, .aload_n 0, 1), (111, .iconst 0, 1), (112, .iload_n 1, 1), (113, .iload 7, 2), (115, .aload_n 0, 1), (116, .getfield 16, 3), (119, .iconst 0, 1), (120, .iaload, 1), (121, .invokevirtual 95, 3), (124, .istore 5, 2), (126, .aload_n 0, 1), (127, .getfield 92, 3), (130, .istore 6, 2), (132, .iload 5, 2), (134, .iload_n 2, 1), (135, .if_icmp .ne (-57), 3), (138, .iload 4, 2), (140, .ireturn, 1)]
theorem dX6_ringOf : ∀ q ∈ tX6_ringOf, decode cX6_ringOf q.1 = .ok q.2 := by decide +kernel
theorem oX6_ringOf : MOk mX6_ringOf 1 := ⟨Gw_t1 7 rfl rfl, Gw_t3 233 rfl rfl, ⟨by decide +kernel, by decide +kernel⟩, by decide +kernel, by decide +kernel⟩
theorem iX6_ringOf : MIn mX6_ringOf := ⟨Gw_t3 232 rfl rfl, Gw_sel 10 rfl rfl⟩
abbrev cX6_fails : ByteArray := prog_8_method_19_code
def yX6_fails : MethodName := ⟨RX6, "fails", "(II)V"⟩
def mX6_fails : MI := (yX6_fails, cX6_fails, 3, none)
def tX6_fails : List (Nat × Instr × Nat) := [(0, .aload_n 0, 1), (1, .getfield 99, 3), (4, .ifCond .ne 13, 3), (7, .aload_n 0, 1), (8, .iload_n 1, 1), (9, .putfield 99, 3), (12, .aload_n 0, 1), (13, .iload_n 2, 1), (14, .putfield 102, 3), (17, .return_, 1)]
theorem dX6_fails : ∀ q ∈ tX6_fails, decode cX6_fails q.1 = .ok q.2 := by decide +kernel
theorem oX6_fails : MOk mX6_fails 2 := ⟨Gw_t1 7 rfl rfl, Gw_t3 209 rfl rfl, ⟨by decide +kernel, by decide +kernel⟩, by decide +kernel, by decide +kernel⟩
theorem iX6_fails : MIn mX6_fails := ⟨Gw_t3 208 rfl rfl, Gw_sel 4 rfl rfl⟩
abbrev cX6_look : ByteArray := prog_8_method_20_code
def yX6_look : MethodName := ⟨RX6, "look", "()V"⟩
def mX6_look : MI := (yX6_look, cX6_look, 4, none)
def tX6_look : List (Nat × Instr × Nat) := [(0, .aload_n 0, 1), (1, .iconst 0, 1), (2, .putfield 99, 3), (5, .aload_n 0, 1), (6, .iconst (-1), 1), (7, .putfield 102, 3), (10, .aload_n 0, 1), (11, .getfield 16, 3), (14, .iconst 0, 1), (15, .iaload, 1), (16, .ifCond .ne 9, 3), (19, .aload_n 0, 1), (20, .iconst 1, 1), (21, .iconst (-1), 1), (22, .invokevirtual 105, 3), (25, .iconst 0, 1), (26, .istore_n 1, 1), (27, .iload_n 1, 1), (28, .aload_n 0, 1), (29, .getfield 16, 3), (32, .iconst 0, 1), (33, .iaload, 1), (34, .if_icmp .ge 63, 3), (37, .iconst 0, 1), (38, .istore_n 2, 1), (39, .iload_n 2, 1), (40, .aload_n 0, 1), (41, .iconst 0, 1), (42, .iload_n 1, 1), (43, .invokevirtual 70, 3), (46, .if_icmp .ge 45, 3), (49, .iconst 0, 1), (50, .istore_n 3, 1), (51, .iload_n 3, 1), (52, .iload_n 2, 1), (53, .if_icmp .ge 32, 3), (56, .aload_n 0, 1), (57, .iconst 0, 1), (58, .iload_n 1, 1), (59, .iload_n 3, 1), (60, .invokevirtual 74, 3), (63, .aload_n 0, 1), (64, .iconst 0, 1), (65, .iload_n 1, 1), (66, .iload_n 2, 1), (67, .invokevirtual 74, 3), (70, .if_icmp .ne 9, 3), (73, .aload_n 0, 1), (74, .iconst 2, 1), (75, .iload_n 1, 1), (76, .invokevirtual 105, 3), (79, .iinc 3 1, 3), (82, .goto (-31), 3), (85, .iinc 2 1, 3), (88, .goto (-49), 3), (91, .iinc 1 1, 3), (94, .goto (-67), 3), (97, .iconst 0, 1), (98, .istore_n 1, 1), (99, .iload_n 1, 1), (100, .aload_n 0, 1), (101, .getfield 16, 3), (104, .iconst 0, 1), (105, .iaload, 1), (106, .if_icmp .ge 57, 3), (109, .iconst 0, 1), (110, .istore_n 2, 1), (111, .iload_n 2, 1), (112, .aload_n 0, 1), (113, .iconst 0, 1), (114, .iload_n 1, 1), (115, .invokevirtual 70, 3), (118, .if_icmp .ge 39, 3), (121, .aload_n 0, 1), (122, .iconst 0, 1), (123, .aload_n 0, 1), (124, .iconst 0, 1), (125, .iload_n 1, 1), (126, .iload_n 2, 1), (127, .invokevirtual 74, 3), (130, .aload_n 0, 1), (131, .iconst 0, 1), (132, .iload_n 1, 1), (133, .iload_n 2, 1), (134, .invokevirtual 89, 3), (137, .iload_n 1, 1), (138, .invokevirtual 95, 3), (141, .iconst (-1), 1), (142, .if_icmp .eq 9, 3), (145, .aload_n 0, 1), (146, .iconst 3, 1), (147, .iload_n 1, 1), (148, .invokevirtual 105, 3), (151, .iinc 2 1, 3), (154, .goto (-43), 3), (157, .iinc 1 1, 3), (160, .goto (-61), 3), (163, .iconst 0, 1), (164, .istore_n 1, 1), (165, .iload_n 1, 1), (166, .aload_n 0, 1), (167, .getfield 16, 3), (170, .iconst 0, 1), (171, .iaload, 1), (172, .if_icmp .ge 62, 3), (175, .iconst 0, 1), (176, .istore_n 2, 1), (177, .iload_n 2, 1), (178, .aload_n 0, 1), (179, .iconst 0, 1), (180, .iload_n 1, 1), (181, .invokevirtual 70, 3), (184, .if_icmp .ge 44, 3), (187, .aload_n 0, 1), (188, .iconst 0, 1), (189, .aload_n 0, 1), (190, .iconst 0, 1), (191, .iload_n 1, 1), (192, .iload_n 2, 1), (193, .invokevirtual 89, 3), (196, .aload_n 0, 1), (197, .iconst 0, 1), (198, .iload_n 1, 1), (199, .iload_n 2, 1), (200, .invokevirtual 74, 3), (203, .aload_n 0, 1), (204, .getfield 16, 3), (207, .iconst 0, 1), (208, .iaload, 1), (209, .invokevirtual 95, 3), (212, .iconst (-1), 1), (213, .if_icmp .ne 9, 3), (216, .aload_n 0, 1), (217, .iconst 4, 1), (218, .iload_n 1, 1), (219, .invokevirtual 105, 3), (222, .iinc 2 1, 3), (225, .goto (-48), 3), (228, .iinc 1 1, 3), (231, .goto (-66), 3), (234, .iconst 0, 1), (235, .istore_n 1, 1), (236, .iload_n 1, 1), (237, .aload_n 0, 1), (238, .getfield 13, 3), (241, .iconst 0, 1), (242, .iaload, 1), (243, .if_icmp .ge 23, 3), (246, .aload_n 0, 1), (247, .iload_n 1, 1), (248, .invokevirtual 109, 3), (251, .ifCond .ne 9, 3), (254, .aload_n 0, 1), (255, .iconst 5, 1), (256, .iload_n 1, 1), (257, .invokevirtual 105, 3), (260, .iinc 1 1, 3), (263, .goto (-27), 3), (266, .iconst 0, 1), (267, .istore_n 1, 1), (268, .iload_n 1, 1), (269, .aload_n 0, 1), (270, .getfield 13, 3), (273, .iconst 0, 1), (274, .iaload, 1), (275, .if_icmp .ge 36, 3), (278, .aload_n 0, 1), (279, .getfield 99, 3), (282, .ifCond .ne 29, 3), (285, .aload_n 0, 1), (286, .iload_n 1, 1), (287, .invokevirtual 112, 3), (290, .aload_n 0, 1), (291, .iload_n 1, 1), (292, .invokevirtual 109, 3), (295, .if_icmp .eq 10, 3), (298, .aload_n 0, 1), (299, .bipush 6, 2), (301, .iload_n 1, 1), (302, .invokevirtual 105, 3), (305, .iinc 1 1, 3), (308, .goto (-40), 3), (311, .iconst 0, 1), (312, .istore_n 1, 1), (313, .iload_n 1, 1), (314, .aload_n 0, 1), (315, .getfield 13, 3), (318, .iconst 0, 1), (319, .iaload, 1), (320, .if_icmp .ge 32, 3), (323, .aload_n 0, 1), (324, .getfield 99, 3), (327, .ifCond .ne 25, 3), (330, .aload_n 0, 1), (331, .iload_n 1, 1), (332, .invokevirtual 109, 3), (335, .iconst 2, 1), (336, .if_icmp .ne 10, 3), (339, .aload_n 0, 1), (340, .bipush 7, 2), (342, .iload_n 1, 1), (343, .invokevirtual 105, 3), (346, .iinc 1 1, 3), (349, .goto (-36), 3), (352, .return_, 1)]
theorem dX6_look : ∀ q ∈ tX6_look, decode cX6_look q.1 = .ok q.2 := by decide +kernel
theorem oX6_look : MOk mX6_look 0 := ⟨Gw_t1 7 rfl rfl, Gw_t3 205 rfl rfl, ⟨by decide +kernel, by decide +kernel⟩, by decide +kernel, by decide +kernel⟩
theorem iX6_look : MIn mX6_look := ⟨Gw_t3 204 rfl rfl, Gw_sel 3 rfl rfl⟩
abbrev cX6_edgeOf : ByteArray := prog_8_method_21_code
def yX6_edgeOf : MethodName := ⟨RX6, "edgeOf", "(III)I"⟩
def mX6_edgeOf : MI := (yX6_edgeOf, cX6_edgeOf, 6, (some (.int)))
def tX6_edgeOf : List (Nat × Instr × Nat) := [(0, .iconst 0, 1), (1, .istore 4, 2), (3, .iload 4, 2), (5, .aload_n 0, 1), (6, .getfield 19, 3), (9, .iload_n 1, 1), (10, .iaload, 1), (11, .if_icmp .ge 66, 3), (14, .sipush 350, 3), (17, .iload_n 1, 1), (18, .imul, 1), (19, .iload 4, 2), (21, .iadd, 1), (22, .istore 5, 2), (24, .aload_n 0, 1), (25, .getfield 34, 3), (28, .iload 5, 2), (30, .iaload, 1), (31, .iload_n 2, 1), (32, .if_icmp .ne 14, 3), (35, .aload_n 0, 1), (36, .getfield 37, 3), (39, .iload 5, 2), (41, .iaload, 1), (42, .iload_n 3, 1), (43, .if_icmp .eq 25, 3), (46, .aload_n 0, 1), (47, .getfield 34, 3), (50, .iload 5, 2), (52, .iaload, 1), (53, .iload_n 3, 1), (54, .if_icmp .ne 17, 3), (57, .aload_n 0, 1), (58, .getfield 37, 3), (61, .iload 5, 2), (63, .iaload, 1), (64, .iload_n 2, 1), (65, .if_icmp .ne 6, 3), (68, .iload 4, 2), (70, .ireturn, 1), (71, .iinc 4 1, 3), (74, .goto (-71), 3), (77, .iconst (-1), 1), (78, .ireturn, 1)]
theorem dX6_edgeOf : ∀ q ∈ tX6_edgeOf, decode cX6_edgeOf q.1 = .ok q.2 := by decide +kernel
theorem oX6_edgeOf : MOk mX6_edgeOf 3 := ⟨Gw_t1 7 rfl rfl, Gw_t4 1 rfl rfl, ⟨by decide +kernel, by decide +kernel⟩, by decide +kernel, by decide +kernel⟩
theorem iX6_edgeOf : MIn mX6_edgeOf := ⟨Gw_t4 0 rfl rfl, Gw_sel 12 rfl rfl⟩
abbrev cX6_findEdges : ByteArray := prog_8_method_22_code
def yX6_findEdges : MethodName := ⟨RX6, "findEdges", "(I)V"⟩
def mX6_findEdges : MI := (yX6_findEdges, cX6_findEdges, 6, none)
def tX6_findEdges : List (Nat × Instr × Nat) := [(0, .aload_n 0, 1), (1, .getfield 19, 3), (4, .iload_n 1, 1), (5, .iconst 0, 1), (6, .iastore, 1), (7, .iconst 0, 1), (8, .istore_n 2, 1), (9, .iload_n 2, 1), (10, .aload_n 0, 1), (11, .getfield 16, 3), (14, .iload_n 1, 1), (15, .iaload, 1), (16, .if_icmp .ge 106, 3), (19, .iconst 0, 1), (20, .istore_n 3, 1), (21, .iload_n 3, 1), (22, .aload_n 0, 1), (23, .iload_n 1, 1), (24, .iload_n 2, 1), (25, .invokevirtual 70, 3), (28, .if_icmp .ge 88, 3), (31, .aload_n 0, 1), (32, .iload_n 1, 1), (33, .iload_n 2, 1), (34, .iload_n 3, 1), (35, .invokevirtual 74, 3), (38, .istore 4, 2), (40, .aload_n 0, 1), (41, .iload_n 1, 1), (42, .iload_n 2, 1), (43, .iload_n 3, 1), (44, .invokevirtual 89, 3), (47, .istore 5, 2), (49, .aload_n 0, 1), (50, .iload_n 1, 1), (51, .iload 4, 2), (53, .iload 5, 2), (55, .invokevirtual 115, 3), (58, .iconst (-1), 1), (59, .if_icmp .ne 51, 3), (62, .aload_n 0, 1), (63, .getfield 34, 3), (66, .sipush 350, 3), (69, .iload_n 1, 1), (70, .imul, 1), (71, .aload_n 0, 1), (72, .getfield 19, 3), (75, .iload_n 1, 1), (76, .iaload, 1), (77, .iadd, 1), (78, .iload 4, 2), (80, .iastore, 1), (81, .aload_n 0, 1), (82, .getfield 37, 3), (85, .sipush 350, 3), (88, .iload_n 1, 1), (89, .imul, 1), (90, .aload_n 0, 1), (91, .getfield 19, 3), (94, .iload_n 1, 1), (95, .iaload, 1), (96, .iadd, 1), (97, .iload 5, 2), (99, .iastore, 1), (100, .aload_n 0, 1), (101, .getfield 19, 3), (104, .iload_n 1, 1), (105, .dup2, 1), (106, .iaload, 1), (107, .iconst 1, 1), (108, .iadd, 1), (109, .iastore, 1), (110, .iinc 3 1, 3), (113, .goto (-92), 3), (116, .iinc 2 1, 3), (119, .goto (-110), 3), (122, .return_, 1)]
theorem dX6_findEdges : ∀ q ∈ tX6_findEdges, decode cX6_findEdges q.1 = .ok q.2 := by decide +kernel
theorem oX6_findEdges : MOk mX6_findEdges 1 := ⟨Gw_t1 7 rfl rfl, Gw_t3 237 rfl rfl, ⟨by decide +kernel, by decide +kernel⟩, by decide +kernel, by decide +kernel⟩
theorem iX6_findEdges : MIn mX6_findEdges := ⟨Gw_t3 236 rfl rfl, Gw_sel 11 rfl rfl⟩
abbrev cX6_beginFace : ByteArray := prog_8_method_23_code
def yX6_beginFace : MethodName := ⟨RX6, "beginFace", "(I)V"⟩
def mX6_beginFace : MI := (yX6_beginFace, cX6_beginFace, 2, none)
def tX6_beginFace : List (Nat × Instr × Nat) := [(0, .aload_n 0, 1), (1, .getfield 25, 3), (4, .sipush 160, 3), (7, .iload_n 1, 1), (8, .imul, 1), (9, .aload_n 0, 1), (10, .getfield 16, 3), (13, .iload_n 1, 1), (14, .iaload, 1), (15, .iadd, 1), (16, .aload_n 0, 1), (17, .getfield 118, 3), (20, .iastore, 1), (21, .aload_n 0, 1), (22, .getfield 28, 3), (25, .sipush 160, 3), (28, .iload_n 1, 1), (29, .imul, 1), (30, .aload_n 0, 1), (31, .getfield 16, 3), (34, .iload_n 1, 1), (35, .iaload, 1), (36, .iadd, 1), (37, .iconst 0, 1), (38, .iastore, 1), (39, .aload_n 0, 1), (40, .getfield 16, 3), (43, .iload_n 1, 1), (44, .dup2, 1), (45, .iaload, 1), (46, .iconst 1, 1), (47, .iadd, 1), (48, .iastore, 1), (49, .return_, 1)]
theorem dX6_beginFace : ∀ q ∈ tX6_beginFace, decode cX6_beginFace q.1 = .ok q.2 := by decide +kernel
theorem oX6_beginFace : MOk mX6_beginFace 1 := ⟨Gw_t1 7 rfl rfl, Gw_t4 17 rfl rfl, ⟨by decide +kernel, by decide +kernel⟩, by decide +kernel, by decide +kernel⟩
theorem iX6_beginFace : MIn mX6_beginFace := ⟨Gw_t4 16 rfl rfl, Gw_sel 16 rfl rfl⟩
abbrev cX6_ringOn : ByteArray := prog_8_method_24_code
def yX6_ringOn : MethodName := ⟨RX6, "ringOn", "(II)V"⟩
def mX6_ringOn : MI := (yX6_ringOn, cX6_ringOn, 3, none)
def tX6_ringOn : List (Nat × Instr × Nat) := [(0, .aload_n 0, 1), (1, .getfield 31, 3), (4, .sipush 700, 3), (7, .iload_n 1, 1), (8, .imul, 1), (9, .aload_n 0, 1), (10, .getfield 118, 3), (13, .iadd, 1), (14, .iload_n 2, 1), (15, .iastore, 1), (16, .aload_n 0, 1), (17, .dup, 1), (18, .getfield 118, 3), (21, .iconst 1, 1), (22, .iadd, 1), (23, .putfield 118, 3), (26, .aload_n 0, 1), (27, .getfield 28, 3), (30, .sipush 160, 3), (33, .iload_n 1, 1), (34, .imul, 1), (35, .aload_n 0, 1), (36, .getfield 16, 3), (39, .iload_n 1, 1), (40, .iaload, 1), (41, .iadd, 1), (42, .iconst 1, 1), (43, .isub, 1), (44, .dup2, 1), (45, .iaload, 1), (46, .iconst 1, 1), (47, .iadd, 1), (48, .iastore, 1), (49, .return_, 1)]
theorem dX6_ringOn : ∀ q ∈ tX6_ringOn, decode cX6_ringOn q.1 = .ok q.2 := by decide +kernel
theorem oX6_ringOn : MOk mX6_ringOn 2 := ⟨Gw_t1 7 rfl rfl, Gw_t4 21 rfl rfl, ⟨by decide +kernel, by decide +kernel⟩, by decide +kernel, by decide +kernel⟩
theorem iX6_ringOn : MIn mX6_ringOn := ⟨Gw_t4 20 rfl rfl, Gw_sel 17 rfl rfl⟩
abbrev cX6_refine : ByteArray := prog_8_method_25_code
def yX6_refine : MethodName := ⟨RX6, "refine", "(I)V"⟩
def mX6_refine : MI := (yX6_refine, cX6_refine, 9, none)
def tX6_refine : List (Nat × Instr × Nat) := [(0, .iload_n 1, 1), (1, .iconst 1, 1), (2, .iadd, 1), (3, .istore_n 2, 1), (4, .aload_n 0, 1), (5, .getfield 13, 3), (8, .iload_n 2, 1), (9, .aload_n 0, 1), (10, .getfield 19, 3), (13, .iload_n 1, 1), (14, .iaload, 1), (15, .iastore, 1), (16, .iconst 0, 1), (17, .istore_n 3, 1), (18, .iload_n 3, 1), (19, .aload_n 0, 1), (20, .getfield 19, 3), (23, .iload_n 1, 1), (24, .iaload, 1), (25, .if_icmp .ge 115, 3), (28, .iconst 0, 1), (29, .istore 4, 2), (31, .iload 4, 2), (33, .iconst 3, 1), (34, .if_icmp .ge 100, 3), (37, .aload_n 0, 1), (38, .getfield 22, 3), (41, .iconst 3, 1), (42, .sipush 200, 3), (45, .iload_n 1, 1), (46, .imul, 1), (47, .aload_n 0, 1), (48, .getfield 34, 3), (51, .sipush 350, 3), (54, .iload_n 1, 1), (55, .imul, 1), (56, .iload_n 3, 1), (57, .iadd, 1), (58, .iaload, 1), (59, .iadd, 1), (60, .imul, 1), (61, .iload 4, 2), (63, .iadd, 1), (64, .iaload, 1), (65, .istore 5, 2), (67, .aload_n 0, 1), (68, .getfield 22, 3), (71, .iconst 3, 1), (72, .sipush 200, 3), (75, .iload_n 1, 1), (76, .imul, 1), (77, .aload_n 0, 1), (78, .getfield 37, 3), (81, .sipush 350, 3), (84, .iload_n 1, 1), (85, .imul, 1), (86, .iload_n 3, 1), (87, .iadd, 1), (88, .iaload, 1), (89, .iadd, 1), (90, .imul, 1), (91, .iload 4, 2), (93, .iadd, 1), (94, .iaload, 1), (95, .istore 6, 2), (97, .aload_n 0, 1), (98, .getfield 22, 3), (101, .iconst 3, 1), (102, .sipush 200, 3), (105, .iload_n 2, 1), (106, .imul, 1), (107, .iload_n 3, 1), (108, .iadd, 1), (109, .imul, 1), (110, .iload 4, 2), (112, .iadd, 1), (113, .iload 5, 2), (115, .iload 6, 2), (117, .iadd, 1), (118, .aload_n 0, 1), (119, .iload_n 2, 1), (120, .iload_n 3, 1), (121, .iload 4, 2), (123, .invokevirtual 121, 3), (126, .iadd, 1), (127, .iastore, 1), (128, .iinc 4 1, 3), (131, .goto (-100), 3), (134, .iinc 3 1, 3), (137, .goto (-119), 3), (140, .aload_n 0, 1), (141, .getfield 16, 3), (144, .iload_n 2, 1), (145, .iconst 0, 1), (146, .iastore, 1), (147, .aload_n 0, 1), (148, .iconst 0, 1), (149, .putfield 118, 3), (152, .iconst 0, 1), (153, .istore_n 3, 1), (154, .iload_n 3, 1), (155, .aload_n 0, 1), (156, .getfield 16, 3), (159, .iload_n 1, 1), (160, .iaload, 1), (161, .if_icmp .ge 60, 3), (164, .aload_n 0, 1), (165, .iload_n 2, 1), (166, .invokevirtual 124, 3), (169, .iconst 0, 1), (170, .istore 4, 2), (172, .iload 4, 2), (174, .aload_n 0, 1), (175, .iload_n 1, 1), (176, .iload_n 3, 1), (177, .invokevirtual 70, 3), (180, .if_icmp .ge 35, 3), (183, .aload_n 0, 1), (184, .iload_n 2, 1), (185, .aload_n 0, 1), (186, .iload_n 1, 1), (187, .aload_n 0, 1), (188, .iload_n 1, 1), (189, .iload_n 3, 1), (190, .iload 4, 2), (192, .invokevirtual 74, 3), (195, .aload_n 0, 1), (196, .iload_n 1, 1), (197, .iload_n 3, 1), (198, .iload 4, 2), (200, .invokevirtual 89, 3), (203, .invokevirtual 115, 3), (206, .invokevirtual 128, 3), (209, .iinc 4 1, 3), (212, .goto (-40), 3), (215, .iinc 3 1, 3), (218, .goto (-64), 3), (221, .iconst 0, 1), (222, .istore_n 3, 1), (223, .iload_n 3, 1), (224, .aload_n 0, 1), (225, .getfield 13, 3), (228, .iload_n 1, 1), (229, .iaload, 1), (230, .if_icmp .ge 175, 3), (233, .aload_n 0, 1), (234, .iload_n 2, 1), (235, .invokevirtual 124, 3), (238, .iconst 0, 1), (239, .istore 4, 2), (241, .aload_n 0, 1), (242, .getfield 34, 3), (245, .sipush 350, 3), (248, .iload_n 1, 1), (249, .imul, 1), (250, .iload 4, 2), (252, .iadd, 1), (253, .iaload, 1), (254, .iload_n 3, 1), (255, .if_icmp .eq 26, 3), (258, .aload_n 0, 1), (259, .getfield 37, 3), (262, .sipush 350, 3), (265, .iload_n 1, 1), (266, .imul, 1), (267, .iload 4, 2), (269, .iadd, 1), (270, .iaload, 1), (271, .iload_n 3, 1), (272, .if_icmp .eq 9, 3), (275, .iinc 4 1, 3), (278, .goto (-37), 3), (281, .iload 4, 2), (283, .istore 5, 2), (285, .aload_n 0, 1), (286, .iload_n 2, 1), (287, .iload 5, 2), (289, .invokevirtual 128, 3), (292, .aload_n 0, 1), (293, .getfield 34, 3), (296, .sipush 350, 3), (299, .iload_n 1, 1), (300, .imul, 1), (301, .iload 5, 2), (303, .iadd, 1), (304, .iaload, 1), (305, .iload_n 3, 1), (306, .if_icmp .ne 19, 3), (309, .aload_n 0, 1), (310, .getfield 37, 3), (313, .sipush 350, 3), (316, .iload_n 1, 1), (317, .imul, 1), (318, .iload 5, 2), (320, .iadd, 1), (321, .iaload, 1), (322, .goto 16, 3), (325, .aload_n 0, 1), (326, .getfield 34, 3), (329, .sipush 350, 3), (332, .iload_n 1, 1), (333, .imul, 1), (334, .iload 5, 2), (336, .iadd, 1), (337, .iaload, 1), (338, .istore 6, 2), (340, .aload_n 0, 1), (341, .iload_n 1, 1), (342, .iload_n 3, 1), (343, .iload 6, 2), (345, .aload_n 0, 1), (346, .getfield 16, 3), (349, .iload_n 1, 1), (350, .iaload, 1), (351, .invokevirtual 95, 3), (354, .istore 7, 2), (356, .aload_n 0, 1), (357, .iload_n 1, 1), (358, .iload 7, 2), (360, .invokevirtual 70, 3), (363, .istore 8, 2), (365, .aload_n 0, 1), (366, .iload_n 1, 1), (367, .aload_n 0, 1), (368, .iload_n 1, 1), (369, .iload 7, 2), (371, .aload_n 0, 1), (372, .getfield 92, 3), (375, .iload 8, 2), (377, .iadd, 1), (378, .iconst 1, 1), (379, .isub, 1), (380, .iload 8, 2), (382, .irem, 1), (383, .invokevirtual 74, 3), (386, .iload_n 3, 1), (387, .invokevirtual 115, 3), (390, .istore 5, 2), (392, .iload 5, 2), (394, .iload 4, 2), (396, .if_icmp .ne (-111), 3), (399, .iinc 3 1, 3), (402, .goto (-179), 3), (405, .return_, 1)]
theorem dX6_refine : ∀ q ∈ tX6_refine, decode cX6_refine q.1 = .ok q.2 := by decide +kernel
theorem oX6_refine : MOk mX6_refine 1 := ⟨Gw_t1 7 rfl rfl, Gw_t4 5 rfl rfl, ⟨by decide +kernel, by decide +kernel⟩, by decide +kernel, by decide +kernel⟩
theorem iX6_refine : MIn mX6_refine := ⟨Gw_t4 4 rfl rfl, Gw_sel 13 rfl rfl⟩
abbrev cX6_make : ByteArray := prog_8_method_26_code
def yX6_make : MethodName := ⟨RX6, "make", "()V"⟩
def mX6_make : MI := (yX6_make, cX6_make, 2, none)
def tX6_make : List (Nat × Instr × Nat) := [(0, .aload_n 0, 1), (1, .getfield 50, 3), (4, .ifCond .ne 4, 3), (7, .return_, 1), (8, .aload_n 0, 1), (9, .iconst 0, 1), (10, .putfield 50, 3), (13, .aload_n 0, 1), (14, .invokevirtual 131, 3), (17, .aload_n 0, 1), (18, .getfield 99, 3), (21, .ifCond .ne 31, 3), (24, .iconst 0, 1), (25, .istore_n 1, 1), (26, .iload_n 1, 1), (27, .iconst 4, 1), (28, .if_icmp .ge 24, 3), (31, .aload_n 0, 1), (32, .iload_n 1, 1), (33, .invokevirtual 134, 3), (36, .iload_n 1, 1), (37, .iconst 3, 1), (38, .if_icmp .ge 8, 3), (41, .aload_n 0, 1), (42, .iload_n 1, 1), (43, .invokevirtual 137, 3), (46, .iinc 1 1, 3), (49, .goto (-23), 3), (52, .return_, 1)]
theorem dX6_make : ∀ q ∈ tX6_make, decode cX6_make q.1 = .ok q.2 := by decide +kernel
theorem oX6_make : MOk mX6_make 0 := ⟨Gw_t1 7 rfl rfl, Gw_t3 201 rfl rfl, ⟨by decide +kernel, by decide +kernel⟩, by decide +kernel, by decide +kernel⟩
theorem iX6_make : MIn mX6_make := ⟨Gw_t3 200 rfl rfl, Gw_sel 2 rfl rfl⟩
abbrev cX6_fault : ByteArray := prog_8_method_27_code
def yX6_fault : MethodName := ⟨RX6, "fault", "(I)I"⟩
def mX6_fault : MI := (yX6_fault, cX6_fault, 2, (some (.int)))
def tX6_fault : List (Nat × Instr × Nat) := [(0, .iload_n 1, 1), (1, .i2l, 1), (2, .lconst 0, 1), (3, .lconst 1, 1), (4, .invokestatic 59, 3), (7, .ifCond .ne 6, 3), (10, .bipush (-102), 2), (12, .ireturn, 1), (13, .aload_n 0, 1), (14, .invokevirtual 140, 3), (17, .iload_n 1, 1), (18, .ifCond .ne 10, 3), (21, .aload_n 0, 1), (22, .getfield 99, 3), (25, .goto 7, 3), (28, .aload_n 0, 1), (29, .getfield 102, 3), (32, .ireturn, 1)]
theorem dX6_fault : ∀ q ∈ tX6_fault, decode cX6_fault q.1 = .ok q.2 := by decide +kernel
theorem oX6_fault : MOk mX6_fault 1 := ⟨Gw_t1 7 rfl rfl, Gw_t3 197 rfl rfl, ⟨by decide +kernel, by decide +kernel⟩, by decide +kernel, by decide +kernel⟩
theorem iX6_fault : MIn mX6_fault := ⟨Gw_t3 195 rfl rfl, Gw_t3 196 rfl rfl⟩
abbrev cX6_isGood : ByteArray := prog_8_method_28_code
def yX6_isGood : MethodName := ⟨RX6, "isGood", "()Z"⟩
def mX6_isGood : MI := (yX6_isGood, cX6_isGood, 1, (some (.boolean)))
def tX6_isGood : List (Nat × Instr × Nat) := [(0, .aload_n 0, 1), (1, .invokevirtual 140, 3), (4, .aload_n 0, 1), (5, .getfield 99, 3), (8, .ifCond .ne 7, 3), (11, .iconst 1, 1), (12, .goto 4, 3), (15, .iconst 0, 1), (16, .ireturn, 1)]
theorem dX6_isGood : ∀ q ∈ tX6_isGood, decode cX6_isGood q.1 = .ok q.2 := by decide +kernel
theorem oX6_isGood : MOk mX6_isGood 0 := ⟨Gw_t1 7 rfl rfl, Gw_t4 33 rfl rfl, ⟨by decide +kernel, by decide +kernel⟩, by decide +kernel, by decide +kernel⟩
theorem iX6_isGood : MIn mX6_isGood := ⟨Gw_t4 32 rfl rfl, Gw_sel 18 rfl rfl⟩
abbrev cX6_isLevel : ByteArray := prog_8_method_29_code
def yX6_isLevel : MethodName := ⟨RX6, "isLevel", "(I)Z"⟩
def mX6_isLevel : MI := (yX6_isLevel, cX6_isLevel, 1, (some (.boolean)))
def tX6_isLevel : List (Nat × Instr × Nat) := [(0, .iload_n 0, 1), (1, .i2l, 1), (2, .lconst 0, 1), (3, .ldc2_w 82, 3), (6, .invokestatic 59, 3), (9, .ireturn, 1)]
theorem dX6_isLevel : ∀ q ∈ tX6_isLevel, decode cX6_isLevel q.1 = .ok q.2 := by decide +kernel
theorem oX6_isLevel : MOk mX6_isLevel 1 := ⟨Gw_t1 7 rfl rfl, Gw_t4 28 rfl rfl, ⟨by decide +kernel, by decide +kernel⟩, by decide +kernel, by decide +kernel⟩
theorem sX6_isLevel : MSt mX6_isLevel := Gw_t4 27 rfl rfl
abbrev cX6_isAxis : ByteArray := prog_8_method_30_code
def yX6_isAxis : MethodName := ⟨RX6, "isAxis", "(I)Z"⟩
def mX6_isAxis : MI := (yX6_isAxis, cX6_isAxis, 1, (some (.boolean)))
def tX6_isAxis : List (Nat × Instr × Nat) := [(0, .iload_n 0, 1), (1, .i2l, 1), (2, .lconst 0, 1), (3, .ldc2_w 57, 3), (6, .invokestatic 59, 3), (9, .ireturn, 1)]
theorem dX6_isAxis : ∀ q ∈ tX6_isAxis, decode cX6_isAxis q.1 = .ok q.2 := by decide +kernel
theorem oX6_isAxis : MOk mX6_isAxis 1 := ⟨Gw_t1 7 rfl rfl, Gw_t4 44 rfl rfl, ⟨by decide +kernel, by decide +kernel⟩, by decide +kernel, by decide +kernel⟩
theorem sX6_isAxis : MSt mX6_isAxis := Gw_t4 43 rfl rfl
abbrev cX6_edgesAt : ByteArray := prog_8_method_31_code
def yX6_edgesAt : MethodName := ⟨RX6, "edgesAt", "(II)I"⟩
def mX6_edgesAt : MI := (yX6_edgesAt, cX6_edgesAt, 5, (some (.int)))
def tX6_edgesAt : List (Nat × Instr × Nat) := [(0, .iconst 0, 1), (1, .istore_n 3, 1), (2, .iconst 0, 1), (3, .istore 4, 2), (5, .iload 4, 2), (7, .aload_n 0, 1), (8, .getfield 19, 3), (11, .iload_n 1, 1), (12, .iaload, 1), (13, .if_icmp .ge 51, 3), (16, .iload_n 3, 1), (17, .aload_n 0, 1), (18, .getfield 34, 3), (21, .sipush 350, 3), (24, .iload_n 1, 1), (25, .imul, 1), (26, .iload 4, 2), (28, .iadd, 1), (29, .iaload, 1), (30, .iload_n 2, 1), (31, .if_icmp .eq 20, 3), (34, .aload_n 0, 1), (35, .getfield 37, 3), (38, .sipush 350, 3), (41, .iload_n 1, 1), (42, .imul, 1), (43, .iload 4, 2), (45, .iadd, 1), (46, .iaload, 1), (47, .iload_n 2, 1), (48, .if_icmp .ne 7, 3), (51, .iconst 1, 1), (52, .goto 4, 3), (55, .iconst 0, 1), (56, .iadd, 1), (57, .istore_n 3, 1), (58, .iinc 4 1, 3), (61, .goto (-56), 3), (64, .iload_n 3, 1), (65, .ireturn, 1)]
theorem dX6_edgesAt : ∀ q ∈ tX6_edgesAt, decode cX6_edgesAt q.1 = .ok q.2 := by decide +kernel
theorem oX6_edgesAt : MOk mX6_edgesAt 2 := ⟨Gw_t1 7 rfl rfl, Gw_t4 37 rfl rfl, ⟨by decide +kernel, by decide +kernel⟩, by decide +kernel, by decide +kernel⟩
theorem iX6_edgesAt : MIn mX6_edgesAt := ⟨Gw_t4 36 rfl rfl, Gw_sel 19 rfl rfl⟩
abbrev cX6_many : ByteArray := prog_8_method_32_code
def yX6_many : MethodName := ⟨RX6, "many", "(II)I"⟩
def mX6_many : MI := (yX6_many, cX6_many, 5, (some (.int)))
def tX6_many : List (Nat × Instr × Nat) := [(0, .iload_n 1, 1), (1, .invokestatic 143, 3), (4, .ifCond .ne 6, 3), (7, .bipush (-101), 2), (9, .ireturn, 1), (10, .iload_n 2, 1), (11, .i2l, 1), (12, .lconst 0, 1), (13, .ldc2_w 147, 3), (16, .invokestatic 59, 3), (19, .ifCond .ne 6, 3), (22, .bipush (-102), 2), (24, .ireturn, 1), (25, .aload_n 0, 1), (26, .invokevirtual 149, 3), (29, .ifCond .ne 6, 3), (32, .bipush (-103), 2), (34, .ireturn, 1), (35, .iconst 0, 1), (36, .istore_n 3, 1), (37, .iload_n 2, 1), (38, .tableswitch 137 0 4 #[34, 41, 48, 55, 96], 34), (72, .aload_n 0, 1), (73, .getfield 13, 3), (76, .iload_n 1, 1), (77, .iaload, 1), (78, .ireturn, 1), (79, .aload_n 0, 1), (80, .getfield 19, 3), (83, .iload_n 1, 1), (84, .iaload, 1), (85, .ireturn, 1), (86, .aload_n 0, 1), (87, .getfield 16, 3), (90, .iload_n 1, 1), (91, .iaload, 1), (92, .ireturn, 1), (93, .iconst 0, 1), (94, .istore 4, 2), (96, .iload 4, 2), (98, .aload_n 0, 1), (99, .getfield 13, 3), (102, .iload_n 1, 1), (103, .iaload, 1), (104, .if_icmp .ge 28, 3), (107, .iload_n 3, 1), (108, .aload_n 0, 1), (109, .iload_n 1, 1), (110, .iload 4, 2), (112, .invokevirtual 153, 3), (115, .iconst 4, 1), (116, .if_icmp .ne 7, 3), (119, .iconst 0, 1), (120, .goto 4, 3), (123, .iconst 1, 1), (124, .iadd, 1), (125, .istore_n 3, 1), (126, .iinc 4 1, 3), (129, .goto (-33), 3), (132, .iload_n 3, 1), (133, .ireturn, 1), (134, .iconst 0, 1), (135, .istore 4, 2), (137, .iload 4, 2), (139, .aload_n 0, 1), (140, .getfield 16, 3), (143, .iload_n 1, 1), (144, .iaload, 1), (145, .if_icmp .ge 28, 3), (148, .iload_n 3, 1), (149, .aload_n 0, 1), (150, .iload_n 1, 1), (151, .iload 4, 2), (153, .invokevirtual 70, 3), (156, .iconst 4, 1), (157, .if_icmp .ne 7, 3), (160, .iconst 0, 1), (161, .goto 4, 3), (164, .iconst 1, 1), (165, .iadd, 1), (166, .istore_n 3, 1), (167, .iinc 4 1, 3), (170, .goto (-33), 3), (173, .iload_n 3, 1), (174, .ireturn, 1), (175, .aload_n 0, 1), (176, .getfield 13, 3), (179, .iload_n 1, 1), (180, .iaload, 1), (181, .aload_n 0, 1), (182, .getfield 16, 3), (185, .iload_n 1, 1), (186, .iaload, 1), (187, .iadd, 1), (188, .aload_n 0, 1), (189, .getfield 19, 3), (192, .iload_n 1, 1), (193, .iaload, 1), (194, .isub, 1), (195, .ireturn, 1)]
theorem dX6_many : ∀ q ∈ tX6_many, decode cX6_many q.1 = .ok q.2 := by decide +kernel
theorem oX6_many : MOk mX6_many 2 := ⟨Gw_t1 7 rfl rfl, Gw_t4 25 rfl rfl, ⟨by decide +kernel, by decide +kernel⟩, by decide +kernel, by decide +kernel⟩
theorem iX6_many : MIn mX6_many := ⟨Gw_t4 23 rfl rfl, Gw_t4 24 rfl rfl⟩
abbrev cX6_number : ByteArray := prog_8_method_33_code
def yX6_number : MethodName := ⟨RX6, "number", "(III)I"⟩
def mX6_number : MI := (yX6_number, cX6_number, 4, (some (.int)))
def tX6_number : List (Nat × Instr × Nat) := [(0, .aload_n 0, 1), (1, .getfield 22, 3), (4, .iconst 3, 1), (5, .sipush 200, 3), (8, .iload_n 1, 1), (9, .imul, 1), (10, .iload_n 2, 1), (11, .iadd, 1), (12, .imul, 1), (13, .iload_n 3, 1), (14, .iadd, 1), (15, .iaload, 1), (16, .ireturn, 1)]
theorem dX6_number : ∀ q ∈ tX6_number, decode cX6_number q.1 = .ok q.2 := by decide +kernel
theorem oX6_number : MOk mX6_number 3 := ⟨Gw_t1 7 rfl rfl, Gw_t4 50 rfl rfl, ⟨by decide +kernel, by decide +kernel⟩, by decide +kernel, by decide +kernel⟩
theorem iX6_number : MIn mX6_number := ⟨Gw_t4 49 rfl rfl, Gw_sel 20 rfl rfl⟩
abbrev cX6_at : ByteArray := prog_8_method_34_code
def yX6_at : MethodName := ⟨RX6, "at", "(III)I"⟩
def mX6_at : MI := (yX6_at, cX6_at, 4, (some (.int)))
def tX6_at : List (Nat × Instr × Nat) := [(0, .iload_n 1, 1), (1, .invokestatic 143, 3), (4, .ifCond .eq 10, 3), (7, .iload_n 3, 1), (8, .invokestatic 156, 3), (11, .ifCond .ne 6, 3), (14, .ldc 159, 2), (16, .ireturn, 1), (17, .aload_n 0, 1), (18, .invokevirtual 149, 3), (21, .ifCond .ne 6, 3), (24, .ldc 160, 2), (26, .ireturn, 1), (27, .iload_n 2, 1), (28, .i2l, 1), (29, .lconst 0, 1), (30, .aload_n 0, 1), (31, .getfield 13, 3), (34, .iload_n 1, 1), (35, .iaload, 1), (36, .iconst 1, 1), (37, .isub, 1), (38, .i2l, 1), (39, .invokestatic 59, 3), (42, .ifCond .eq 13, 3), (45, .aload_n 0, 1), (46, .iload_n 1, 1), (47, .iload_n 2, 1), (48, .iload_n 3, 1), (49, .invokevirtual 161, 3), (52, .goto 5, 3), (55, .ldc 159, 2), (57, .ireturn, 1)]
theorem dX6_at : ∀ q ∈ tX6_at, decode cX6_at q.1 = .ok q.2 := by decide +kernel
theorem oX6_at : MOk mX6_at 3 := ⟨Gw_t1 7 rfl rfl, Gw_t4 41 rfl rfl, ⟨by decide +kernel, by decide +kernel⟩, by decide +kernel, by decide +kernel⟩
theorem iX6_at : MIn mX6_at := ⟨Gw_t4 39 rfl rfl, Gw_t4 40 rfl rfl⟩
abbrev cX6_edge : ByteArray := prog_8_method_35_code
def yX6_edge : MethodName := ⟨RX6, "edge", "(III)I"⟩
def mX6_edge : MI := (yX6_edge, cX6_edge, 4, (some (.int)))
def tX6_edge : List (Nat × Instr × Nat) := [(0, .iload_n 1, 1), (1, .invokestatic 143, 3), (4, .ifCond .ne 6, 3), (7, .bipush (-101), 2), (9, .ireturn, 1), (10, .iload_n 3, 1), (11, .i2l, 1), (12, .lconst 0, 1), (13, .lconst 1, 1), (14, .invokestatic 59, 3), (17, .ifCond .ne 6, 3), (20, .bipush (-102), 2), (22, .ireturn, 1), (23, .aload_n 0, 1), (24, .invokevirtual 149, 3), (27, .ifCond .ne 6, 3), (30, .bipush (-103), 2), (32, .ireturn, 1), (33, .iload_n 2, 1), (34, .i2l, 1), (35, .lconst 0, 1), (36, .aload_n 0, 1), (37, .getfield 19, 3), (40, .iload_n 1, 1), (41, .iaload, 1), (42, .iconst 1, 1), (43, .isub, 1), (44, .i2l, 1), (45, .invokestatic 59, 3), (48, .ifCond .ne 8, 3), (51, .bipush (-101), 2), (53, .goto 34, 3), (56, .iload_n 3, 1), (57, .ifCond .ne 18, 3), (60, .aload_n 0, 1), (61, .getfield 34, 3), (64, .sipush 350, 3), (67, .iload_n 1, 1), (68, .imul, 1), (69, .iload_n 2, 1), (70, .iadd, 1), (71, .iaload, 1), (72, .goto 15, 3), (75, .aload_n 0, 1), (76, .getfield 37, 3), (79, .sipush 350, 3), (82, .iload_n 1, 1), (83, .imul, 1), (84, .iload_n 2, 1), (85, .iadd, 1), (86, .iaload, 1), (87, .ireturn, 1)]
theorem dX6_edge : ∀ q ∈ tX6_edge, decode cX6_edge q.1 = .ok q.2 := by decide +kernel
theorem oX6_edge : MOk mX6_edge 3 := ⟨Gw_t1 7 rfl rfl, Gw_t4 54 rfl rfl, ⟨by decide +kernel, by decide +kernel⟩, by decide +kernel, by decide +kernel⟩
theorem iX6_edge : MIn mX6_edge := ⟨Gw_t4 52 rfl rfl, Gw_t4 53 rfl rfl⟩
abbrev cX6_faceRefusal : ByteArray := prog_8_method_36_code
def yX6_faceRefusal : MethodName := ⟨RX6, "faceRefusal", "(II)I"⟩
def mX6_faceRefusal : MI := (yX6_faceRefusal, cX6_faceRefusal, 3, (some (.int)))
def tX6_faceRefusal : List (Nat × Instr × Nat) := [(0, .iload_n 1, 1), (1, .invokestatic 143, 3), (4, .ifCond .ne 6, 3), (7, .bipush (-101), 2), (9, .ireturn, 1), (10, .aload_n 0, 1), (11, .invokevirtual 149, 3), (14, .ifCond .ne 6, 3), (17, .bipush (-103), 2), (19, .ireturn, 1), (20, .iload_n 2, 1), (21, .i2l, 1), (22, .lconst 0, 1), (23, .aload_n 0, 1), (24, .getfield 16, 3), (27, .iload_n 1, 1), (28, .iaload, 1), (29, .iconst 1, 1), (30, .isub, 1), (31, .i2l, 1), (32, .invokestatic 59, 3), (35, .ifCond .eq 7, 3), (38, .iconst 0, 1), (39, .goto 5, 3), (42, .bipush (-101), 2), (44, .ireturn, 1)]
theorem dX6_faceRefusal : ∀ q ∈ tX6_faceRefusal, decode cX6_faceRefusal q.1 = .ok q.2 := by decide +kernel
theorem oX6_faceRefusal : MOk mX6_faceRefusal 2 := ⟨Gw_t1 7 rfl rfl, Gw_t4 62 rfl rfl, ⟨by decide +kernel, by decide +kernel⟩, by decide +kernel, by decide +kernel⟩
theorem iX6_faceRefusal : MIn mX6_faceRefusal := ⟨Gw_t4 61 rfl rfl, Gw_sel 21 rfl rfl⟩
abbrev cX6_size : ByteArray := prog_8_method_37_code
def yX6_size : MethodName := ⟨RX6, "size", "(II)I"⟩
def mX6_size : MI := (yX6_size, cX6_size, 4, (some (.int)))
def tX6_size : List (Nat × Instr × Nat) := [(0, .aload_n 0, 1), (1, .iload_n 1, 1), (2, .iload_n 2, 1), (3, .invokevirtual 164, 3), (6, .istore_n 3, 1), (7, .iload_n 3, 1), (8, .ifCond .eq 7, 3), (11, .iload_n 3, 1), (12, .goto 9, 3), (15, .aload_n 0, 1), (16, .iload_n 1, 1), (17, .iload_n 2, 1), (18, .invokevirtual 70, 3), (21, .ireturn, 1)]
theorem dX6_size : ∀ q ∈ tX6_size, decode cX6_size q.1 = .ok q.2 := by decide +kernel
theorem oX6_size : MOk mX6_size 2 := ⟨Gw_t1 7 rfl rfl, Gw_t4 58 rfl rfl, ⟨by decide +kernel, by decide +kernel⟩, by decide +kernel, by decide +kernel⟩
theorem iX6_size : MIn mX6_size := ⟨Gw_t4 56 rfl rfl, Gw_t4 57 rfl rfl⟩
abbrev cX6_ring : ByteArray := prog_8_method_38_code
def yX6_ring : MethodName := ⟨RX6, "ring", "(III)I"⟩
def mX6_ring : MI := (yX6_ring, cX6_ring, 5, (some (.int)))
def tX6_ring : List (Nat × Instr × Nat) := [(0, .aload_n 0, 1), (1, .iload_n 1, 1), (2, .iload_n 2, 1), (3, .invokevirtual 164, 3), (6, .istore 4, 2), (8, .iload 4, 2), (10, .ifCond .eq 8, 3), (13, .iload 4, 2), (15, .goto 32, 3), (18, .iload_n 3, 1), (19, .i2l, 1), (20, .lconst 0, 1), (21, .aload_n 0, 1), (22, .iload_n 1, 1), (23, .iload_n 2, 1), (24, .invokevirtual 70, 3), (27, .iconst 1, 1), (28, .isub, 1), (29, .i2l, 1), (30, .invokestatic 59, 3), (33, .ifCond .eq 13, 3), (36, .aload_n 0, 1), (37, .iload_n 1, 1), (38, .iload_n 2, 1), (39, .iload_n 3, 1), (40, .invokevirtual 74, 3), (43, .goto 4, 3), (46, .iconst (-1), 1), (47, .ireturn, 1)]
theorem dX6_ring : ∀ q ∈ tX6_ring, decode cX6_ring q.1 = .ok q.2 := by decide +kernel
theorem oX6_ring : MOk mX6_ring 3 := ⟨Gw_t1 7 rfl rfl, Gw_t4 66 rfl rfl, ⟨by decide +kernel, by decide +kernel⟩, by decide +kernel, by decide +kernel⟩
theorem iX6_ring : MIn mX6_ring := ⟨Gw_t4 64 rfl rfl, Gw_t4 65 rfl rfl⟩
abbrev cX6_middle : ByteArray := prog_8_method_39_code
def yX6_middle : MethodName := ⟨RX6, "middle", "(III)I"⟩
def mX6_middle : MI := (yX6_middle, cX6_middle, 6, (some (.int)))
def tX6_middle : List (Nat × Instr × Nat) := [(0, .iload_n 1, 1), (1, .invokestatic 143, 3), (4, .ifCond .eq 10, 3), (7, .iload_n 3, 1), (8, .invokestatic 156, 3), (11, .ifCond .ne 6, 3), (14, .ldc 159, 2), (16, .ireturn, 1), (17, .aload_n 0, 1), (18, .invokevirtual 149, 3), (21, .ifCond .ne 6, 3), (24, .ldc 160, 2), (26, .ireturn, 1), (27, .iload_n 2, 1), (28, .i2l, 1), (29, .lconst 0, 1), (30, .aload_n 0, 1), (31, .getfield 16, 3), (34, .iload_n 1, 1), (35, .iaload, 1), (36, .iconst 1, 1), (37, .isub, 1), (38, .i2l, 1), (39, .invokestatic 59, 3), (42, .ifCond .ne 6, 3), (45, .ldc 159, 2), (47, .ireturn, 1), (48, .iconst 0, 1), (49, .istore 4, 2), (51, .iconst 0, 1), (52, .istore 5, 2), (54, .iload 5, 2), (56, .aload_n 0, 1), (57, .iload_n 1, 1), (58, .iload_n 2, 1), (59, .invokevirtual 70, 3), (62, .if_icmp .ge 28, 3), (65, .iload 4, 2), (67, .aload_n 0, 1), (68, .iload_n 1, 1), (69, .aload_n 0, 1), (70, .iload_n 1, 1), (71, .iload_n 2, 1), (72, .iload 5, 2), (74, .invokevirtual 74, 3), (77, .iload_n 3, 1), (78, .invokevirtual 161, 3), (81, .iadd, 1), (82, .istore 4, 2), (84, .iinc 5 1, 3), (87, .goto (-33), 3), (90, .iload 4, 2), (92, .ireturn, 1)]
theorem dX6_middle : ∀ q ∈ tX6_middle, decode cX6_middle q.1 = .ok q.2 := by decide +kernel
theorem oX6_middle : MOk mX6_middle 3 := ⟨Gw_t1 7 rfl rfl, Gw_t4 70 rfl rfl, ⟨by decide +kernel, by decide +kernel⟩, by decide +kernel, by decide +kernel⟩
theorem iX6_middle : MIn mX6_middle := ⟨Gw_t4 68 rfl rfl, Gw_t4 69 rfl rfl⟩
abbrev cX6_box : ByteArray := prog_8_method_40_code
def yX6_box : MethodName := ⟨RX6, "box", "(III)I"⟩
def mX6_box : MI := (yX6_box, cX6_box, 7, (some (.int)))
def tX6_box : List (Nat × Instr × Nat) := [(0, .iload_n 1, 1), (1, .invokestatic 143, 3), (4, .ifCond .eq 10, 3), (7, .iload_n 2, 1), (8, .invokestatic 156, 3), (11, .ifCond .ne 6, 3), (14, .ldc 159, 2), (16, .ireturn, 1), (17, .iload_n 3, 1), (18, .i2l, 1), (19, .lconst 0, 1), (20, .lconst 1, 1), (21, .invokestatic 59, 3), (24, .ifCond .ne 6, 3), (27, .ldc 167, 2), (29, .ireturn, 1), (30, .aload_n 0, 1), (31, .invokevirtual 149, 3), (34, .ifCond .ne 6, 3), (37, .ldc 160, 2), (39, .ireturn, 1), (40, .aload_n 0, 1), (41, .iload_n 1, 1), (42, .iconst 0, 1), (43, .iload_n 2, 1), (44, .invokevirtual 161, 3), (47, .istore 4, 2), (49, .iconst 1, 1), (50, .istore 5, 2), (52, .iload 5, 2), (54, .aload_n 0, 1), (55, .getfield 13, 3), (58, .iload_n 1, 1), (59, .iaload, 1), (60, .if_icmp .ge 56, 3), (63, .aload_n 0, 1), (64, .iload_n 1, 1), (65, .iload 5, 2), (67, .iload_n 2, 1), (68, .invokevirtual 161, 3), (71, .istore 6, 2), (73, .iload_n 3, 1), (74, .ifCond .ne 20, 3), (77, .iload 6, 2), (79, .iload 4, 2), (81, .if_icmp .ge 8, 3), (84, .iload 6, 2), (86, .goto 22, 3), (89, .iload 4, 2), (91, .goto 17, 3), (94, .iload 6, 2), (96, .iload 4, 2), (98, .if_icmp .le 8, 3), (101, .iload 6, 2), (103, .goto 5, 3), (106, .iload 4, 2), (108, .istore 4, 2), (110, .iinc 5 1, 3), (113, .goto (-61), 3), (116, .iload 4, 2), (118, .ireturn, 1)]
theorem dX6_box : ∀ q ∈ tX6_box, decode cX6_box q.1 = .ok q.2 := by decide +kernel
theorem oX6_box : MOk mX6_box 3 := ⟨Gw_t1 7 rfl rfl, Gw_t4 74 rfl rfl, ⟨by decide +kernel, by decide +kernel⟩, by decide +kernel, by decide +kernel⟩
theorem iX6_box : MIn mX6_box := ⟨Gw_t4 72 rfl rfl, Gw_t4 73 rfl rfl⟩
abbrev cX6_solid : ByteArray := prog_8_method_41_code
def yX6_solid : MethodName := ⟨RX6, "solid", "(IIII)J"⟩
def mX6_solid : MI := (yX6_solid, cX6_solid, 17, (some (.long)))
def tX6_solid : List (Nat × Instr × Nat) := [(0, .aload_n 0, 1), (1, .iload_n 1, 1), (2, .iload_n 3, 1), (3, .iconst 0, 1), (4, .invokevirtual 161, 3), (7, .i2l, 1), (8, .lstore 5, 2), (10, .aload_n 0, 1), (11, .iload_n 1, 1), (12, .iload_n 3, 1), (13, .iconst 1, 1), (14, .invokevirtual 161, 3), (17, .i2l, 1), (18, .lstore 7, 2), (20, .aload_n 0, 1), (21, .iload_n 1, 1), (22, .iload_n 3, 1), (23, .iconst 2, 1), (24, .invokevirtual 161, 3), (27, .i2l, 1), (28, .lstore 9, 2), (30, .aload_n 0, 1), (31, .iload_n 1, 1), (32, .iload 4, 2), (34, .iconst 0, 1), (35, .invokevirtual 161, 3), (38, .i2l, 1), (39, .lstore 11, 2), (41, .aload_n 0, 1), (42, .iload_n 1, 1), (43, .iload 4, 2), (45, .iconst 1, 1), (46, .invokevirtual 161, 3), (49, .i2l, 1), (50, .lstore 13, 2), (52, .aload_n 0, 1), (53, .iload_n 1, 1), (54, .iload 4, 2), (56, .iconst 2, 1), (57, .invokevirtual 161, 3), (60, .i2l, 1), (61, .lstore 15, 2), (63, .aload_n 0, 1), (64, .iload_n 1, 1), (65, .iload_n 2, 1), (66, .iconst 0, 1), (67, .invokevirtual 161, 3), (70, .i2l, 1), (71, .lload 7, 2), (73, .lload 15, 2), (75, .lmul, 1), (76, .lload 9, 2), (78, .lload 13, 2), (80, .lmul, 1), (81, .lsub, 1), (82, .lmul, 1), (83, .aload_n 0, 1), (84, .iload_n 1, 1), (85, .iload_n 2, 1), (86, .iconst 1, 1), (87, .invokevirtual 161, 3), (90, .i2l, 1), (91, .lload 9, 2), (93, .lload 11, 2), (95, .lmul, 1), (96, .lload 5, 2), (98, .lload 15, 2), (100, .lmul, 1), (101, .lsub, 1), (102, .lmul, 1), (103, .ladd, 1), (104, .aload_n 0, 1), (105, .iload_n 1, 1), (106, .iload_n 2, 1), (107, .iconst 2, 1), (108, .invokevirtual 161, 3), (111, .i2l, 1), (112, .lload 5, 2), (114, .lload 13, 2), (116, .lmul, 1), (117, .lload 7, 2), (119, .lload 11, 2), (121, .lmul, 1), (122, .lsub, 1), (123, .lmul, 1), (124, .ladd, 1), (125, .lreturn, 1)]
theorem dX6_solid : ∀ q ∈ tX6_solid, decode cX6_solid q.1 = .ok q.2 := by decide +kernel
theorem oX6_solid : MOk mX6_solid 4 := ⟨Gw_t1 7 rfl rfl, Gw_t4 85 rfl rfl, ⟨by decide +kernel, by decide +kernel⟩, by decide +kernel, by decide +kernel⟩
theorem iX6_solid : MIn mX6_solid := ⟨Gw_t4 84 rfl rfl, Gw_sel 22 rfl rfl⟩
abbrev cX6_room : ByteArray := prog_8_method_42_code
def yX6_room : MethodName := ⟨RX6, "room", "(I)J"⟩
def mX6_room : MI := (yX6_room, cX6_room, 6, (some (.long)))
def tX6_room : List (Nat × Instr × Nat) := [(0, .iload_n 1, 1), (1, .invokestatic 143, 3), (4, .ifCond .ne 7, 3), (7, .ldc2_w 168, 3), (10, .lreturn, 1), (11, .aload_n 0, 1), (12, .invokevirtual 149, 3), (15, .ifCond .ne 7, 3), (18, .ldc2_w 170, 3), (21, .lreturn, 1), (22, .lconst 0, 1), (23, .lstore_n 2, 1), (24, .iconst 0, 1), (25, .istore 4, 2), (27, .iload 4, 2), (29, .aload_n 0, 1), (30, .getfield 16, 3), (33, .iload_n 1, 1), (34, .iaload, 1), (35, .if_icmp .ge 68, 3), (38, .iconst 1, 1), (39, .istore 5, 2), (41, .iload 5, 2), (43, .iconst 1, 1), (44, .iadd, 1), (45, .aload_n 0, 1), (46, .iload_n 1, 1), (47, .iload 4, 2), (49, .invokevirtual 70, 3), (52, .if_icmp .ge 45, 3), (55, .lload_n 2, 1), (56, .aload_n 0, 1), (57, .iload_n 1, 1), (58, .aload_n 0, 1), (59, .iload_n 1, 1), (60, .iload 4, 2), (62, .iconst 0, 1), (63, .invokevirtual 74, 3), (66, .aload_n 0, 1), (67, .iload_n 1, 1), (68, .iload 4, 2), (70, .iload 5, 2), (72, .invokevirtual 74, 3), (75, .aload_n 0, 1), (76, .iload_n 1, 1), (77, .iload 4, 2), (79, .iload 5, 2), (81, .iconst 1, 1), (82, .iadd, 1), (83, .invokevirtual 74, 3), (86, .invokevirtual 172, 3), (89, .ladd, 1), (90, .lstore_n 2, 1), (91, .iinc 5 1, 3), (94, .goto (-53), 3), (97, .iinc 4 1, 3), (100, .goto (-73), 3), (103, .lload_n 2, 1), (104, .lreturn, 1)]
theorem dX6_room : ∀ q ∈ tX6_room, decode cX6_room q.1 = .ok q.2 := by decide +kernel
theorem oX6_room : MOk mX6_room 1 := ⟨Gw_t1 7 rfl rfl, Gw_t4 79 rfl rfl, ⟨by decide +kernel, by decide +kernel⟩, by decide +kernel, by decide +kernel⟩
theorem iX6_room : MIn mX6_room := ⟨Gw_t4 77 rfl rfl, Gw_t4 78 rfl rfl⟩
abbrev cX6_cut : ByteArray := prog_8_method_43_code
def yX6_cut : MethodName := ⟨RX6, "cut", "(III)I"⟩
def mX6_cut : MI := (yX6_cut, cX6_cut, 8, (some (.int)))
def tX6_cut : List (Nat × Instr × Nat) := [(0, .iload_n 1, 1), (1, .invokestatic 143, 3), (4, .ifCond .eq 10, 3), (7, .iload_n 2, 1), (8, .invokestatic 156, 3), (11, .ifCond .ne 6, 3), (14, .bipush (-101), 2), (16, .ireturn, 1), (17, .aload_n 0, 1), (18, .invokevirtual 149, 3), (21, .ifCond .ne 6, 3), (24, .bipush (-103), 2), (26, .ireturn, 1), (27, .iconst 0, 1), (28, .istore 4, 2), (30, .iconst 0, 1), (31, .istore 5, 2), (33, .iload 5, 2), (35, .aload_n 0, 1), (36, .getfield 19, 3), (39, .iload_n 1, 1), (40, .iaload, 1), (41, .if_icmp .ge 86, 3), (44, .aload_n 0, 1), (45, .iload_n 1, 1), (46, .aload_n 0, 1), (47, .getfield 34, 3), (50, .sipush 350, 3), (53, .iload_n 1, 1), (54, .imul, 1), (55, .iload 5, 2), (57, .iadd, 1), (58, .iaload, 1), (59, .iload_n 2, 1), (60, .invokevirtual 161, 3), (63, .iload_n 3, 1), (64, .if_icmp .ge 7, 3), (67, .iconst 1, 1), (68, .goto 4, 3), (71, .iconst 0, 1), (72, .istore 6, 2), (74, .aload_n 0, 1), (75, .iload_n 1, 1), (76, .aload_n 0, 1), (77, .getfield 37, 3), (80, .sipush 350, 3), (83, .iload_n 1, 1), (84, .imul, 1), (85, .iload 5, 2), (87, .iadd, 1), (88, .iaload, 1), (89, .iload_n 2, 1), (90, .invokevirtual 161, 3), (93, .iload_n 3, 1), (94, .if_icmp .ge 7, 3), (97, .iconst 1, 1), (98, .goto 4, 3), (101, .iconst 0, 1), (102, .istore 7, 2), (104, .iload 4, 2), (106, .iload 6, 2), (108, .iload 7, 2), (110, .if_icmp .eq 7, 3), (113, .iconst 1, 1), (114, .goto 4, 3), (117, .iconst 0, 1), (118, .iadd, 1), (119, .istore 4, 2), (121, .iinc 5 1, 3), (124, .goto (-91), 3), (127, .iload 4, 2), (129, .ireturn, 1)]
theorem dX6_cut : ∀ q ∈ tX6_cut, decode cX6_cut q.1 = .ok q.2 := by decide +kernel
theorem oX6_cut : MOk mX6_cut 3 := ⟨Gw_t1 7 rfl rfl, Gw_t4 89 rfl rfl, ⟨by decide +kernel, by decide +kernel⟩, by decide +kernel, by decide +kernel⟩
theorem iX6_cut : MIn mX6_cut := ⟨Gw_t4 87 rfl rfl, Gw_t4 88 rfl rfl⟩
abbrev cX6_square : ByteArray := prog_8_method_44_code
def yX6_square : MethodName := ⟨RX6, "square", "(J)J"⟩
def mX6_square : MI := (yX6_square, cX6_square, 2, (some (.long)))
def tX6_square : List (Nat × Instr × Nat) := [(0, .lload_n 0, 1), (1, .lload_n 0, 1), (2, .lmul, 1), (3, .lreturn, 1)]
theorem dX6_square : ∀ q ∈ tX6_square, decode cX6_square q.1 = .ok q.2 := by decide +kernel
theorem oX6_square : MOk mX6_square 1 := ⟨Gw_t1 7 rfl rfl, Gw_t4 98 rfl rfl, ⟨by decide +kernel, by decide +kernel⟩, by decide +kernel, by decide +kernel⟩
theorem sX6_square : MSt mX6_square := Gw_t4 97 rfl rfl
abbrev cX6_near : ByteArray := prog_8_method_45_code
def yX6_near : MethodName := ⟨RX6, "near", "(IIII)I"⟩
def mX6_near : MI := (yX6_near, cX6_near, 11, (some (.int)))
def tX6_near : List (Nat × Instr × Nat) := [(0, .iload_n 1, 1), (1, .invokestatic 143, 3), (4, .ifCond .ne 6, 3), (7, .bipush (-101), 2), (9, .ireturn, 1), (10, .iload_n 2, 1), (11, .i2l, 1), (12, .ldc2_w 176, 3), (15, .ldc2_w 178, 3), (18, .invokestatic 59, 3), (21, .ifCond .eq 32, 3), (24, .iload_n 3, 1), (25, .i2l, 1), (26, .ldc2_w 176, 3), (29, .ldc2_w 178, 3), (32, .invokestatic 59, 3), (35, .ifCond .eq 18, 3), (38, .iload 4, 2), (40, .i2l, 1), (41, .ldc2_w 176, 3), (44, .ldc2_w 178, 3), (47, .invokestatic 59, 3), (50, .ifCond .ne 6, 3), (53, .bipush (-102), 2), (55, .ireturn, 1), (56, .aload_n 0, 1), (57, .invokevirtual 149, 3), (60, .ifCond .ne 6, 3), (63, .bipush (-103), 2), (65, .ireturn, 1), (66, .iconst (-1), 1), (67, .istore 5, 2), (69, .lconst 0, 1), (70, .lstore 6, 2), (72, .iconst 0, 1), (73, .istore 8, 2), (75, .iload 8, 2), (77, .aload_n 0, 1), (78, .getfield 13, 3), (81, .iload_n 1, 1), (82, .iaload, 1), (83, .if_icmp .ge 81, 3), (86, .iload_n 2, 1), (87, .i2l, 1), (88, .aload_n 0, 1), (89, .iload_n 1, 1), (90, .iload 8, 2), (92, .iconst 0, 1), (93, .invokevirtual 161, 3), (96, .i2l, 1), (97, .lsub, 1), (98, .invokestatic 180, 3), (101, .iload_n 3, 1), (102, .i2l, 1), (103, .aload_n 0, 1), (104, .iload_n 1, 1), (105, .iload 8, 2), (107, .iconst 1, 1), (108, .invokevirtual 161, 3), (111, .i2l, 1), (112, .lsub, 1), (113, .invokestatic 180, 3), (116, .ladd, 1), (117, .iload 4, 2), (119, .i2l, 1), (120, .aload_n 0, 1), (121, .iload_n 1, 1), (122, .iload 8, 2), (124, .iconst 2, 1), (125, .invokevirtual 161, 3), (128, .i2l, 1), (129, .lsub, 1), (130, .invokestatic 180, 3), (133, .ladd, 1), (134, .lstore 9, 2), (136, .iload 5, 2), (138, .iconst (-1), 1), (139, .if_icmp .eq 11, 3), (142, .lload 9, 2), (144, .lload 6, 2), (146, .lcmp, 1), (147, .ifCond .ge 11, 3), (150, .iload 8, 2), (152, .istore 5, 2), (154, .lload 9, 2), (156, .lstore 6, 2), (158, .iinc 8 1, 3), (161, .goto (-86), 3), (164, .iload 5, 2), (166, .ireturn, 1)]
theorem dX6_near : ∀ q ∈ tX6_near, decode cX6_near q.1 = .ok q.2 := by decide +kernel
theorem oX6_near : MOk mX6_near 4 := ⟨Gw_t1 7 rfl rfl, Gw_t4 93 rfl rfl, ⟨by decide +kernel, by decide +kernel⟩, by decide +kernel, by decide +kernel⟩
theorem iX6_near : MIn mX6_near := ⟨Gw_t4 91 rfl rfl, Gw_t4 92 rfl rfl⟩
abbrev cX6_moveOf : ByteArray := prog_8_method_46_code
def yX6_moveOf : MethodName := ⟨RX6, "moveOf", "(I)I"⟩
def mX6_moveOf : MI := (yX6_moveOf, cX6_moveOf, 3, (some (.int)))
def tX6_moveOf : List (Nat × Instr × Nat) := [(0, .iconst 0, 1), (1, .istore_n 2, 1), (2, .iload_n 2, 1), (3, .aload_n 0, 1), (4, .getfield 86, 3), (7, .if_icmp .ge 19, 3), (10, .aload_n 0, 1), (11, .getfield 40, 3), (14, .iload_n 2, 1), (15, .iaload, 1), (16, .iload_n 1, 1), (17, .if_icmp .ge 9, 3), (20, .iinc 2 1, 3), (23, .goto (-21), 3), (26, .iload_n 2, 1), (27, .ireturn, 1)]
theorem dX6_moveOf : ∀ q ∈ tX6_moveOf, decode cX6_moveOf q.1 = .ok q.2 := by decide +kernel
theorem oX6_moveOf : MOk mX6_moveOf 1 := ⟨Gw_t1 7 rfl rfl, Gw_t4 13 rfl rfl, ⟨by decide +kernel, by decide +kernel⟩, by decide +kernel, by decide +kernel⟩
theorem iX6_moveOf : MIn mX6_moveOf := ⟨Gw_t4 12 rfl rfl, Gw_sel 15 rfl rfl⟩
abbrev cX6_movedOf : ByteArray := prog_8_method_47_code
def yX6_movedOf : MethodName := ⟨RX6, "movedOf", "(III)I"⟩
def mX6_movedOf : MI := (yX6_movedOf, cX6_movedOf, 6, (some (.int)))
def tX6_movedOf : List (Nat × Instr × Nat) := [(0, .sipush 10000, 3), (3, .iload_n 1, 1), (4, .imul, 1), (5, .iload_n 2, 1), (6, .iadd, 1), (7, .istore 4, 2), (9, .aload_n 0, 1), (10, .iload 4, 2), (12, .invokevirtual 184, 3), (15, .istore 5, 2), (17, .iload 5, 2), (19, .aload_n 0, 1), (20, .getfield 86, 3), (23, .if_icmp .ge 29, 3), (26, .aload_n 0, 1), (27, .getfield 40, 3), (30, .iload 5, 2), (32, .iaload, 1), (33, .iload 4, 2), (35, .if_icmp .ne 17, 3), (38, .aload_n 0, 1), (39, .getfield 43, 3), (42, .iconst 3, 1), (43, .iload 5, 2), (45, .imul, 1), (46, .iload_n 3, 1), (47, .iadd, 1), (48, .iaload, 1), (49, .goto 4, 3), (52, .iconst 0, 1), (53, .ireturn, 1)]
theorem dX6_movedOf : ∀ q ∈ tX6_movedOf, decode cX6_movedOf q.1 = .ok q.2 := by decide +kernel
theorem oX6_movedOf : MOk mX6_movedOf 3 := ⟨Gw_t1 7 rfl rfl, Gw_t4 9 rfl rfl, ⟨by decide +kernel, by decide +kernel⟩, by decide +kernel, by decide +kernel⟩
theorem iX6_movedOf : MIn mX6_movedOf := ⟨Gw_t4 8 rfl rfl, Gw_sel 14 rfl rfl⟩
abbrev cX6_move : ByteArray := prog_8_method_48_code
def yX6_move : MethodName := ⟨RX6, "move", "(IIIII)I"⟩
def mX6_move : MI := (yX6_move, cX6_move, 12, (some (.int)))
def tX6_move : List (Nat × Instr × Nat) := [(0, .iload_n 1, 1), (1, .i2l, 1), (2, .lconst 1, 1), (3, .ldc2_w 82, 3), (6, .invokestatic 59, 3), (9, .ifCond .eq 15, 3), (12, .iload_n 2, 1), (13, .i2l, 1), (14, .lconst 0, 1), (15, .ldc2_w 80, 3), (18, .invokestatic 59, 3), (21, .ifCond .ne 6, 3), (24, .bipush (-101), 2), (26, .ireturn, 1), (27, .iload_n 3, 1), (28, .i2l, 1), (29, .ldc2_w 78, 3), (32, .ldc2_w 80, 3), (35, .invokestatic 59, 3), (38, .ifCond .eq 33, 3), (41, .iload 4, 2), (43, .i2l, 1), (44, .ldc2_w 78, 3), (47, .ldc2_w 80, 3), (50, .invokestatic 59, 3), (53, .ifCond .eq 18, 3), (56, .iload 5, 2), (58, .i2l, 1), (59, .ldc2_w 78, 3), (62, .ldc2_w 80, 3), (65, .invokestatic 59, 3), (68, .ifCond .ne 6, 3), (71, .bipush (-102), 2), (73, .ireturn, 1), (74, .sipush 10000, 3), (77, .iload_n 1, 1), (78, .imul, 1), (79, .iload_n 2, 1), (80, .iadd, 1), (81, .istore 6, 2), (83, .aload_n 0, 1), (84, .iload 6, 2), (86, .invokevirtual 184, 3), (89, .istore 7, 2), (91, .iload 7, 2), (93, .aload_n 0, 1), (94, .getfield 86, 3), (97, .if_icmp .ge 19, 3), (100, .aload_n 0, 1), (101, .getfield 40, 3), (104, .iload 7, 2), (106, .iaload, 1), (107, .iload 6, 2), (109, .if_icmp .ne 7, 3), (112, .iconst 1, 1), (113, .goto 4, 3), (116, .iconst 0, 1), (117, .istore 8, 2), (119, .iload_n 3, 1), (120, .ifCond .ne 17, 3), (123, .iload 4, 2), (125, .ifCond .ne 12, 3), (128, .iload 5, 2), (130, .ifCond .ne 7, 3), (133, .iconst 1, 1), (134, .goto 4, 3), (137, .iconst 0, 1), (138, .istore 9, 2), (140, .iload 8, 2), (142, .ifCond .ne 20, 3), (145, .iload 9, 2), (147, .ifCond .ne 15, 3), (150, .aload_n 0, 1), (151, .getfield 86, 3), (154, .bipush 40, 2), (156, .if_icmp .ne 6, 3), (159, .bipush (-104), 2), (161, .ireturn, 1), (162, .iload 8, 2), (164, .ifCond .eq 94, 3), (167, .iload 9, 2), (169, .ifCond .eq 89, 3), (172, .aload_n 0, 1), (173, .dup, 1), (174, .getfield 86, 3), (177, .iconst 1, 1), (178, .isub, 1), (179, .putfield 86, 3), (182, .iload 7, 2), (184, .istore 10, 2), (186, .iload 10, 2), (188, .aload_n 0, 1), (189, .getfield 86, 3), (192, .if_icmp .ge 66, 3), (195, .aload_n 0, 1), (196, .getfield 40, 3), (199, .iload 10, 2), (201, .aload_n 0, 1), (202, .getfield 40, 3), (205, .iload 10, 2), (207, .iconst 1, 1), (208, .iadd, 1), (209, .iaload, 1), (210, .iastore, 1), (211, .iconst 0, 1), (212, .istore 11, 2), (214, .iload 11, 2), (216, .iconst 3, 1), (217, .if_icmp .ge 35, 3), (220, .aload_n 0, 1), (221, .getfield 43, 3), (224, .iconst 3, 1), (225, .iload 10, 2), (227, .imul, 1), (228, .iload 11, 2), (230, .iadd, 1), (231, .aload_n 0, 1), (232, .getfield 43, 3), (235, .iconst 3, 1), (236, .iload 10, 2), (238, .imul, 1), (239, .iconst 3, 1), (240, .iadd, 1), (241, .iload 11, 2), (243, .iadd, 1), (244, .iaload, 1), (245, .iastore, 1), (246, .iinc 11 1, 3), (249, .goto (-35), 3), (252, .iinc 10 1, 3), (255, .goto (-69), 3), (258, .iload 8, 2), (260, .ifCond .ne 94, 3), (263, .iload 9, 2), (265, .ifCond .ne 89, 3), (268, .aload_n 0, 1), (269, .getfield 86, 3), (272, .istore 10, 2), (274, .iload 10, 2), (276, .iload 7, 2), (278, .if_icmp .le 66, 3), (281, .aload_n 0, 1), (282, .getfield 40, 3), (285, .iload 10, 2), (287, .aload_n 0, 1), (288, .getfield 40, 3), (291, .iload 10, 2), (293, .iconst 1, 1), (294, .isub, 1), (295, .iaload, 1), (296, .iastore, 1), (297, .iconst 0, 1), (298, .istore 11, 2), (300, .iload 11, 2), (302, .iconst 3, 1), (303, .if_icmp .ge 35, 3), (306, .aload_n 0, 1), (307, .getfield 43, 3), (310, .iconst 3, 1), (311, .iload 10, 2), (313, .imul, 1), (314, .iload 11, 2), (316, .iadd, 1), (317, .aload_n 0, 1), (318, .getfield 43, 3), (321, .iconst 3, 1), (322, .iload 10, 2), (324, .imul, 1), (325, .iconst 3, 1), (326, .isub, 1), (327, .iload 11, 2), (329, .iadd, 1), (330, .iaload, 1), (331, .iastore, 1), (332, .iinc 11 1, 3), (335, .goto (-35), 3), (338, .iinc 10 (-1), 3), (341, .goto (-67), 3), (344, .aload_n 0, 1), (345, .dup, 1), (346, .getfield 86, 3), (349, .iconst 1, 1), (350, .iadd, 1), (351, .putfield 86, 3), (354, .iload 9, 2), (356, .ifCond .ne 48, 3), (359, .aload_n 0, 1), (360, .getfield 40, 3), (363, .iload 7, 2), (365, .iload 6, 2), (367, .iastore, 1), (368, .aload_n 0, 1), (369, .getfield 43, 3), (372, .iconst 3, 1), (373, .iload 7, 2), (375, .imul, 1), (376, .iload_n 3, 1), (377, .iastore, 1), (378, .aload_n 0, 1), (379, .getfield 43, 3), (382, .iconst 3, 1), (383, .iload 7, 2), (385, .imul, 1), (386, .iconst 1, 1), (387, .iadd, 1), (388, .iload 4, 2), (390, .iastore, 1), (391, .aload_n 0, 1), (392, .getfield 43, 3), (395, .iconst 3, 1), (396, .iload 7, 2), (398, .imul, 1), (399, .iconst 2, 1), (400, .iadd, 1), (401, .iload 5, 2), (403, .iastore, 1), (404, .aload_n 0, 1), (405, .iconst 1, 1), (406, .putfield 50, 3), (409, .aload_n 0, 1), (410, .getfield 86, 3), (413, .ireturn, 1)]
theorem dX6_move : ∀ q ∈ tX6_move, decode cX6_move q.1 = .ok q.2 := by decide +kernel
theorem oX6_move : MOk mX6_move 5 := ⟨Gw_t1 7 rfl rfl, Gw_t4 102 rfl rfl, ⟨by decide +kernel, by decide +kernel⟩, by decide +kernel, by decide +kernel⟩
theorem iX6_move : MIn mX6_move := ⟨Gw_t4 100 rfl rfl, Gw_t4 101 rfl rfl⟩
abbrev cX6_moved : ByteArray := prog_8_method_49_code
def yX6_moved : MethodName := ⟨RX6, "moved", "(III)I"⟩
def mX6_moved : MI := (yX6_moved, cX6_moved, 4, (some (.int)))
def tX6_moved : List (Nat × Instr × Nat) := [(0, .iload_n 1, 1), (1, .i2l, 1), (2, .lconst 1, 1), (3, .ldc2_w 82, 3), (6, .invokestatic 59, 3), (9, .ifCond .eq 32, 3), (12, .iload_n 2, 1), (13, .i2l, 1), (14, .lconst 0, 1), (15, .ldc2_w 80, 3), (18, .invokestatic 59, 3), (21, .ifCond .eq 20, 3), (24, .iload_n 3, 1), (25, .invokestatic 156, 3), (28, .ifCond .eq 13, 3), (31, .aload_n 0, 1), (32, .iload_n 1, 1), (33, .iload_n 2, 1), (34, .iload_n 3, 1), (35, .invokevirtual 121, 3), (38, .goto 4, 3), (41, .iconst 0, 1), (42, .ireturn, 1)]
theorem dX6_moved : ∀ q ∈ tX6_moved, decode cX6_moved q.1 = .ok q.2 := by decide +kernel
theorem oX6_moved : MOk mX6_moved 3 := ⟨Gw_t1 7 rfl rfl, Gw_t4 106 rfl rfl, ⟨by decide +kernel, by decide +kernel⟩, by decide +kernel, by decide +kernel⟩
theorem iX6_moved : MIn mX6_moved := ⟨Gw_t4 104 rfl rfl, Gw_t4 105 rfl rfl⟩
abbrev cX6_cause : ByteArray := prog_8_method_50_code
def yX6_cause : MethodName := ⟨RX6, "cause", "()I"⟩
def mX6_cause : MI := (yX6_cause, cX6_cause, 1, (some (.int)))
def tX6_cause : List (Nat × Instr × Nat) := [(0, .aload_n 0, 1), (1, .getfield 54, 3), (4, .ireturn, 1)]
theorem dX6_cause : ∀ q ∈ tX6_cause, decode cX6_cause q.1 = .ok q.2 := by decide +kernel
theorem oX6_cause : MOk mX6_cause 0 := ⟨Gw_t1 7 rfl rfl, Gw_t4 110 rfl rfl, ⟨by decide +kernel, by decide +kernel⟩, by decide +kernel, by decide +kernel⟩
theorem iX6_cause : MIn mX6_cause := ⟨Gw_t4 108 rfl rfl, Gw_t4 109 rfl rfl⟩
abbrev cX6_count : ByteArray := prog_8_method_51_code
def yX6_count : MethodName := ⟨RX6, "count", "(I)I"⟩
def mX6_count : MI := (yX6_count, cX6_count, 2, (some (.int)))
def tX6_count : List (Nat × Instr × Nat) := [(0, .iload_n 1, 1), (1, .tableswitch 67 0 3 #[31, 38, 45, 50], 31), (32, .aload_n 0, 1), (33, .getfield 13, 3), (36, .iconst 0, 1), (37, .iaload, 1), (38, .ireturn, 1), (39, .aload_n 0, 1), (40, .getfield 16, 3), (43, .iconst 0, 1), (44, .iaload, 1), (45, .ireturn, 1), (46, .aload_n 0, 1), (47, .getfield 86, 3), (50, .ireturn, 1), (51, .aload_n 0, 1), (52, .getfield 46, 3), (55, .iconst (-1), 1), (56, .if_icmp .ne 7, 3), (59, .iconst (-1), 1), (60, .goto 7, 3), (63, .aload_n 0, 1), (64, .getfield 67, 3), (67, .ireturn, 1), (68, .bipush (-102), 2), (70, .ireturn, 1)]
theorem dX6_count : ∀ q ∈ tX6_count, decode cX6_count q.1 = .ok q.2 := by decide +kernel
theorem oX6_count : MOk mX6_count 1 := ⟨Gw_t1 7 rfl rfl, Gw_t4 114 rfl rfl, ⟨by decide +kernel, by decide +kernel⟩, by decide +kernel, by decide +kernel⟩
theorem iX6_count : MIn mX6_count := ⟨Gw_t4 112 rfl rfl, Gw_t4 113 rfl rfl⟩
abbrev cX6_digest : ByteArray := prog_8_method_52_code
def yX6_digest : MethodName := ⟨RX6, "digest", "()J"⟩
def mX6_digest : MI := (yX6_digest, cX6_digest, 5, (some (.long)))
def tX6_digest : List (Nat × Instr × Nat) := [(0, .aload_n 0, 1), (1, .invokevirtual 140, 3), (4, .ldc2_w 187, 3), (7, .lstore_n 1, 1), (8, .iconst 0, 1), (9, .istore_n 3, 1), (10, .iload_n 3, 1), (11, .iconst 3, 1), (12, .aload_n 0, 1), (13, .getfield 13, 3), (16, .iconst 0, 1), (17, .iaload, 1), (18, .imul, 1), (19, .if_icmp .ge 23, 3), (22, .ldc2_w 189, 3), (25, .lload_n 1, 1), (26, .lmul, 1), (27, .aload_n 0, 1), (28, .getfield 22, 3), (31, .iload_n 3, 1), (32, .iaload, 1), (33, .i2l, 1), (34, .ladd, 1), (35, .lstore_n 1, 1), (36, .iinc 3 1, 3), (39, .goto (-29), 3), (42, .iconst 0, 1), (43, .istore_n 3, 1), (44, .iload_n 3, 1), (45, .aload_n 0, 1), (46, .getfield 16, 3), (49, .iconst 0, 1), (50, .iaload, 1), (51, .if_icmp .ge 59, 3), (54, .ldc2_w 189, 3), (57, .lload_n 1, 1), (58, .lmul, 1), (59, .aload_n 0, 1), (60, .getfield 28, 3), (63, .iload_n 3, 1), (64, .iaload, 1), (65, .i2l, 1), (66, .ladd, 1), (67, .lstore_n 1, 1), (68, .iconst 0, 1), (69, .istore 4, 2), (71, .iload 4, 2), (73, .aload_n 0, 1), (74, .getfield 28, 3), (77, .iload_n 3, 1), (78, .iaload, 1), (79, .if_icmp .ge 25, 3), (82, .ldc2_w 189, 3), (85, .lload_n 1, 1), (86, .lmul, 1), (87, .aload_n 0, 1), (88, .iconst 0, 1), (89, .iload_n 3, 1), (90, .iload 4, 2), (92, .invokevirtual 74, 3), (95, .i2l, 1), (96, .ladd, 1), (97, .lstore_n 1, 1), (98, .iinc 4 1, 3), (101, .goto (-30), 3), (104, .iinc 3 1, 3), (107, .goto (-63), 3), (110, .iconst 0, 1), (111, .istore_n 3, 1), (112, .iload_n 3, 1), (113, .aload_n 0, 1), (114, .getfield 86, 3), (117, .if_icmp .ge 61, 3), (120, .ldc2_w 189, 3), (123, .lload_n 1, 1), (124, .lmul, 1), (125, .aload_n 0, 1), (126, .getfield 40, 3), (129, .iload_n 3, 1), (130, .iaload, 1), (131, .sipush 10000, 3), (134, .irem, 1), (135, .i2l, 1), (136, .ladd, 1), (137, .lstore_n 1, 1), (138, .iconst 0, 1), (139, .istore 4, 2), (141, .iload 4, 2), (143, .iconst 3, 1), (144, .if_icmp .ge 28, 3), (147, .ldc2_w 189, 3), (150, .lload_n 1, 1), (151, .lmul, 1), (152, .aload_n 0, 1), (153, .getfield 43, 3), (156, .iconst 3, 1), (157, .iload_n 3, 1), (158, .imul, 1), (159, .iload 4, 2), (161, .iadd, 1), (162, .iaload, 1), (163, .i2l, 1), (164, .ladd, 1), (165, .lstore_n 1, 1), (166, .iinc 4 1, 3), (169, .goto (-28), 3), (172, .iinc 3 1, 3), (175, .goto (-63), 3), (178, .ldc2_w 189, 3), (181, .lload_n 1, 1), (182, .lmul, 1), (183, .aload_n 0, 1), (184, .getfield 99, 3), (187, .i2l, 1), (188, .ladd, 1), (189, .lstore_n 1, 1), (190, .iconst 0, 1), (191, .istore_n 3, 1), (192, .iload_n 3, 1), (193, .aload_n 0, 1), (194, .getfield 13, 3), (197, .iconst 2, 1), (198, .iaload, 1), (199, .if_icmp .ge 47, 3), (202, .aload_n 0, 1), (203, .getfield 99, 3), (206, .ifCond .ne 40, 3), (209, .iconst 0, 1), (210, .istore 4, 2), (212, .iload 4, 2), (214, .iconst 3, 1), (215, .if_icmp .ge 25, 3), (218, .ldc2_w 189, 3), (221, .lload_n 1, 1), (222, .lmul, 1), (223, .aload_n 0, 1), (224, .iconst 2, 1), (225, .iload_n 3, 1), (226, .iload 4, 2), (228, .invokevirtual 161, 3), (231, .i2l, 1), (232, .ladd, 1), (233, .lstore_n 1, 1), (234, .iinc 4 1, 3), (237, .goto (-25), 3), (240, .iinc 3 1, 3), (243, .goto (-51), 3), (246, .lload_n 1, 1), (247, .lreturn, 1)]
theorem dX6_digest : ∀ q ∈ tX6_digest, decode cX6_digest q.1 = .ok q.2 := by decide +kernel
theorem oX6_digest : MOk mX6_digest 0 := ⟨Gw_t1 7 rfl rfl, Gw_t4 118 rfl rfl, ⟨by decide +kernel, by decide +kernel⟩, by decide +kernel, by decide +kernel⟩
theorem iX6_digest : MIn mX6_digest := ⟨Gw_t4 116 rfl rfl, Gw_t4 117 rfl rfl⟩
theorem mlX5_11 : Cond.methodLink RX5 11 yX3_init ∈ Gw := Gw_t1 19 rfl rfl
theorem mlX5_18 : Cond.methodLink RX5 18 yX4_init ∈ Gw := Gw_t1 39 rfl rfl
theorem mlX4_17 : Cond.methodLink RX4 17 yX2_init ∈ Gw := Gw_t1 46 rfl rfl
theorem mlX4_26 : Cond.methodLink RX4 26 yX0_init ∈ Gw := Gw_t1 104 rfl rfl
theorem mlX4_33 : Cond.methodLink RX4 33 yX1_init ∈ Gw := Gw_t1 122 rfl rfl
theorem mlX5_27 : Cond.methodLink RX5 27 yX5_isLane ∈ Gw := Gw_t1 180 rfl rfl
theorem mlX5_31 : Cond.methodLink RX5 31 yX5_fail ∈ Gw := Gw_t1 183 rfl rfl
theorem mlX5_35 : Cond.methodLink RX5 35 yX3_renew ∈ Gw := Gw_t1 187 rfl rfl
theorem mlX5_39 : Cond.methodLink RX5 39 yX3_isLost ∈ Gw := Gw_t1 195 rfl rfl
theorem mlX5_49 : Cond.methodLink RX5 49 yX3_write ∈ Gw := Gw_t1 199 rfl rfl
theorem mlX5_56 : Cond.methodLink RX5 56 yX3_hasNumbersWithin ∈ Gw := Gw_t1 211 rfl rfl
theorem mlX5_69 : Cond.methodLink RX5 69 yX2_addCorner ∈ Gw := Gw_t1 215 rfl rfl
theorem mlX5_73 : Cond.methodLink RX5 73 yX4_forgetShapes ∈ Gw := Gw_t1 219 rfl rfl
theorem mlX5_76 : Cond.methodLink RX5 76 yX2_hasCorner ∈ Gw := Gw_t1 227 rfl rfl
theorem mlX5_79 : Cond.methodLink RX5 79 yX5_isAxis ∈ Gw := Gw_t1 231 rfl rfl
theorem mlX5_82 : Cond.methodLink RX5 82 yX5_isWithin ∈ Gw := Gw_t1 234 rfl rfl
theorem mlX5_87 : Cond.methodLink RX5 87 yX4_forgetNumbersAbove ∈ Gw := Gw_t1 237 rfl rfl
theorem mlX5_94 : Cond.methodLink RX5 94 yX2_addPlate ∈ Gw := Gw_t2 8 rfl rfl
theorem mlX2_53 : Cond.methodLink RX2 53 yX2_steps ∈ Gw := Gw_t2 12 rfl rfl
theorem mlX2_57 : Cond.methodLink RX2 57 yX2_closePlate ∈ Gw := Gw_t2 16 rfl rfl
theorem mlX5_98 : Cond.methodLink RX5 98 yX2_hasPlate ∈ Gw := Gw_t2 28 rfl rfl
theorem mlX5_101 : Cond.methodLink RX5 101 yX2_turnPlate ∈ Gw := Gw_t2 32 rfl rfl
theorem mlX5_113 : Cond.methodLink RX5 113 yX4_findFault ∈ Gw := Gw_t2 44 rfl rfl
theorem mlX4_55 : Cond.methodLink RX4 55 yX0_look ∈ Gw := Gw_t2 48 rfl rfl
theorem mlX0_27 : Cond.methodLink RX0 27 yX0_plateWithTwice ∈ Gw := Gw_t2 52 rfl rfl
theorem mlX0_31 : Cond.methodLink RX0 31 yX0_tells ∈ Gw := Gw_t2 56 rfl rfl
theorem mlX0_35 : Cond.methodLink RX0 35 yX0_plateWithDouble ∈ Gw := Gw_t2 60 rfl rfl
theorem mlX0_60 : Cond.methodLink RX0 60 yX2_steps ∈ Gw := Gw_t2 64 rfl rfl
theorem mlX0_64 : Cond.methodLink RX0 64 yX2_stepTarget ∈ Gw := Gw_t2 65 rfl rfl
theorem mlX2_46 : Cond.methodLink RX2 46 yX2_stepAfter ∈ Gw := Gw_t2 69 rfl rfl
theorem mlX0_38 : Cond.methodLink RX0 38 yX0_plateWithOpen ∈ Gw := Gw_t2 73 rfl rfl
theorem mlX0_41 : Cond.methodLink RX0 41 yX2_numberEdges ∈ Gw := Gw_t2 77 rfl rfl
theorem mlX0_44 : Cond.methodLink RX0 44 yX2_findDoors ∈ Gw := Gw_t2 81 rfl rfl
theorem mlX0_47 : Cond.methodLink RX0 47 yX0_cornerOfDegree ∈ Gw := Gw_t2 85 rfl rfl
theorem mlX0_51 : Cond.methodLink RX0 51 yX0_cornerPinched ∈ Gw := Gw_t2 89 rfl rfl
theorem mlX0_83 : Cond.methodLink RX0 83 yX0_ringLength ∈ Gw := Gw_t2 93 rfl rfl
theorem mlX0_87 : Cond.methodLink RX0 87 yX2_stepBefore ∈ Gw := Gw_t2 97 rfl rfl
theorem mlX5_126 : Cond.methodLink RX5 126 yX5_isLevel ∈ Gw := Gw_t2 105 rfl rfl
theorem mlX5_129 : Cond.methodLink RX5 129 yX4_reach ∈ Gw := Gw_t2 108 rfl rfl
theorem mlX4_62 : Cond.methodLink RX4 62 yX4_findFault ∈ Gw := Gw_t2 112 rfl rfl
theorem mlX4_66 : Cond.methodLink RX4 66 yX2_shapeFrom ∈ Gw := Gw_t2 113 rfl rfl
theorem mlX2_64 : Cond.methodLink RX2 64 yX2_shrinkPlates ∈ Gw := Gw_t2 117 rfl rfl
theorem mlX2_68 : Cond.methodLink RX2 68 yX2_addCornerPlate ∈ Gw := Gw_t2 121 rfl rfl
theorem mlX2_78 : Cond.methodLink RX2 78 yX2_stepBefore ∈ Gw := Gw_t2 125 rfl rfl
theorem mlX2_72 : Cond.methodLink RX2 72 yX2_numberEdges ∈ Gw := Gw_t2 126 rfl rfl
theorem mlX2_75 : Cond.methodLink RX2 75 yX2_findDoors ∈ Gw := Gw_t2 127 rfl rfl
theorem mlX4_69 : Cond.methodLink RX4 69 yX2_sumFrom ∈ Gw := Gw_t2 128 rfl rfl
theorem mlX2_81 : Cond.methodLink RX2 81 yX2_whence ∈ Gw := Gw_t2 132 rfl rfl
theorem mlX2_84 : Cond.methodLink RX2 84 yX2_whither ∈ Gw := Gw_t2 136 rfl rfl
theorem mlX2_50 : Cond.methodLink RX2 50 yX2_stepTarget ∈ Gw := Gw_t2 140 rfl rfl
theorem mlX4_72 : Cond.methodLink RX4 72 yX1_addTo ∈ Gw := Gw_t2 141 rfl rfl
theorem mlX1_36 : Cond.methodLink RX1 36 yX2_hasCorner ∈ Gw := Gw_t2 145 rfl rfl
theorem mlX5_136 : Cond.methodLink RX5 136 yX2_oddCorners ∈ Gw := Gw_t2 146 rfl rfl
theorem mlX5_139 : Cond.methodLink RX5 139 yX2_oddPlates ∈ Gw := Gw_t2 150 rfl rfl
theorem mlX2_87 : Cond.methodLink RX2 87 yX2_sizeOf ∈ Gw := Gw_t2 154 rfl rfl
theorem kcX5_142 : Cond.constant RX5 142 (-2000000001) ∈ Gw := Gw_t2 162 rfl rfl
theorem kcX5_143 : Cond.constant RX5 143 (-2000000003) ∈ Gw := Gw_t2 163 rfl rfl
theorem mlX5_144 : Cond.methodLink RX5 144 yX5_isSide ∈ Gw := Gw_t2 168 rfl rfl
theorem mlX5_147 : Cond.methodLink RX5 147 yX2_whence ∈ Gw := Gw_t2 171 rfl rfl
theorem mlX5_150 : Cond.methodLink RX5 150 yX2_whither ∈ Gw := Gw_t2 172 rfl rfl
theorem mlX5_153 : Cond.methodLink RX5 153 yX2_sizeOf ∈ Gw := Gw_t2 177 rfl rfl
theorem mlX5_162 : Cond.methodLink RX5 162 yX2_sumOfPlate ∈ Gw := Gw_t2 186 rfl rfl
theorem kcX5_166 : Cond.constant RX5 166 (-2000000002) ∈ Gw := Gw_t2 194 rfl rfl
theorem mlX5_167 : Cond.methodLink RX5 167 yX2_least ∈ Gw := Gw_t2 195 rfl rfl
theorem mlX5_170 : Cond.methodLink RX5 170 yX2_greatest ∈ Gw := Gw_t2 200 rfl rfl
theorem klX5_173 : Cond.constantLong RX5 173 (-101) ∈ Gw := Gw_t2 211 rfl rfl
theorem klX5_175 : Cond.constantLong RX5 175 (-103) ∈ Gw := Gw_t2 212 rfl rfl
theorem mlX5_177 : Cond.methodLink RX5 177 yX2_sixfoldRoom ∈ Gw := Gw_t2 213 rfl rfl
theorem mlX2_99 : Cond.methodLink RX2 99 yX2_sixfoldWedge ∈ Gw := Gw_t2 217 rfl rfl
theorem mlX2_103 : Cond.methodLink RX2 103 yX2_crossed ∈ Gw := Gw_t2 221 rfl rfl
theorem mlX5_181 : Cond.methodLink RX5 181 yX2_crossings ∈ Gw := Gw_t2 229 rfl rfl
theorem kcX5_184 : Cond.constant RX5 184 (100000) ∈ Gw := Gw_t2 237 rfl rfl
theorem mlX5_185 : Cond.methodLink RX5 185 yX5_areWithin ∈ Gw := Gw_t2 238 rfl rfl
theorem mlX5_189 : Cond.methodLink RX5 189 yX2_nearest ∈ Gw := Gw_t3 1 rfl rfl
theorem mlX2_107 : Cond.methodLink RX2 107 yX2_squareTo ∈ Gw := Gw_t3 5 rfl rfl
theorem mlX5_193 : Cond.methodLink RX5 193 yX5_isMovable ∈ Gw := Gw_t3 13 rfl rfl
theorem mlX5_196 : Cond.methodLink RX5 196 yX1_drop ∈ Gw := Gw_t3 16 rfl rfl
theorem mlX1_29 : Cond.methodLink RX1 29 yX1_find ∈ Gw := Gw_t3 20 rfl rfl
theorem mlX1_25 : Cond.methodLink RX1 25 yX1_rank ∈ Gw := Gw_t3 24 rfl rfl
theorem mlX1_32 : Cond.methodLink RX1 32 yX1_shift ∈ Gw := Gw_t3 28 rfl rfl
theorem mlX5_199 : Cond.methodLink RX5 199 yX1_open ∈ Gw := Gw_t3 32 rfl rfl
theorem mlX5_202 : Cond.methodLink RX5 202 yX1_write ∈ Gw := Gw_t3 36 rfl rfl
theorem mlX5_205 : Cond.methodLink RX5 205 yX1_find ∈ Gw := Gw_t3 44 rfl rfl
theorem klX5_209 : Cond.constantLong RX5 209 (149) ∈ Gw := Gw_t3 57 rfl rfl
theorem mlX5_211 : Cond.methodLink RX5 211 yX2_mixNumbers ∈ Gw := Gw_t3 58 rfl rfl
theorem klX5_225 : Cond.constantLong RX5 225 (31) ∈ Gw := Gw_t3 65 rfl rfl
theorem mlX5_215 : Cond.methodLink RX5 215 yX2_mixPlates ∈ Gw := Gw_t3 66 rfl rfl
theorem mlX5_218 : Cond.methodLink RX5 218 yX1_mixAll ∈ Gw := Gw_t3 70 rfl rfl
theorem mlX5_221 : Cond.methodLink RX5 221 yX5_mix ∈ Gw := Gw_t3 75 rfl rfl
theorem klX6_57 : Cond.constantLong RX6 57 (2) ∈ Gw := Gw_t3 150 rfl rfl
theorem mlX6_59 : Cond.methodLink RX6 59 yX6_in ∈ Gw := Gw_t3 151 rfl rfl
theorem mlX6_63 : Cond.methodLink RX6 63 yX6_meets ∈ Gw := Gw_t3 154 rfl rfl
theorem klX6_78 : Cond.constantLong RX6 78 (-1000) ∈ Gw := Gw_t3 170 rfl rfl
theorem klX6_80 : Cond.constantLong RX6 80 (1000) ∈ Gw := Gw_t3 171 rfl rfl
theorem klX6_82 : Cond.constantLong RX6 82 (3) ∈ Gw := Gw_t3 180 rfl rfl
theorem klX6_84 : Cond.constantLong RX6 84 (6) ∈ Gw := Gw_t3 181 rfl rfl
theorem mlX6_140 : Cond.methodLink RX6 140 yX6_make ∈ Gw := Gw_t3 198 rfl rfl
theorem mlX6_131 : Cond.methodLink RX6 131 yX6_look ∈ Gw := Gw_t3 202 rfl rfl
theorem mlX6_105 : Cond.methodLink RX6 105 yX6_fails ∈ Gw := Gw_t3 206 rfl rfl
theorem mlX6_70 : Cond.methodLink RX6 70 yX6_sizeOf ∈ Gw := Gw_t3 210 rfl rfl
theorem mlX6_74 : Cond.methodLink RX6 74 yX6_cornerOf ∈ Gw := Gw_t3 214 rfl rfl
theorem mlX6_89 : Cond.methodLink RX6 89 yX6_next ∈ Gw := Gw_t3 218 rfl rfl
theorem mlX6_95 : Cond.methodLink RX6 95 yX6_faceWith ∈ Gw := Gw_t3 222 rfl rfl
theorem mlX6_109 : Cond.methodLink RX6 109 yX6_facesOf ∈ Gw := Gw_t3 226 rfl rfl
theorem mlX6_112 : Cond.methodLink RX6 112 yX6_ringOf ∈ Gw := Gw_t3 230 rfl rfl
theorem mlX6_134 : Cond.methodLink RX6 134 yX6_findEdges ∈ Gw := Gw_t3 234 rfl rfl
theorem mlX6_115 : Cond.methodLink RX6 115 yX6_edgeOf ∈ Gw := Gw_t3 238 rfl rfl
theorem mlX6_137 : Cond.methodLink RX6 137 yX6_refine ∈ Gw := Gw_t4 2 rfl rfl
theorem mlX6_121 : Cond.methodLink RX6 121 yX6_movedOf ∈ Gw := Gw_t4 6 rfl rfl
theorem mlX6_184 : Cond.methodLink RX6 184 yX6_moveOf ∈ Gw := Gw_t4 10 rfl rfl
theorem mlX6_124 : Cond.methodLink RX6 124 yX6_beginFace ∈ Gw := Gw_t4 14 rfl rfl
theorem mlX6_128 : Cond.methodLink RX6 128 yX6_ringOn ∈ Gw := Gw_t4 18 rfl rfl
theorem mlX6_143 : Cond.methodLink RX6 143 yX6_isLevel ∈ Gw := Gw_t4 26 rfl rfl
theorem klX6_147 : Cond.constantLong RX6 147 (5) ∈ Gw := Gw_t4 29 rfl rfl
theorem mlX6_149 : Cond.methodLink RX6 149 yX6_isGood ∈ Gw := Gw_t4 30 rfl rfl
theorem mlX6_153 : Cond.methodLink RX6 153 yX6_edgesAt ∈ Gw := Gw_t4 34 rfl rfl
theorem mlX6_156 : Cond.methodLink RX6 156 yX6_isAxis ∈ Gw := Gw_t4 42 rfl rfl
theorem kcX6_159 : Cond.constant RX6 159 (-2000000001) ∈ Gw := Gw_t4 45 rfl rfl
theorem kcX6_160 : Cond.constant RX6 160 (-2000000003) ∈ Gw := Gw_t4 46 rfl rfl
theorem mlX6_161 : Cond.methodLink RX6 161 yX6_number ∈ Gw := Gw_t4 47 rfl rfl
theorem mlX6_164 : Cond.methodLink RX6 164 yX6_faceRefusal ∈ Gw := Gw_t4 59 rfl rfl
theorem kcX6_167 : Cond.constant RX6 167 (-2000000002) ∈ Gw := Gw_t4 75 rfl rfl
theorem klX6_168 : Cond.constantLong RX6 168 (-101) ∈ Gw := Gw_t4 80 rfl rfl
theorem klX6_170 : Cond.constantLong RX6 170 (-103) ∈ Gw := Gw_t4 81 rfl rfl
theorem mlX6_172 : Cond.methodLink RX6 172 yX6_solid ∈ Gw := Gw_t4 82 rfl rfl
theorem klX6_176 : Cond.constantLong RX6 176 (-100000) ∈ Gw := Gw_t4 94 rfl rfl
theorem klX6_178 : Cond.constantLong RX6 178 (100000) ∈ Gw := Gw_t4 95 rfl rfl
theorem mlX6_180 : Cond.methodLink RX6 180 yX6_square ∈ Gw := Gw_t4 96 rfl rfl
theorem klX6_187 : Cond.constantLong RX6 187 (149) ∈ Gw := Gw_t4 119 rfl rfl
theorem klX6_189 : Cond.constantLong RX6 189 (31) ∈ Gw := Gw_t4 120 rfl rfl
end
section
/-! THE SMALL MACHINE. A value: an int or a long as an integer (the machine's number is its remainder), a cell by its kind and number, null. The memory: kind, number, place -> integer. Everything that the class and the reference make is made once: the cells are known. -/
abbrev Vv : Type := Int ⊕ (Int ⊕ Option (Nat × Int))
abbrev vI (a : Int) : Vv := .inl a
abbrev vL (a : Int) : Vv := .inr (.inl a)
abbrev vR (k : Nat) (l : Int) : Vv := .inr (.inr (some (k, l)))
abbrev vN : Vv := .inr (.inr none)
abbrev Mm : Type := Nat → Int → Int → Int
abbrev inR (a : Int) : Prop := -2147483648 ≤ a ∧ a < 2147483648
abbrev inL (a : Int) : Prop := -9223372036854775808 ≤ a ∧ a < 9223372036854775808
def mset (μ : Mm) (k : Nat) (l i v : Int) : Mm := fun k' l' i' => if k' = k ∧ l' = l ∧ i' = i then v else μ k' l' i'
theorem mset_eq {μ : Mm} {k : Nat} {l i v : Int} : mset μ k l i v k l i = v := by simp [mset]
theorem mset_ne {μ : Mm} {k k' : Nat} {l l' i i' v : Int} (h : ¬ (k' = k ∧ l' = l ∧ i' = i)) : mset μ k l i v k' l' i' = μ k' l' i' := by simp only [mset, if_neg h]
theorem mset_i {μ : Mm} {k : Nat} {l i i' v : Int} (h : i' ≠ i) : mset μ k l i v k l i' = μ k l i' := mset_ne (fun q => h q.2.2)
theorem mset_k {μ : Mm} {k k' : Nat} {l l' i i' v : Int} (h : k' ≠ k) : mset μ k l i v k' l' i' = μ k' l' i' := mset_ne (fun q => h q.1)
theorem mset_l {μ : Mm} {k k' : Nat} {l l' i i' v : Int} (h : l' ≠ l) : mset μ k l i v k' l' i' = μ k' l' i' := mset_ne (fun q => h q.2.1)
/-- the memory holds ints -/
def Can (μ : Mm) : Prop := ∀ k l i, inR (μ k l i)
theorem Can.st {μ : Mm} (h : Can μ) {k : Nat} {l i v : Int} (hv : inR v) : Can (mset μ k l i v) := by
  intro k' l' i'
  unfold mset
  split
  · exact hv
  · exact h k' l' i'
def capC (l : Int) : Int := if l = 0 then 14 else if l = 1 then 42 else if l = 2 then 84 else 168
def capP (l : Int) : Int := if l = 0 then 14 else if l = 1 then 28 else if l = 2 then 70 else 154
def capE (l : Int) : Int := if l = 0 then 42 else if l = 1 then 84 else if l = 2 then 168 else 336
theorem capC_in (l : Int) : 14 ≤ capC l ∧ capC l ≤ 168 := by
  unfold capC
  repeat' split
  all_goals omega
theorem capP_in (l : Int) : 14 ≤ capP l ∧ capP l ≤ 154 := by
  unfold capP
  repeat' split
  all_goals omega
theorem capE_in (l : Int) : 42 ≤ capE l ∧ capE l ≤ 336 := by
  unfold capE
  repeat' split
  all_goals omega
/-- the kinds of objects: the class's number, its fields (none: an int; some k: the cell of kind k of the same number) -/
def oS : Nat → Option (Nat × List (Option Nat))
  | 0 => some (5, [some 1, some 3, none])
  | 1 => some (3, [some 2, none, none])
  | 3 => some (4, [some 4, some 11, some 5, some 7, none, none, none])
  | 5 => some (0, [some 6, none, none])
  | 7 => some (1, [some 8, some 9, some 10, none])
  | 11 => some (2, [none, none, none, some 12, some 13, some 14, some 15, some 16, some 17, some 18, some 19, some 20])
  | 21 => some (6, [none, none, none, some 22, none, none, none, some 23, some 24, some 25, some 26, some 27, some 28, some 29, some 30, some 31, none, none, none, some 32, some 33])
  | _ => none
/-- the lengths of the arrays -/
def aL : Nat → Int → Int
  | 2, _ => 8
  | 4, _ => 4
  | 6, _ => 196
  | 8, _ => 40
  | 9, _ => 40
  | 10, _ => 120
  | 12, l => 3 * capC l
  | 13, l => capP l + 1
  | 14, l => 2 * capE l
  | 15, l => 2 * capE l
  | 16, l => 2 * capE l
  | 17, l => 2 * capE l
  | 18, l => capE l
  | 19, l => capC l
  | 20, l => capC l
  | 22, _ => 8
  | 23, _ => 4
  | 24, _ => 4
  | 25, _ => 4
  | 26, _ => 2400
  | 27, _ => 640
  | 28, _ => 640
  | 29, _ => 2800
  | 30, _ => 1400
  | 31, _ => 1400
  | 32, _ => 40
  | 33, _ => 120
  | _, _ => 0
theorem aL_in (k : Nat) (l : Int) : 0 ≤ aL k l ∧ aL k l < 2147483648 := by
  have h1 := capC_in l
  have h2 := capP_in l
  have h3 := capE_in l
  unfold aL
  split <;> omega
def cellsL : List (Nat × Int) := [(0, 0), (1, 0), (2, 0), (3, 0), (4, 0), (5, 0), (6, 0), (7, 0), (8, 0), (9, 0), (10, 0), (11, 0), (12, 0), (13, 0), (14, 0), (15, 0), (16, 0), (17, 0), (18, 0), (19, 0), (20, 0), (11, 1), (12, 1), (13, 1), (14, 1), (15, 1), (16, 1), (17, 1), (18, 1), (19, 1), (20, 1), (11, 2), (12, 2), (13, 2), (14, 2), (15, 2), (16, 2), (17, 2), (18, 2), (19, 2), (20, 2), (11, 3), (12, 3), (13, 3), (14, 3), (15, 3), (16, 3), (17, 3), (18, 3), (19, 3), (20, 3), (21, 0), (22, 0), (23, 0), (24, 0), (25, 0), (26, 0), (27, 0), (28, 0), (29, 0), (30, 0), (31, 0), (32, 0), (33, 0)]
def okV : Vv → Prop
  | .inr (.inr (some q)) => q ∈ cellsL
  | _ => True
def okO : Option Vv → Prop
  | some v => okV v
  | none => True
def okS (S : List Vv) : Prop := ∀ v ∈ S, okV v
def okL (L : List (Option Vv)) : Prop := ∀ v ∈ L, okO v
theorem okS.tl {v : Vv} {S : List Vv} (h : okS (v :: S)) : okS S := fun x hx => h x (List.mem_cons_of_mem _ hx)
theorem okS.hd {v : Vv} {S : List Vv} (h : okS (v :: S)) : okV v := h v List.mem_cons_self
theorem okS.cons {v : Vv} {S : List Vv} (h : okS S) (hv : okV v) : okS (v :: S) := fun x hx => (List.mem_cons.mp hx).elim (fun e => e ▸ hv) (h x)
theorem okS.nil : okS [] := fun _ h => absurd h List.not_mem_nil
theorem cells_closed : cellsL.all (fun q => match oS q.1 with | some x => x.2.all (fun f => match f with | some k => decide ((k, q.2) ∈ cellsL) | none => true) | none => true) = true := by decide +kernel
theorem okV_field {k : Nat} {l : Int} {ci j k' : Nat} {fs : List (Option Nat)} (h : okV (vR k l)) (ho : oS k = some (ci, fs)) (hj : fs[j]? = some (some k')) : okV (vR k' l) := by
  have h1 := List.all_eq_true.mp cells_closed (k, l) h
  simp only [ho] at h1
  have h2 := List.all_eq_true.mp h1 (some k') (List.mem_of_getElem? hj)
  exact (by simpa using h2 : (k', l) ∈ cellsL)
def eV (ad : Nat → Int → Nat) : Vv → Value
  | .inl a => .int (Int32.ofInt a)
  | .inr (.inl a) => .long (Int64.ofInt a)
  | .inr (.inr (some q)) => .ref (ad q.1 q.2)
  | .inr (.inr none) => .null
def fV (ad : Nat → Int → Nat) (f : Int → Int) (l : Int) (i : Nat) : Option Nat → Value
  | none => .int (Int32.ofInt (f (i : Int)))
  | some k => .ref (ad k l)
def eE (ad : Nat → Int → Nat) (cI cN : ClassId) (k : Nat) (l : Int) (f : Int → Int) : va_E := match oS k with
  | some o => .inr (o.1, o.2.mapIdx (fV ad f l))
  | none => if k = 4 then .inl (cN, 4, .inr (.inr (.inr (.inr (fun j => some (ad 11 (j : Int))))))) else .inl (cI, (aL k l).toNat, .inl (fun j => Int32.ofInt (f (j : Int))))
def eW (ad : Nat → Int → Nat) (cI cN : ClassId) (μ : Mm) : va_W := cellsL.map (fun q => (ad q.1 q.2, eE ad cI cN q.1 q.2 (μ q.1 q.2)))
/-- the addresses of the cells -/
def Aq (ad : Nat → Int → Nat) : Nat → Prop := fun q => ∃ x ∈ cellsL, q = ad x.1 x.2
theorem eW_at {ad : Nat → Int → Nat} {cI cN : ClassId} {k : Nat} {l : Int} (h : okV (vR k l)) : ∃ i : Nat, cellsL[i]? = some (k, l) ∧ ∀ μ : Mm, (eW ad cI cN μ)[i]? = some (ad k l, eE ad cI cN k l (μ k l)) := by
  obtain ⟨i, hi⟩ := List.getElem?_of_mem (show (k, l) ∈ cellsL from h)
  exact ⟨i, hi, fun μ => by simp [eW, hi]⟩
theorem eW_set {ad : Nat → Int → Nat} {cI cN : ClassId} {k : Nat} {l : Int} {i : Nat} {A : Nat → Prop} {μ μ' : Mm} (hi : cellsL[i]? = some (k, l)) (hD : va_D A (eW ad cI cN μ)) (hμ : ∀ (k' : Nat) (l' : Int), ¬ (k' = k ∧ l' = l) → μ' k' l' = μ k' l') {x : va_E} (hx : x = eE ad cI cN k l (μ' k l)) : (eW ad cI cN μ).set i (ad k l, x) = eW ad cI cN μ' := by
  subst hx
  have hlen : i < (eW ad cI cN μ).length := by
    have := (List.getElem?_eq_some_iff.mp hi).1
    simpa [eW] using this
  apply List.ext_getElem?
  intro j
  by_cases hj : j = i
  · subst hj
    rw [List.getElem?_set_self hlen]
    simp [eW, hi]
  · rw [List.getElem?_set_ne (Ne.symm hj)]
    cases hq : cellsL[j]? with
    | none => simp [eW, hq]
    | some q =>
      have e1 : (eW ad cI cN μ)[j]? = some (ad q.1 q.2, eE ad cI cN q.1 q.2 (μ q.1 q.2)) := by simp [eW, hq]
      have e2 : (eW ad cI cN μ)[i]? = some (ad k l, eE ad cI cN k l (μ k l)) := by simp [eW, hi]
      have hne : ¬ (q.1 = k ∧ q.2 = l) := fun h => hj (hD.1 j i _ _ e1 e2 (by rw [h.1, h.2]))
      rw [e1]
      simp only [eW, List.getElem?_map, hq, Option.map_some, hμ q.1 q.2 hne]
theorem eE_put {ad : Nat → Int → Nat} {cI cN : ClassId} {k : Nat} {l : Int} {ci j : Nat} {fs : List (Option Nat)} {f : Int → Int} {v : Int} (ho : oS k = some (ci, fs)) (hj : fs[j]? = some none) : (Sum.inr (ci, (fs.mapIdx (fV ad f l)).set j (.int (Int32.ofInt v))) : va_E) = eE ad cI cN k l (fun i => if i = (j : Int) then v else f i) := by
  unfold eE
  simp only [ho]
  congr 2
  apply List.ext_getElem?
  intro n
  have hl := (List.getElem?_eq_some_iff.mp hj).1
  by_cases hn : n = j
  · subst hn
    rw [List.getElem?_set_self (by simpa using hl)]
    simp [hj, fV]
  · rw [List.getElem?_set_ne (Ne.symm hn)]
    simp only [List.getElem?_mapIdx]
    cases hq : fs[n]? with
    | none => rfl
    | some q =>
      simp only [Option.map_some]
      cases q with
      | none =>
        have hn2 : ¬ (n : Int) = (j : Int) := by omega
        simp [fV, hn2]
      | some k' => simp [fV]
theorem nat_ofInt {a : Int} (h0 : 0 ≤ a) (h : a < 2147483648) : (Int32.ofInt a).toNatClampNeg = a.toNat := Int32.toNatClampNeg_ofInt_of_le (by omega) (by omega)
theorem vp_in_ofInt {a n : Int} (h0 : 0 ≤ a) (h : a < n) (hn : n < 2147483648) : vp_in (Int32.ofInt a) n.toNat := by
  unfold vp_in
  rw [nat_ofInt h0 (by omega), Int32.lt_iff_toInt_lt, Int32.toInt_ofInt_of_le (by omega) (by omega)]
  simp
  omega
theorem i_lt {a b : Int} (ha : inR a) (hb : inR b) : Int32.ofInt a < Int32.ofInt b ↔ a < b := by
  rw [Int32.lt_iff_toInt_lt, Int32.toInt_ofInt_of_le (by omega) (by omega), Int32.toInt_ofInt_of_le (by omega) (by omega)]
theorem i_le {a b : Int} (ha : inR a) (hb : inR b) : Int32.ofInt a ≤ Int32.ofInt b ↔ a ≤ b := by
  rw [Int32.le_iff_toInt_le, Int32.toInt_ofInt_of_le (by omega) (by omega), Int32.toInt_ofInt_of_le (by omega) (by omega)]
theorem i_eq {a b : Int} (ha : inR a) (hb : inR b) : Int32.ofInt a = Int32.ofInt b ↔ a = b := by
  rw [← Int32.toInt_inj, Int32.toInt_ofInt_of_le (by omega) (by omega), Int32.toInt_ofInt_of_le (by omega) (by omega)]
theorem l_lt {a b : Int} (ha : inL a) (hb : inL b) : Int64.ofInt a < Int64.ofInt b ↔ a < b := by
  rw [Int64.lt_iff_toInt_lt, Int64.toInt_ofInt_of_le (by omega) (by omega), Int64.toInt_ofInt_of_le (by omega) (by omega)]
theorem l_eq {a b : Int} (ha : inL a) (hb : inL b) : Int64.ofInt a = Int64.ofInt b ↔ a = b := by
  rw [← Int64.toInt_inj, Int64.toInt_ofInt_of_le (by omega) (by omega), Int64.toInt_ofInt_of_le (by omega) (by omega)]
theorem i_0 : Int32.ofInt 0 = 0 := by decide
/-- two words that no list of good words holds: the nest's private method, called from two classes -/
def nw1 : Cond := .methodLinkNest RX2 110 yX5_mix "MidSkins"
def nw2 : Cond := .methodLinkNest RX1 43 yX5_mix "MidSkins"
def Nw (s : State) : Prop := va_Nw nw1 s ∧ va_Nw nw2 s
theorem Nw.warm {s U : State} (hW : s.WarmedH U.vm) (h : Nw s) : Nw U := ⟨va_Nw.warmM hW h.1, va_Nw.warmM hW h.2⟩
theorem Nw.call {U : State} {g : JFrame} {mk : MethodId} {a : Array Value} (h : Nw U) : Nw (U.calling g mk a) := ⟨va_Nw.same rfl rfl h.1, va_Nw.same rfl rfl h.2⟩
abbrev tyL (cI cN : ClassId) : List (ClassId × FieldType) := [(cI, .int), (cN, .object RX2)]
/-- the room of a method that calls at most d deep -/
def Rm (d : Nat) : Room := { frames := d, cells := 0, slots := 0, locals := 45 * d }
/-- what is known while a method runs -/
def Cx (M : MI) (p : Program) (s : State) (m : MethodId) (args : Array Value) (meth : Method) (c : Code) (G : va_G) (cI cN : ClassId) : Prop :=
  p.tables.exec = Jvm.exec ∧ c.code = M.2.1 ∧ meth.sig.returnType = M.2.2.2 ∧ c.maxLocals = M.2.2.1 ∧ s.vm.findClass M.1.cls = some m.cls ∧ (∀ w ∈ Gw, w.before args s = true) ∧ meth.locks = false ∧ va_K G vwCl (tyL cI cN) s ∧ Nw s
def Wo (ad : Nat → Int → Nat) (G : va_G) (cI cN : ClassId) (μ : Mm) (H0 H : Heap) (locs : List Loc) : Prop := va_P G vwCl (eW ad cI cN μ) H ∧ va_D (Aq ad) (eW ad cI cN μ) ∧ va_S (Aq ad) H0 H locs
def Qm (G : va_G) (ad : Nat → Int → Nat) (cI cN : ClassId) (Q : Option Vv → Mm → Prop) : Array Value → State → Outcome → State → Prop := fun _ st oc t =>
  ∃ (r : Option Vv) (μ' : Mm), oc = .returned (r.map (eV ad)) ∧ okO r ∧ Can μ' ∧ Q r μ' ∧ va_P G vwCl (eW ad cI cN μ') t.heap ∧ va_D (Aq ad) (eW ad cI cN μ') ∧ va_F (Aq ad) st t
/-- the locals hold what is listed -/
def Lh (ad : Nat → Int → Nat) (ls : Array Slot) (n : Nat) (L : List (Option Vv)) : Prop := ls.size = n ∧ lv_wf ls ∧ ∀ (i : Nat) (v : Vv), L[i]? = some (some v) → ls[i]? = some (.val (eV ad v))
/-- THE SMALL MACHINE's judgement: method M, at pc, with these locals, this stack and this memory, comes to its end with Q -/
def Ev (M : MI) (d pc : Nat) (L : List (Option Vv)) (S : List Vv) (μ : Mm) (Q : Option Vv → Mm → Prop) : Prop :=
  ∀ (p : Program) (l : Launch) (e : Env) (s : State) (m : MethodId) (args : Array Value) (below : List Frame) (meth : Method) (c : Code) (H : Heap) (locs : List Loc) (ad : Nat → Int → Nat) (G : va_G) (cI cN : ClassId) (ls : Array Slot),
    Cx M p s m args meth c G cI cN → Can μ → okL L → okS S → Lh ad ls M.2.2.1 L → Wo ad G cI cN μ s.heap H locs →
    W p l e (Rm d) s m args below meth c H locs 0 0 (MQ below (Qm G ad cI cN Q) args s 0 0 (Aq ad)) (F0 m pc ls (S.map (eV ad)))
/-- its contract, as callers have it -/
def Mc (M : MI) (d : Nat) (as : List Vv) (μ : Mm) (Q : Option Vv → Mm → Prop) : Prop :=
  ∀ (l : Launch) (ad : Nat → Int → Nat) (G : va_G) (cI cN : ClassId), okS as → Can μ → Met l M.1 (.code M.1 M.2.1 M.2.2.1 M.2.2.2 :: Gw) (Rm d) (va_Pc (as.map (eV ad)) (fun U => va_P G vwCl (eW ad cI cN μ) U.heap ∧ va_D (Aq ad) (eW ad cI cN μ) ∧ va_K G vwCl (tyL cI cN) U ∧ Nw U)) (Qm G ad cI cN Q) 0 0 (Aq ad)
/-- an answer and a memory, known -/
abbrev Rt (r : Option Vv) (μ' : Mm) : Option Vv → Mm → Prop := fun r' μ'' => r' = r ∧ μ'' = μ'
section EV
variable {M : MI} {d pc : Nat} {L : List (Option Vv)} {S : List Vv} {μ : Mm} {Q : Option Vv → Mm → Prop}
theorem e_iadd {a b : Int} (hd : decode M.2.1 pc = .ok (.iadd, 1)) (k : Ev M d (pc + 1) L (vI (a + b) :: S) μ Q) : Ev M d pc L (vI b :: vI a :: S) μ Q := by
  intro p la e s m args below meth c H locs ad G cI cN ls hC hc hL hS hl hW
  refine lv_iadd hC.1 hC.2.1 hd ?_
  rw [← Int32.ofInt_add]
  exact k p la e s m args below meth c H locs ad G cI cN ls hC hc hL (hS.tl.tl.cons trivial) hl hW
theorem e_isub {a b : Int} (hd : decode M.2.1 pc = .ok (.isub, 1)) (k : Ev M d (pc + 1) L (vI (a - b) :: S) μ Q) : Ev M d pc L (vI b :: vI a :: S) μ Q := by
  intro p la e s m args below meth c H locs ad G cI cN ls hC hc hL hS hl hW
  refine lv_isub hC.1 hC.2.1 hd ?_
  rw [← Int32.ofInt_sub]
  exact k p la e s m args below meth c H locs ad G cI cN ls hC hc hL (hS.tl.tl.cons trivial) hl hW
theorem e_imul {a b : Int} (hd : decode M.2.1 pc = .ok (.imul, 1)) (k : Ev M d (pc + 1) L (vI (a * b) :: S) μ Q) : Ev M d pc L (vI b :: vI a :: S) μ Q := by
  intro p la e s m args below meth c H locs ad G cI cN ls hC hc hL hS hl hW
  refine lv_imul hC.1 hC.2.1 hd ?_
  rw [← Int32.ofInt_mul]
  exact k p la e s m args below meth c H locs ad G cI cN ls hC hc hL (hS.tl.tl.cons trivial) hl hW
theorem e_ladd {a b : Int} (hd : decode M.2.1 pc = .ok (.ladd, 1)) (k : Ev M d (pc + 1) L (vL (a + b) :: S) μ Q) : Ev M d pc L (vL b :: vL a :: S) μ Q := by
  intro p la e s m args below meth c H locs ad G cI cN ls hC hc hL hS hl hW
  refine lv_ladd hC.1 hC.2.1 hd ?_
  rw [← Int64.ofInt_add]
  exact k p la e s m args below meth c H locs ad G cI cN ls hC hc hL (hS.tl.tl.cons trivial) hl hW
theorem e_lsub {a b : Int} (hd : decode M.2.1 pc = .ok (.lsub, 1)) (k : Ev M d (pc + 1) L (vL (a - b) :: S) μ Q) : Ev M d pc L (vL b :: vL a :: S) μ Q := by
  intro p la e s m args below meth c H locs ad G cI cN ls hC hc hL hS hl hW
  refine lv_lsub hC.1 hC.2.1 hd ?_
  rw [← Int64.ofInt_sub]
  exact k p la e s m args below meth c H locs ad G cI cN ls hC hc hL (hS.tl.tl.cons trivial) hl hW
theorem e_lmul {a b : Int} (hd : decode M.2.1 pc = .ok (.lmul, 1)) (k : Ev M d (pc + 1) L (vL (a * b) :: S) μ Q) : Ev M d pc L (vL b :: vL a :: S) μ Q := by
  intro p la e s m args below meth c H locs ad G cI cN ls hC hc hL hS hl hW
  refine lv_lmul hC.1 hC.2.1 hd ?_
  rw [← Int64.ofInt_mul]
  exact k p la e s m args below meth c H locs ad G cI cN ls hC hc hL (hS.tl.tl.cons trivial) hl hW
theorem e_ineg {a : Int} (hd : decode M.2.1 pc = .ok (.ineg, 1)) (k : Ev M d (pc + 1) L (vI (-a) :: S) μ Q) : Ev M d pc L (vI a :: S) μ Q := by
  intro p la e s m args below meth c H locs ad G cI cN ls hC hc hL hS hl hW
  refine lv_ineg hC.1 hC.2.1 hd ?_
  have k2 := k p la e s m args below meth c H locs ad G cI cN ls hC hc hL (hS.tl.cons trivial) hl hW
  simpa [eV, Int32.ofInt_neg] using k2
theorem e_irem {a b : Int} (hd : decode M.2.1 pc = .ok (.irem, 1)) (ha : 0 ≤ a ∧ a < 2147483648) (hb : 0 < b ∧ b < 2147483648) (k : Ev M d (pc + 1) L (vI (a % b) :: S) μ Q) : Ev M d pc L (vI b :: vI a :: S) μ Q := by
  intro p la e s m args below meth c H locs ad G cI cN ls hC hc hL hS hl hW
  have e1 : Int32.ofInt a = nI a.toNat := by rw [nI, ← Int32.ofInt_eq_ofNat]; congr 1; omega
  have e2 : Int32.ofInt b = nI b.toNat := by rw [nI, ← Int32.ofInt_eq_ofNat]; congr 1; omega
  have e3 : Int32.ofInt (a % b) = nI (a.toNat % b.toNat) := by
    rw [nI, ← Int32.ofInt_eq_ofNat]; congr 1
    rw [Int.natCast_emod, Int.toNat_of_nonneg ha.1, Int.toNat_of_nonneg (by omega)]
  refine lv_irem hC.1 hC.2.1 hd ?_ ?_
  · rw [← i_0, i_eq (by omega) (by omega)]; omega
  · have k2 := k p la e s m args below meth c H locs ad G cI cN ls hC hc hL (hS.tl.tl.cons trivial) hl hW
    rw [e1, e2, pk_rem (by omega) (by omega) (by omega), ← e3]
    exact k2
theorem e_i2b {a : Int} (hd : decode M.2.1 pc = .ok (.i2b, 1)) (k : Ev M d (pc + 1) L (vI (a.bmod 256) :: S) μ Q) : Ev M d pc L (vI a :: S) μ Q := by
  intro p la e s m args below meth c H locs ad G cI cN ls hC hc hL hS hl hW
  refine lv_i2b (v := Int32.ofInt (a.bmod 256)) hC.1 hC.2.1 hd ?_ ?_
  · rw [Int32.toInt8_ofInt, ← Int32.ofInt_int8ToInt, Int8.toInt_ofInt]
  · exact k p la e s m args below meth c H locs ad G cI cN ls hC hc hL (hS.tl.cons trivial) hl hW
theorem e_i2s {a : Int} (hd : decode M.2.1 pc = .ok (.i2s, 1)) (k : Ev M d (pc + 1) L (vI (a.bmod 65536) :: S) μ Q) : Ev M d pc L (vI a :: S) μ Q := by
  intro p la e s m args below meth c H locs ad G cI cN ls hC hc hL hS hl hW
  refine lv_i2s (v := Int32.ofInt (a.bmod 65536)) hC.1 hC.2.1 hd ?_ ?_
  · rw [Int32.toInt16_ofInt, ← Int32.ofInt_int16ToInt, Int16.toInt_ofInt]
  · exact k p la e s m args below meth c H locs ad G cI cN ls hC hc hL (hS.tl.cons trivial) hl hW
theorem e_i2l {a : Int} (hd : decode M.2.1 pc = .ok (.i2l, 1)) (ha : inR a) (k : Ev M d (pc + 1) L (vL a :: S) μ Q) : Ev M d pc L (vI a :: S) μ Q := by
  intro p la e s m args below meth c H locs ad G cI cN ls hC hc hL hS hl hW
  refine lv_i2l (v := Int64.ofInt a) hC.1 hC.2.1 hd ?_ ?_
  · rw [← Int64.ofInt_int32ToInt, Int32.toInt_ofInt_of_le (by omega) (by omega)]
  · exact k p la e s m args below meth c H locs ad G cI cN ls hC hc hL (hS.tl.cons trivial) hl hW
theorem e_iconst {n : Int} (hd : decode M.2.1 pc = .ok (.iconst n, 1)) (k : Ev M d (pc + 1) L (vI n :: S) μ Q) : Ev M d pc L S μ Q := by
  intro p la e s m args below meth c H locs ad G cI cN ls hC hc hL hS hl hW
  refine lv_iconst (v := Int32.ofInt n) hC.1 hC.2.1 hd rfl ?_
  exact k p la e s m args below meth c H locs ad G cI cN ls hC hc hL (hS.cons trivial) hl hW
theorem e_bipush {n : Int} (hd : decode M.2.1 pc = .ok (.bipush n, 2)) (hn : -128 ≤ n ∧ n < 128) (k : Ev M d (pc + 2) L (vI n :: S) μ Q) : Ev M d pc L S μ Q := by
  intro p la e s m args below meth c H locs ad G cI cN ls hC hc hL hS hl hW
  refine lv_bipush (v := Int32.ofInt n) hC.1 hC.2.1 hd (by rw [← Int32.ofInt_int8ToInt, Int8.toInt_ofInt_of_le (by omega) (by omega)]) ?_
  exact k p la e s m args below meth c H locs ad G cI cN ls hC hc hL (hS.cons trivial) hl hW
theorem e_sipush {n : Int} (hd : decode M.2.1 pc = .ok (.sipush n, 3)) (hn : -32768 ≤ n ∧ n < 32768) (k : Ev M d (pc + 3) L (vI n :: S) μ Q) : Ev M d pc L S μ Q := by
  intro p la e s m args below meth c H locs ad G cI cN ls hC hc hL hS hl hW
  refine lv_sipush (v := Int32.ofInt n) hC.1 hC.2.1 hd (by rw [← Int32.ofInt_int16ToInt, Int16.toInt_ofInt_of_le (by omega) (by omega)]) ?_
  exact k p la e s m args below meth c H locs ad G cI cN ls hC hc hL (hS.cons trivial) hl hW
theorem e_lconst {n : Fin 2} (v : Int) (hd : decode M.2.1 pc = .ok (.lconst n, 1)) (hv : ((n : Nat) : Int) = v) (k : Ev M d (pc + 1) L (vL v :: S) μ Q) : Ev M d pc L S μ Q := by
  intro p la e s m args below meth c H locs ad G cI cN ls hC hc hL hS hl hW
  refine lv_lconst (v := Int64.ofInt v) hC.1 hC.2.1 hd (by rw [← hv, Int64.ofInt_eq_ofNat]) ?_
  exact k p la e s m args below meth c H locs ad G cI cN ls hC hc hL (hS.cons trivial) hl hW
theorem e_ldc {idx : Nat} {v : Int32} (n : Int) (hd : decode M.2.1 pc = .ok (.ldc idx, 2)) (hw : Cond.constant M.1.cls idx v ∈ Gw) (hv : Int32.ofInt n = v) (k : Ev M d (pc + 2) L (vI n :: S) μ Q) : Ev M d pc L S μ Q := by
  intro p la e s m args below meth c H locs ad G cI cN ls hC hc hL hS hl hW
  subst hv
  refine lv_ldc hC.1 hC.2.1 hC.2.2.2.2.1 (hC.2.2.2.2.2.1 _ hw) hd ?_
  exact k p la e s m args below meth c H locs ad G cI cN ls hC hc hL (hS.cons trivial) hl hW
theorem e_ldc2 {idx : Nat} {v : Int64} (n : Int) (hd : decode M.2.1 pc = .ok (.ldc2_w idx, 3)) (hw : Cond.constantLong M.1.cls idx v ∈ Gw) (hv : Int64.ofInt n = v) (k : Ev M d (pc + 3) L (vL n :: S) μ Q) : Ev M d pc L S μ Q := by
  intro p la e s m args below meth c H locs ad G cI cN ls hC hc hL hS hl hW
  subst hv
  refine lv_ldc2 hC.1 hC.2.1 hC.2.2.2.2.1 (hC.2.2.2.2.2.1 _ hw) hd ?_
  exact k p la e s m args below meth c H locs ad G cI cN ls hC hc hL (hS.cons trivial) hl hW
theorem okL.at {i : Nat} {v : Vv} (h : okL L) (hi : L[i]? = some (some v)) : okV v := h (some v) (List.mem_of_getElem? hi)
theorem e_null (hd : decode M.2.1 pc = .ok (.aconst_null, 1)) (k : Ev M d (pc + 1) L (vN :: S) μ Q) : Ev M d pc L S μ Q := by
  intro p la e s m args below meth c H locs ad G cI cN ls hC hc hL hS hl hW
  refine lv_null hC.1 hC.2.1 hd ?_
  exact k p la e s m args below meth c H locs ad G cI cN ls hC hc hL (hS.cons trivial) hl hW
theorem e_iload {i : Nat} {a : Int} (hd : decode M.2.1 pc = .ok (.iload i, 2)) (hi : L[i]? = some (some (vI a))) (k : Ev M d (pc + 2) L (vI a :: S) μ Q) : Ev M d pc L S μ Q := by
  intro p la e s m args below meth c H locs ad G cI cN ls hC hc hL hS hl hW
  refine lv_iload hC.1 hC.2.1 hd (hl.2.2 i _ hi) ?_
  exact k p la e s m args below meth c H locs ad G cI cN ls hC hc hL (hS.cons trivial) hl hW
theorem e_iload_n {n : Fin 4} (i : Nat) {a : Int} (hd : decode M.2.1 pc = .ok (.iload_n n, 1)) (hn : (n : Nat) = i) (hi : L[i]? = some (some (vI a))) (k : Ev M d (pc + 1) L (vI a :: S) μ Q) : Ev M d pc L S μ Q := by
  intro p la e s m args below meth c H locs ad G cI cN ls hC hc hL hS hl hW
  refine lv_iload_n hC.1 hC.2.1 hd hn (hl.2.2 i _ hi) ?_
  exact k p la e s m args below meth c H locs ad G cI cN ls hC hc hL (hS.cons trivial) hl hW
theorem e_lload {i : Nat} {a : Int} (hd : decode M.2.1 pc = .ok (.lload i, 2)) (hi : L[i]? = some (some (vL a))) (k : Ev M d (pc + 2) L (vL a :: S) μ Q) : Ev M d pc L S μ Q := by
  intro p la e s m args below meth c H locs ad G cI cN ls hC hc hL hS hl hW
  refine lv_lload hC.1 hC.2.1 hd (hl.2.2 i _ hi) ?_
  exact k p la e s m args below meth c H locs ad G cI cN ls hC hc hL (hS.cons trivial) hl hW
theorem e_lload_n {n : Fin 4} (i : Nat) {a : Int} (hd : decode M.2.1 pc = .ok (.lload_n n, 1)) (hn : (n : Nat) = i) (hi : L[i]? = some (some (vL a))) (k : Ev M d (pc + 1) L (vL a :: S) μ Q) : Ev M d pc L S μ Q := by
  intro p la e s m args below meth c H locs ad G cI cN ls hC hc hL hS hl hW
  refine lv_lload_n hC.1 hC.2.1 hd hn (hl.2.2 i _ hi) ?_
  exact k p la e s m args below meth c H locs ad G cI cN ls hC hc hL (hS.cons trivial) hl hW
theorem e_aload {i : Nat} {r : Option (Nat × Int)} (hd : decode M.2.1 pc = .ok (.aload i, 2)) (hi : L[i]? = some (some (.inr (.inr r)))) (k : Ev M d (pc + 2) L (.inr (.inr r) :: S) μ Q) : Ev M d pc L S μ Q := by
  intro p la e s m args below meth c H locs ad G cI cN ls hC hc hL hS hl hW
  have k2 := k p la e s m args below meth c H locs ad G cI cN ls hC hc hL (hS.cons (hL.at hi)) hl hW
  cases r with
  | none => exact lv_aloadN hC.1 hC.2.1 hd (hl.2.2 i _ hi) k2
  | some q => exact lv_aload hC.1 hC.2.1 hd (hl.2.2 i _ hi) k2
theorem e_aload_n {n : Fin 4} (i : Nat) {r : Option (Nat × Int)} (hd : decode M.2.1 pc = .ok (.aload_n n, 1)) (hn : (n : Nat) = i) (hi : L[i]? = some (some (.inr (.inr r)))) (k : Ev M d (pc + 1) L (.inr (.inr r) :: S) μ Q) : Ev M d pc L S μ Q := by
  intro p la e s m args below meth c H locs ad G cI cN ls hC hc hL hS hl hW
  have k2 := k p la e s m args below meth c H locs ad G cI cN ls hC hc hL (hS.cons (hL.at hi)) hl hW
  cases r with
  | none => exact lv_aload_nN hC.1 hC.2.1 hd hn (hl.2.2 i _ hi) k2
  | some q => exact lv_aload_n hC.1 hC.2.1 hd hn (hl.2.2 i _ hi) k2
/-- the locals as the kit lists them -/
def lvL (ad : Nat → Int → Nat) : Nat → List (Option Vv) → List (Nat × Value)
  | _, [] => []
  | i, none :: t => lvL ad (i + 1) t
  | i, some v :: t => (i, eV ad v) :: lvL ad (i + 1) t
theorem lvL_mem {ad : Nat → Int → Nat} : ∀ (L : List (Option Vv)) (i0 : Nat) (q : Nat × Value), q ∈ lvL ad i0 L ↔ ∃ (j : Nat) (v : Vv), q = (i0 + j, eV ad v) ∧ L[j]? = some (some v)
  | [], i0, q => by simp [lvL]
  | none :: t, i0, q => by
    rw [lvL, lvL_mem t (i0 + 1) q]
    constructor
    · rintro ⟨j, v, h1, h2⟩
      exact ⟨j + 1, v, by rw [h1]; congr 1; omega, by simpa using h2⟩
    · rintro ⟨j, v, h1, h2⟩
      cases j with
      | zero => simp at h2
      | succ j => exact ⟨j, v, by rw [h1]; congr 1; omega, by simpa using h2⟩
  | some u :: t, i0, q => by
    rw [lvL, List.mem_cons, lvL_mem t (i0 + 1) q]
    constructor
    · rintro (h | ⟨j, v, h1, h2⟩)
      · exact ⟨0, u, by simpa using h, by simp⟩
      · exact ⟨j + 1, v, by rw [h1]; congr 1; omega, by simpa using h2⟩
    · rintro ⟨j, v, h1, h2⟩
      cases j with
      | zero => simp at h2; subst h2; exact Or.inl (by simpa using h1)
      | succ j => exact Or.inr ⟨j, v, by rw [h1]; congr 1; omega, by simpa using h2⟩
theorem Lh.has {ad : Nat → Int → Nat} {ls : Array Slot} {n : Nat} (h : Lh ad ls n L) : lv_has ls n (lvL ad 0 L) := by
  refine ⟨h.1, h.2.1, fun q hq => ?_⟩
  obtain ⟨j, v, rfl, h2⟩ := (lvL_mem L 0 q).mp hq
  simpa using h.2.2 j v h2
def isLong : Option Vv → Bool
  | some (.inr (.inl _)) => true
  | _ => false
theorem eV_cat {ad : Nat → Int → Nat} (v : Vv) : ((eV ad v).category == 2) = isLong (some v) := by
  rcases v with a | a | r
  · rfl
  · rfl
  · cases r <;> rfl
/-- a value of one slot is stored at i: what is listed but there, and but a long just below, stays -/
theorem Lh.st1 {ad : Nat → Int → Nat} {ls' : Array Slot} {n i : Nat} {v : Vv} {L' : List (Option Vv)} (h : lv_has ls' n ((i, eV ad v) :: (lvL ad 0 L).filter (fun q => !(q.1 == i) && !(q.1 + 1 == i && q.2.category == 2)))) (h1 : ∀ u, L'[i]? = some (some u) → u = v) (h2 : ∀ (j : Nat) (u : Vv), j ≠ i → L'[j]? = some (some u) → L[j]? = some (some u)) (h3 : ∀ (j : Nat) (u : Vv), j + 1 = i → L'[j]? = some (some u) → isLong (some u) = false) : Lh ad ls' n L' := by
  refine ⟨h.1, h.2.1, fun j u hu => ?_⟩
  by_cases hj : j = i
  · subst hj
    rw [h1 u hu]
    exact h.2.2 _ List.mem_cons_self
  · refine h.2.2 (j, eV ad u) (List.mem_cons_of_mem _ (List.mem_filter.mpr ⟨(lvL_mem L 0 _).mpr ⟨j, u, by simp, h2 j u hj hu⟩, ?_⟩))
    simp only [eV_cat]
    by_cases h4 : j + 1 = i
    · simp [hj, h3 j u h4 hu]
    · simp [hj, h4]
theorem Lh.st2 {ad : Nat → Int → Nat} {ls' : Array Slot} {n i : Nat} {v : Vv} {L' : List (Option Vv)} (h : lv_has ls' n ((i, eV ad v) :: (lvL ad 0 L).filter (fun q => !(q.1 == i) && (!(q.1 == i + 1) && !(q.1 + 1 == i && q.2.category == 2))))) (h1 : ∀ u, L'[i]? = some (some u) → u = v) (h2 : ∀ (j : Nat) (u : Vv), j ≠ i → L'[j]? = some (some u) → L[j]? = some (some u)) (h3 : ∀ (j : Nat) (u : Vv), j + 1 = i → L'[j]? = some (some u) → isLong (some u) = false) (h4 : ∀ u, L'[i + 1]? ≠ some (some u)) : Lh ad ls' n L' := by
  refine ⟨h.1, h.2.1, fun j u hu => ?_⟩
  by_cases hj : j = i
  · subst hj
    rw [h1 u hu]
    exact h.2.2 _ List.mem_cons_self
  · have hj2 : ¬ j = i + 1 := fun q => h4 u (q ▸ hu)
    refine h.2.2 (j, eV ad u) (List.mem_cons_of_mem _ (List.mem_filter.mpr ⟨(lvL_mem L 0 _).mpr ⟨j, u, by simp, h2 j u hj hu⟩, ?_⟩))
    simp only [eV_cat]
    by_cases h4 : j + 1 = i
    · simp [hj, hj2, h3 j u h4 hu]
    · simp [hj, hj2, h4]
/-- the list of locals behind a store of one slot -/
def stL (L : List (Option Vv)) (i : Nat) (v : Vv) : List (Option Vv) := L.set i (some v)
theorem stL_1 {i : Nat} {v : Vv} : ∀ u, (L.set i (some v))[i]? = some (some u) → u = v := by
  intro u hu
  by_cases h : i < L.length
  · rw [List.getElem?_set_self h] at hu
    cases hu; rfl
  · rw [List.getElem?_eq_none (by simp; omega)] at hu
    cases hu
theorem stL_2 {i : Nat} {v : Option Vv} : ∀ (j : Nat) (u : Vv), j ≠ i → (L.set i v)[j]? = some (some u) → L[j]? = some (some u) := by
  intro j u hj hu
  rwa [List.getElem?_set_ne (Ne.symm hj)] at hu
theorem okL.set {i : Nat} {v : Option Vv} (h : okL L) (hv : okO v) : okL (L.set i v) := fun x hx => (List.mem_or_eq_of_mem_set hx).elim (h x) (fun e => e ▸ hv)
/-- nothing just below i is a long -/
def nlb (L : List (Option Vv)) : Nat → Bool
  | 0 => true
  | i + 1 => match L[i]? with
    | some x => !isLong x
    | none => true
theorem nlb_3 {i : Nat} {v : Option Vv} (h : nlb L i = true) : ∀ (j : Nat) (u : Vv), j + 1 = i → (L.set i v)[j]? = some (some u) → isLong (some u) = false := by
  intro j u hj hu
  rw [List.getElem?_set_ne (by omega)] at hu
  subst hj
  simpa [nlb, hu] using h
theorem e_istore {i : Nat} {a : Int} (hd : decode M.2.1 pc = .ok (.istore i, 2)) (hi : i < M.2.2.1) (hn : nlb L i = true) (k : Ev M d (pc + 2) (L.set i (some (vI a))) S μ Q) : Ev M d pc L (vI a :: S) μ Q := by
  intro p la e s m args below meth c H locs ad G cI cN ls hC hc hL hS hl hW
  refine lv_istore hC.1 hC.2.1 hd hl.has hi rfl (fun ls' h' => ?_)
  exact k p la e s m args below meth c H locs ad G cI cN ls' hC hc (hL.set (v := some (vI a)) trivial) hS.tl (Lh.st1 (v := vI a) h' stL_1 stL_2 (nlb_3 hn)) hW
theorem e_istore_n {n : Fin 4} {i : Nat} {a : Int} (hd : decode M.2.1 pc = .ok (.istore_n n, 1)) (hni : (n : Nat) = i) (hi : i < M.2.2.1) (hn : nlb L i = true) (k : Ev M d (pc + 1) (L.set i (some (vI a))) S μ Q) : Ev M d pc L (vI a :: S) μ Q := by
  intro p la e s m args below meth c H locs ad G cI cN ls hC hc hL hS hl hW
  refine lv_istore_n hC.1 hC.2.1 hd hni hl.has hi rfl (fun ls' h' => ?_)
  exact k p la e s m args below meth c H locs ad G cI cN ls' hC hc (hL.set (v := some (vI a)) trivial) hS.tl (Lh.st1 (v := vI a) h' stL_1 stL_2 (nlb_3 hn)) hW
theorem e_astore {i : Nat} {r : Option (Nat × Int)} (hd : decode M.2.1 pc = .ok (.astore i, 2)) (hi : i < M.2.2.1) (hn : nlb L i = true) (k : Ev M d (pc + 2) (L.set i (some (.inr (.inr r)))) S μ Q) : Ev M d pc L (.inr (.inr r) :: S) μ Q := by
  intro p la e s m args below meth c H locs ad G cI cN ls hC hc hL hS hl hW
  cases r with
  | none =>
    refine lv_astoreN hC.1 hC.2.1 hd hl.has hi rfl (fun ls' h' => ?_)
    exact k p la e s m args below meth c H locs ad G cI cN ls' hC hc (hL.set (v := some vN) trivial) hS.tl (Lh.st1 (v := vN) h' stL_1 stL_2 (nlb_3 hn)) hW
  | some q =>
    refine lv_astore hC.1 hC.2.1 hd hl.has hi rfl (fun ls' h' => ?_)
    exact k p la e s m args below meth c H locs ad G cI cN ls' hC hc (hL.set (v := some (vR q.1 q.2)) hS.hd) hS.tl (Lh.st1 (v := vR q.1 q.2) h' stL_1 stL_2 (nlb_3 hn)) hW
theorem e_astore_n {n : Fin 4} {i : Nat} {r : Option (Nat × Int)} (hd : decode M.2.1 pc = .ok (.astore_n n, 1)) (hni : (n : Nat) = i) (hi : i < M.2.2.1) (hn : nlb L i = true) (k : Ev M d (pc + 1) (L.set i (some (.inr (.inr r)))) S μ Q) : Ev M d pc L (.inr (.inr r) :: S) μ Q := by
  intro p la e s m args below meth c H locs ad G cI cN ls hC hc hL hS hl hW
  cases r with
  | none =>
    refine lv_astore_nN hC.1 hC.2.1 hd hni hl.has hi rfl (fun ls' h' => ?_)
    exact k p la e s m args below meth c H locs ad G cI cN ls' hC hc (hL.set (v := some vN) trivial) hS.tl (Lh.st1 (v := vN) h' stL_1 stL_2 (nlb_3 hn)) hW
  | some q =>
    refine lv_astore_n hC.1 hC.2.1 hd hni hl.has hi rfl (fun ls' h' => ?_)
    exact k p la e s m args below meth c H locs ad G cI cN ls' hC hc (hL.set (v := some (vR q.1 q.2)) hS.hd) hS.tl (Lh.st1 (v := vR q.1 q.2) h' stL_1 stL_2 (nlb_3 hn)) hW
theorem stL_22 {i : Nat} {v : Vv} : ∀ (j : Nat) (u : Vv), j ≠ i → ((L.set i (some v)).set (i + 1) none)[j]? = some (some u) → L[j]? = some (some u) := by
  intro j u hj hu
  by_cases h : j = i + 1
  · subst h
    by_cases h2 : i + 1 < L.length
    · rw [List.getElem?_set_self (by simpa using h2)] at hu; cases hu
    · rw [List.getElem?_eq_none (by simp; omega)] at hu; cases hu
  · rw [List.getElem?_set_ne (Ne.symm h), List.getElem?_set_ne (Ne.symm hj)] at hu
    exact hu
theorem stL_24 {i : Nat} {v : Vv} : ∀ u : Vv, ((L.set i (some v)).set (i + 1) none)[i + 1]? ≠ some (some u) := by
  intro u hu
  by_cases h2 : i + 1 < L.length
  · rw [List.getElem?_set_self (by simpa using h2)] at hu; cases hu
  · rw [List.getElem?_eq_none (by simp; omega)] at hu; cases hu
theorem nlb_32 {i : Nat} {v : Option Vv} (h : nlb L i = true) : ∀ (j : Nat) (u : Vv), j + 1 = i → ((L.set i v).set (i + 1) none)[j]? = some (some u) → isLong (some u) = false := by
  intro j u hj hu
  rw [List.getElem?_set_ne (by omega)] at hu
  exact nlb_3 h j u hj hu
theorem stL_21 {i : Nat} {v : Vv} : ∀ u, ((L.set i (some v)).set (i + 1) none)[i]? = some (some u) → u = v := by
  intro u hu
  rw [List.getElem?_set_ne (by omega)] at hu
  exact stL_1 u hu
theorem e_lstore {i : Nat} {a : Int} (hd : decode M.2.1 pc = .ok (.lstore i, 2)) (hi : i + 1 < M.2.2.1) (hn : nlb L i = true) (k : Ev M d (pc + 2) ((L.set i (some (vL a))).set (i + 1) none) S μ Q) : Ev M d pc L (vL a :: S) μ Q := by
  intro p la e s m args below meth c H locs ad G cI cN ls hC hc hL hS hl hW
  refine lv_lstore hC.1 hC.2.1 hd hl.has hi rfl (fun ls' h' => ?_)
  exact k p la e s m args below meth c H locs ad G cI cN ls' hC hc ((hL.set (v := some (vL a)) trivial).set (v := none) trivial) hS.tl (Lh.st2 (v := vL a) h' stL_21 stL_22 (nlb_32 hn) stL_24) hW
theorem e_lstore_n {n : Fin 4} {i : Nat} {a : Int} (hd : decode M.2.1 pc = .ok (.lstore_n n, 1)) (hni : (n : Nat) = i) (hi : i + 1 < M.2.2.1) (hn : nlb L i = true) (k : Ev M d (pc + 1) ((L.set i (some (vL a))).set (i + 1) none) S μ Q) : Ev M d pc L (vL a :: S) μ Q := by
  intro p la e s m args below meth c H locs ad G cI cN ls hC hc hL hS hl hW
  refine lv_lstore_n hC.1 hC.2.1 hd hni hl.has hi rfl (fun ls' h' => ?_)
  exact k p la e s m args below meth c H locs ad G cI cN ls' hC hc ((hL.set (v := some (vL a)) trivial).set (v := none) trivial) hS.tl (Lh.st2 (v := vL a) h' stL_21 stL_22 (nlb_32 hn) stL_24) hW
theorem e_iinc {i : Nat} {n a : Int} (hd : decode M.2.1 pc = .ok (.iinc i n, 3)) (hi : i < M.2.2.1) (hn : nlb L i = true) (ha : L[i]? = some (some (vI a))) (k : Ev M d (pc + 3) (L.set i (some (vI (a + n)))) S μ Q) : Ev M d pc L S μ Q := by
  intro p la e s m args below meth c H locs ad G cI cN ls hC hc hL hS hl hW
  have hm : (i, eV ad (vI a)) ∈ lvL ad 0 L := (lvL_mem L 0 _).mpr ⟨i, vI a, by simp, ha⟩
  obtain ⟨j, hj⟩ := List.getElem?_of_mem hm
  refine lv_iinc (v := Int32.ofInt (a + n)) hC.1 hC.2.1 hd hl.has (k := j) hj (by rw [Int32.ofInt_add]) hi rfl (fun ls' h' => ?_)
  exact k p la e s m args below meth c H locs ad G cI cN ls' hC hc (hL.set (v := some (vI (a + n))) trivial) hS (Lh.st1 (v := vI (a + n)) h' stL_1 stL_2 (nlb_3 hn)) hW
/-- fewer locals are known -/
theorem e_wk (L' : List (Option Vv)) (h : ∀ (j : Nat) (u : Vv), L'[j]? = some (some u) → L[j]? = some (some u)) (k : Ev M d pc L' S μ Q) : Ev M d pc L S μ Q := by
  intro p la e s m args below meth c H locs ad G cI cN ls hC hc hL hS hl hW
  refine k p la e s m args below meth c H locs ad G cI cN ls hC hc ?_ hS ⟨hl.1, hl.2.1, fun i v hv => hl.2.2 i v (h i v hv)⟩ hW
  intro x hx
  cases x with
  | none => trivial
  | some v =>
    obtain ⟨i, hi⟩ := List.getElem?_of_mem hx
    exact hL.at (h i v hi)
def leL : List (Option Vv) → List (Option Vv) → Prop
  | [], _ => True
  | none :: t, _ :: t' => leL t t'
  | some v :: t, w :: t' => w = some v ∧ leL t t'
  | none :: t, [] => leL t []
  | some _ :: _, [] => False
theorem leL_at : ∀ (L' L : List (Option Vv)), leL L' L → ∀ (j : Nat) (u : Vv), L'[j]? = some (some u) → L[j]? = some (some u)
  | [], _, _, j, u, h => by simp at h
  | none :: t, [], hl, j, u, h => by
    cases j with
    | zero => simp at h
    | succ j => have := leL_at t [] hl j u (by simpa using h); simp at this
  | none :: t, w :: t', hl, j, u, h => by
    cases j with
    | zero => simp at h
    | succ j => simpa using leL_at t t' hl j u (by simpa using h)
  | some v :: t, w :: t', hl, j, u, h => by
    cases j with
    | zero => simp at h; subst h; simpa using hl.1
    | succ j => simpa using leL_at t t' hl.2 j u (by simpa using h)
  | some _ :: _, [], hl, _, _, _ => absurd hl (by simp [leL])
theorem e_le (L' : List (Option Vv)) (h : leL L' L) (k : Ev M d pc L' S μ Q) : Ev M d pc L S μ Q := e_wk L' (leL_at L' L h) k
theorem e_dup {v : Vv} (hd : decode M.2.1 pc = .ok (.dup, 1)) (hv : isLong (some v) = false) (k : Ev M d (pc + 1) L (v :: v :: S) μ Q) : Ev M d pc L (v :: S) μ Q := by
  intro p la e s m args below meth c H locs ad G cI cN ls hC hc hL hS hl hW
  refine lv_dup hC.1 hC.2.1 hd ?_ ?_
  · rcases v with a | a | r
    · rfl
    · cases hv
    · cases r <;> rfl
  · exact k p la e s m args below meth c H locs ad G cI cN ls hC hc hL (hS.cons hS.hd) hl hW
theorem cat1 {ad : Nat → Int → Nat} {v : Vv} (hv : isLong (some v) = false) : (eV ad v).category = 1 := by
  rcases v with a | a | r
  · rfl
  · cases hv
  · cases r <;> rfl
theorem e_pop {v : Vv} (hd : decode M.2.1 pc = .ok (.pop, 1)) (hv : isLong (some v) = false) (k : Ev M d (pc + 1) L S μ Q) : Ev M d pc L (v :: S) μ Q := by
  intro p la e s m args below meth c H locs ad G cI cN ls hC hc hL hS hl hW
  refine lv_pop hC.1 hC.2.1 hd (cat1 hv) ?_
  exact k p la e s m args below meth c H locs ad G cI cN ls hC hc hL hS.tl hl hW
theorem e_dup2 {v u : Vv} (hd : decode M.2.1 pc = .ok (.dup2, 1)) (hv : isLong (some v) = false) (hu : isLong (some u) = false) (k : Ev M d (pc + 1) L (v :: u :: v :: u :: S) μ Q) : Ev M d pc L (v :: u :: S) μ Q := by
  intro p la e s m args below meth c H locs ad G cI cN ls hC hc hL hS hl hW
  refine lv_dup2_11 hC.1 hC.2.1 hd (cat1 hv) (cat1 hu) ?_
  exact k p la e s m args below meth c H locs ad G cI cN ls hC hc hL ((hS.cons hS.tl.hd).cons hS.hd) hl hW
theorem e_goto {off : Int} (tgt : Nat) (hd : decode M.2.1 pc = .ok (.goto off, 3)) (ht : (pc : Int) + off = (tgt : Int)) (k : Ev M d tgt L S μ Q) : Ev M d pc L S μ Q := by
  intro p la e s m args below meth c H locs ad G cI cN ls hC hc hL hS hl hW
  refine lv_goto hC.1 hC.2.1 hd ht ?_
  exact k p la e s m args below meth c H locs ad G cI cN ls hC hc hL hS hl hW
theorem e_ifnull {off : Int} {r : Option (Nat × Int)} (tgt : Nat) (hd : decode M.2.1 pc = .ok (.ifnull off, 3)) (ht : (pc : Int) + off = (tgt : Int)) (k1 : r = none → Ev M d tgt L S μ Q) (k2 : r ≠ none → Ev M d (pc + 3) L S μ Q) : Ev M d pc L (.inr (.inr r) :: S) μ Q := by
  intro p la e s m args below meth c H locs ad G cI cN ls hC hc hL hS hl hW
  cases r with
  | none => exact lv_ifnullN hC.1 hC.2.1 hd ht (k1 rfl p la e s m args below meth c H locs ad G cI cN ls hC hc hL hS.tl hl hW)
  | some q => exact lv_ifnull hC.1 hC.2.1 hd (k2 (fun h => by cases h) p la e s m args below meth c H locs ad G cI cN ls hC hc hL hS.tl hl hW)
theorem e_ifnonnull {off : Int} {r : Option (Nat × Int)} (tgt : Nat) (hd : decode M.2.1 pc = .ok (.ifnonnull off, 3)) (ht : (pc : Int) + off = (tgt : Int)) (k1 : r ≠ none → Ev M d tgt L S μ Q) (k2 : r = none → Ev M d (pc + 3) L S μ Q) : Ev M d pc L (.inr (.inr r) :: S) μ Q := by
  intro p la e s m args below meth c H locs ad G cI cN ls hC hc hL hS hl hW
  cases r with
  | none => exact lv_ifnonnullN hC.1 hC.2.1 hd (k2 rfl p la e s m args below meth c H locs ad G cI cN ls hC hc hL hS.tl hl hW)
  | some q => exact lv_ifnonnull hC.1 hC.2.1 hd ht (k1 (fun h => by cases h) p la e s m args below meth c H locs ad G cI cN ls hC hc hL hS.tl hl hW)
theorem e_icmp_eq {a b off : Int} (tgt : Nat) (hd : decode M.2.1 pc = .ok (.if_icmp .eq off, 3)) (ht : (pc : Int) + off = (tgt : Int)) (ha : inR a) (hb : inR b) (k1 : a = b → Ev M d tgt L S μ Q) (k2 : ¬ a = b → Ev M d (pc + 3) L S μ Q) : Ev M d pc L (vI b :: vI a :: S) μ Q := by
  intro p la e s m args below meth c H locs ad G cI cN ls hC hc hL hS hl hW
  refine lv_icmp_eq hC.1 hC.2.1 hd ht (fun h => ?_) (fun h => ?_)
  · exact k1 ((i_eq ha hb).mp h) p la e s m args below meth c H locs ad G cI cN ls hC hc hL hS.tl.tl hl hW
  · exact k2 (fun q => h ((i_eq ha hb).mpr q)) p la e s m args below meth c H locs ad G cI cN ls hC hc hL hS.tl.tl hl hW
theorem e_if_eq {a off : Int} (tgt : Nat) (hd : decode M.2.1 pc = .ok (.ifCond .eq off, 3)) (ht : (pc : Int) + off = (tgt : Int)) (ha : inR a) (k1 : a = 0 → Ev M d tgt L S μ Q) (k2 : ¬ a = 0 → Ev M d (pc + 3) L S μ Q) : Ev M d pc L (vI a :: S) μ Q := by
  intro p la e s m args below meth c H locs ad G cI cN ls hC hc hL hS hl hW
  have hz : inR 0 := by omega
  refine lv_if_eq hC.1 hC.2.1 hd ht (fun h => ?_) (fun h => ?_)
  · rw [← i_0] at h
    exact k1 ((i_eq ha hz).mp h) p la e s m args below meth c H locs ad G cI cN ls hC hc hL hS.tl hl hW
  · rw [← i_0] at h
    exact k2 (fun q => h ((i_eq ha hz).mpr q)) p la e s m args below meth c H locs ad G cI cN ls hC hc hL hS.tl hl hW
theorem e_icmp_ne {a b off : Int} (tgt : Nat) (hd : decode M.2.1 pc = .ok (.if_icmp .ne off, 3)) (ht : (pc : Int) + off = (tgt : Int)) (ha : inR a) (hb : inR b) (k1 : ¬ a = b → Ev M d tgt L S μ Q) (k2 : a = b → Ev M d (pc + 3) L S μ Q) : Ev M d pc L (vI b :: vI a :: S) μ Q := by
  intro p la e s m args below meth c H locs ad G cI cN ls hC hc hL hS hl hW
  refine lv_icmp_ne hC.1 hC.2.1 hd ht (fun h => ?_) (fun h => ?_)
  · exact k1 (fun q => h ((i_eq ha hb).mpr q)) p la e s m args below meth c H locs ad G cI cN ls hC hc hL hS.tl.tl hl hW
  · exact k2 ((i_eq ha hb).mp h) p la e s m args below meth c H locs ad G cI cN ls hC hc hL hS.tl.tl hl hW
theorem e_if_ne {a off : Int} (tgt : Nat) (hd : decode M.2.1 pc = .ok (.ifCond .ne off, 3)) (ht : (pc : Int) + off = (tgt : Int)) (ha : inR a) (k1 : ¬ a = 0 → Ev M d tgt L S μ Q) (k2 : a = 0 → Ev M d (pc + 3) L S μ Q) : Ev M d pc L (vI a :: S) μ Q := by
  intro p la e s m args below meth c H locs ad G cI cN ls hC hc hL hS hl hW
  have hz : inR 0 := by omega
  refine lv_if_ne hC.1 hC.2.1 hd ht (fun h => ?_) (fun h => ?_)
  · rw [← i_0] at h
    exact k1 (fun q => h ((i_eq ha hz).mpr q)) p la e s m args below meth c H locs ad G cI cN ls hC hc hL hS.tl hl hW
  · rw [← i_0] at h
    exact k2 ((i_eq ha hz).mp h) p la e s m args below meth c H locs ad G cI cN ls hC hc hL hS.tl hl hW
theorem e_icmp_lt {a b off : Int} (tgt : Nat) (hd : decode M.2.1 pc = .ok (.if_icmp .lt off, 3)) (ht : (pc : Int) + off = (tgt : Int)) (ha : inR a) (hb : inR b) (k1 : a < b → Ev M d tgt L S μ Q) (k2 : ¬ a < b → Ev M d (pc + 3) L S μ Q) : Ev M d pc L (vI b :: vI a :: S) μ Q := by
  intro p la e s m args below meth c H locs ad G cI cN ls hC hc hL hS hl hW
  refine lv_icmp_lt hC.1 hC.2.1 hd ht (fun h => ?_) (fun h => ?_)
  · exact k1 ((i_lt ha hb).mp h) p la e s m args below meth c H locs ad G cI cN ls hC hc hL hS.tl.tl hl hW
  · exact k2 (fun q => h ((i_lt ha hb).mpr q)) p la e s m args below meth c H locs ad G cI cN ls hC hc hL hS.tl.tl hl hW
theorem e_if_lt {a off : Int} (tgt : Nat) (hd : decode M.2.1 pc = .ok (.ifCond .lt off, 3)) (ht : (pc : Int) + off = (tgt : Int)) (ha : inR a) (k1 : a < 0 → Ev M d tgt L S μ Q) (k2 : ¬ a < 0 → Ev M d (pc + 3) L S μ Q) : Ev M d pc L (vI a :: S) μ Q := by
  intro p la e s m args below meth c H locs ad G cI cN ls hC hc hL hS hl hW
  have hz : inR 0 := by omega
  refine lv_if_lt hC.1 hC.2.1 hd ht (fun h => ?_) (fun h => ?_)
  · rw [← i_0] at h
    exact k1 ((i_lt ha hz).mp h) p la e s m args below meth c H locs ad G cI cN ls hC hc hL hS.tl hl hW
  · rw [← i_0] at h
    exact k2 (fun q => h ((i_lt ha hz).mpr q)) p la e s m args below meth c H locs ad G cI cN ls hC hc hL hS.tl hl hW
theorem e_icmp_ge {a b off : Int} (tgt : Nat) (hd : decode M.2.1 pc = .ok (.if_icmp .ge off, 3)) (ht : (pc : Int) + off = (tgt : Int)) (ha : inR a) (hb : inR b) (k1 : b ≤ a → Ev M d tgt L S μ Q) (k2 : ¬ b ≤ a → Ev M d (pc + 3) L S μ Q) : Ev M d pc L (vI b :: vI a :: S) μ Q := by
  intro p la e s m args below meth c H locs ad G cI cN ls hC hc hL hS hl hW
  refine lv_icmp_ge hC.1 hC.2.1 hd ht (fun h => ?_) (fun h => ?_)
  · exact k1 ((i_le hb ha).mp h) p la e s m args below meth c H locs ad G cI cN ls hC hc hL hS.tl.tl hl hW
  · exact k2 (fun q => h ((i_le hb ha).mpr q)) p la e s m args below meth c H locs ad G cI cN ls hC hc hL hS.tl.tl hl hW
theorem e_if_ge {a off : Int} (tgt : Nat) (hd : decode M.2.1 pc = .ok (.ifCond .ge off, 3)) (ht : (pc : Int) + off = (tgt : Int)) (ha : inR a) (k1 : 0 ≤ a → Ev M d tgt L S μ Q) (k2 : ¬ 0 ≤ a → Ev M d (pc + 3) L S μ Q) : Ev M d pc L (vI a :: S) μ Q := by
  intro p la e s m args below meth c H locs ad G cI cN ls hC hc hL hS hl hW
  have hz : inR 0 := by omega
  refine lv_if_ge hC.1 hC.2.1 hd ht (fun h => ?_) (fun h => ?_)
  · rw [← i_0] at h
    exact k1 ((i_le hz ha).mp h) p la e s m args below meth c H locs ad G cI cN ls hC hc hL hS.tl hl hW
  · rw [← i_0] at h
    exact k2 (fun q => h ((i_le hz ha).mpr q)) p la e s m args below meth c H locs ad G cI cN ls hC hc hL hS.tl hl hW
theorem e_icmp_gt {a b off : Int} (tgt : Nat) (hd : decode M.2.1 pc = .ok (.if_icmp .gt off, 3)) (ht : (pc : Int) + off = (tgt : Int)) (ha : inR a) (hb : inR b) (k1 : b < a → Ev M d tgt L S μ Q) (k2 : ¬ b < a → Ev M d (pc + 3) L S μ Q) : Ev M d pc L (vI b :: vI a :: S) μ Q := by
  intro p la e s m args below meth c H locs ad G cI cN ls hC hc hL hS hl hW
  refine lv_icmp_gt hC.1 hC.2.1 hd ht (fun h => ?_) (fun h => ?_)
  · exact k1 ((i_lt hb ha).mp h) p la e s m args below meth c H locs ad G cI cN ls hC hc hL hS.tl.tl hl hW
  · exact k2 (fun q => h ((i_lt hb ha).mpr q)) p la e s m args below meth c H locs ad G cI cN ls hC hc hL hS.tl.tl hl hW
theorem e_if_gt {a off : Int} (tgt : Nat) (hd : decode M.2.1 pc = .ok (.ifCond .gt off, 3)) (ht : (pc : Int) + off = (tgt : Int)) (ha : inR a) (k1 : 0 < a → Ev M d tgt L S μ Q) (k2 : ¬ 0 < a → Ev M d (pc + 3) L S μ Q) : Ev M d pc L (vI a :: S) μ Q := by
  intro p la e s m args below meth c H locs ad G cI cN ls hC hc hL hS hl hW
  have hz : inR 0 := by omega
  refine lv_if_gt hC.1 hC.2.1 hd ht (fun h => ?_) (fun h => ?_)
  · rw [← i_0] at h
    exact k1 ((i_lt hz ha).mp h) p la e s m args below meth c H locs ad G cI cN ls hC hc hL hS.tl hl hW
  · rw [← i_0] at h
    exact k2 (fun q => h ((i_lt hz ha).mpr q)) p la e s m args below meth c H locs ad G cI cN ls hC hc hL hS.tl hl hW
theorem e_icmp_le {a b off : Int} (tgt : Nat) (hd : decode M.2.1 pc = .ok (.if_icmp .le off, 3)) (ht : (pc : Int) + off = (tgt : Int)) (ha : inR a) (hb : inR b) (k1 : a ≤ b → Ev M d tgt L S μ Q) (k2 : ¬ a ≤ b → Ev M d (pc + 3) L S μ Q) : Ev M d pc L (vI b :: vI a :: S) μ Q := by
  intro p la e s m args below meth c H locs ad G cI cN ls hC hc hL hS hl hW
  refine lv_icmp_le hC.1 hC.2.1 hd ht (fun h => ?_) (fun h => ?_)
  · exact k1 ((i_le ha hb).mp h) p la e s m args below meth c H locs ad G cI cN ls hC hc hL hS.tl.tl hl hW
  · exact k2 (fun q => h ((i_le ha hb).mpr q)) p la e s m args below meth c H locs ad G cI cN ls hC hc hL hS.tl.tl hl hW
theorem e_if_le {a off : Int} (tgt : Nat) (hd : decode M.2.1 pc = .ok (.ifCond .le off, 3)) (ht : (pc : Int) + off = (tgt : Int)) (ha : inR a) (k1 : a ≤ 0 → Ev M d tgt L S μ Q) (k2 : ¬ a ≤ 0 → Ev M d (pc + 3) L S μ Q) : Ev M d pc L (vI a :: S) μ Q := by
  intro p la e s m args below meth c H locs ad G cI cN ls hC hc hL hS hl hW
  have hz : inR 0 := by omega
  refine lv_if_le hC.1 hC.2.1 hd ht (fun h => ?_) (fun h => ?_)
  · rw [← i_0] at h
    exact k1 ((i_le ha hz).mp h) p la e s m args below meth c H locs ad G cI cN ls hC hc hL hS.tl hl hW
  · rw [← i_0] at h
    exact k2 (fun q => h ((i_le ha hz).mpr q)) p la e s m args below meth c H locs ad G cI cN ls hC hc hL hS.tl hl hW
/-- what lcmp answers -/
def cmpI (a b : Int) : Int := if b < a then 1 else if a = b then 0 else -1
theorem e_lcmp {a b : Int} (hd : decode M.2.1 pc = .ok (.lcmp, 1)) (ha : inL a) (hb : inL b) (k : Ev M d (pc + 1) L (vI (cmpI a b) :: S) μ Q) : Ev M d pc L (vL b :: vL a :: S) μ Q := by
  intro p la e s m args below meth c H locs ad G cI cN ls hC hc hL hS hl hW
  refine W.lcmp hC.1 hC.2.1 hd ?_
  have k2 := k p la e s m args below meth c H locs ad G cI cN ls hC hc hL (hS.tl.tl.cons trivial) hl hW
  have e1 : lg_cmp (Int64.ofInt a) (Int64.ofInt b) = Int32.ofInt (cmpI a b) := by
    unfold lg_cmp cmpI
    simp only [gt_iff_lt, l_lt hb ha, l_eq ha hb]
    repeat' split
    all_goals rfl
  rw [e1]
  exact k2
theorem e_tableOut {dflt lo hi a : Int} {offs : Array Int} {len : Nat} (tgt : Nat) (hd : decode M.2.1 pc = .ok (.tableswitch dflt lo hi offs, len)) (ha : inR a) (h : a < lo ∨ hi < a) (ht : (pc : Int) + dflt = (tgt : Int)) (k : Ev M d tgt L S μ Q) : Ev M d pc L (vI a :: S) μ Q := by
  intro p la e s m args below meth c H locs ad G cI cN ls hC hc hL hS hl hW
  refine lv_tableOut hC.1 hC.2.1 hd (by rw [Int32.toInt_ofInt_of_le (by omega) (by omega)]; exact h) ht ?_
  exact k p la e s m args below meth c H locs ad G cI cN ls hC hc hL hS.tl hl hW
theorem e_tableIn {dflt lo hi a off : Int} {offs : Array Int} {len : Nat} (tgt : Nat) (hd : decode M.2.1 pc = .ok (.tableswitch dflt lo hi offs, len)) (ha : inR a) (h1 : ¬ a < lo) (h2 : ¬ hi < a) (ho : offs[(a - lo).toNat]? = some off) (ht : (pc : Int) + off = (tgt : Int)) (k : Ev M d tgt L S μ Q) : Ev M d pc L (vI a :: S) μ Q := by
  intro p la e s m args below meth c H locs ad G cI cN ls hC hc hL hS hl hW
  have e1 := Int32.toInt_ofInt_of_le (n := a) (by omega) (by omega)
  refine lv_tableIn hC.1 hC.2.1 hd (by rw [e1]; exact h1) (by rw [e1]; exact h2) (by rw [e1]; exact ho) ht ?_
  exact k p la e s m args below meth c H locs ad G cI cN ls hC hc hL hS.tl hl hW
theorem e_geti {k idx ci : Nat} {l : Int} {fs : List (Option Nat)} (j : Nat) (i : Int) (hd : decode M.2.1 pc = .ok (.getfield idx, 3)) (hF : FL M.1.cls idx ci j) (ho : oS k = some (ci, fs)) (hj : fs[j]? = some none) (hi : (j : Int) = i) (kk : inR (μ k l i) → Ev M d (pc + 3) L (vI (μ k l i) :: S) μ Q) : Ev M d pc L (vR k l :: S) μ Q := by
  intro p la e s m args below meth c H locs ad G cI cN ls hC hc hL hS hl hW
  subst hi
  obtain ⟨q0, -, h2⟩ := eW_at (ad := ad) (cI := cI) (cN := cN) hS.hd
  obtain ⟨C, T, N, g1, g2, g3, g4⟩ := hF
  have hC' := hC
  obtain ⟨hx, hb, -, -, hown, hts, -, hK, -⟩ := hC
  have h3 := h2 μ
  unfold eE at h3
  rw [ho] at h3
  refine va_get hx hb hts g3 hown hK hW.1 q0 h3 g1 j g2 (hts _ g4) (fun _ h => h) (v := .int (Int32.ofInt (μ k l (j : Int)))) (by simp [hj, fV]) hd ?_
  exact kk (hc _ _ _) p la e s m args below meth c H locs ad G cI cN ls hC' hc hL (hS.tl.cons trivial) hl hW
theorem e_getr {k idx ci k' : Nat} {l : Int} {fs : List (Option Nat)} (j : Nat) (hd : decode M.2.1 pc = .ok (.getfield idx, 3)) (hF : FL M.1.cls idx ci j) (ho : oS k = some (ci, fs)) (hj : fs[j]? = some (some k')) (kk : Ev M d (pc + 3) L (vR k' l :: S) μ Q) : Ev M d pc L (vR k l :: S) μ Q := by
  intro p la e s m args below meth c H locs ad G cI cN ls hC hc hL hS hl hW
  obtain ⟨q0, -, h2⟩ := eW_at (ad := ad) (cI := cI) (cN := cN) hS.hd
  obtain ⟨C, T, N, g1, g2, g3, g4⟩ := hF
  have hC' := hC
  obtain ⟨hx, hb, -, -, hown, hts, -, hK, -⟩ := hC
  have h3 := h2 μ
  unfold eE at h3
  rw [ho] at h3
  refine va_get hx hb hts g3 hown hK hW.1 q0 h3 g1 j g2 (hts _ g4) (fun _ h => h) (v := .ref (ad k' l)) (by simp [hj, fV]) hd ?_
  exact kk p la e s m args below meth c H locs ad G cI cN ls hC' hc hL (hS.tl.cons (okV_field hS.hd ho hj)) hl hW
theorem mset_fun {k : Nat} {l i v : Int} : mset μ k l i v k l = fun j => if j = i then v else μ k l j := by funext j; simp [mset]
theorem mset_off {k : Nat} {l i v : Int} : ∀ (k' : Nat) (l' : Int), ¬ (k' = k ∧ l' = l) → mset μ k l i v k' l' = μ k' l' := by
  intro k' l' h
  funext j
  simp only [mset]
  rw [if_neg (fun q => h ⟨q.1, q.2.1⟩)]
theorem e_put {k idx ci : Nat} {l v : Int} {fs : List (Option Nat)} {ty : FieldType} (j : Nat) (i : Int) (hd : decode M.2.1 pc = .ok (.putfield idx, 3)) (hF : FL M.1.cls idx ci j) (hT : FP ci j ty) (ho : oS k = some (ci, fs)) (hj : fs[j]? = some none) (hi : (j : Int) = i) (hv : inR v) (hn : narrow ty (.int (Int32.ofInt v)) = .int (Int32.ofInt v) ∧ fits ty (.int (Int32.ofInt v)) = true) (kk : Ev M d (pc + 3) L S (mset μ k l i v) Q) : Ev M d pc L (vI v :: vR k l :: S) μ Q := by
  intro p la e s m args below meth c H locs ad G cI cN ls hC hc hL hS hl hW
  subst hi
  obtain ⟨q0, hq0, h2⟩ := eW_at (ad := ad) (cI := cI) (cN := cN) hS.tl.hd
  obtain ⟨C, T, N, g1, g2, g3, g4⟩ := hF
  obtain ⟨C', T', N', ty0, g1', -, t1, t2, t3, t4⟩ := hT
  cases g1.symm.trans g1'
  have hC' := hC
  obtain ⟨hx, hb, -, -, hown, hts, -, hK, -⟩ := hC
  have h3 := h2 μ
  unfold eE at h3
  rw [ho] at h3
  have hlen : j < (fs.mapIdx (fV ad (μ k l) l)).length := by
    have := (List.getElem?_eq_some_iff.mp hj).1
    simpa using this
  refine va_put hx hb hts g3 ty0 t1 t2 hown hK hW.1 hW.2.1 hW.2.2 q0 h3 g1 j g2 (hts _ g4) (fun _ h => h) t3 t4 hn.1 hn.2 hlen hd (fun H1 locs1 hP1 hD1 hS1 => ?_)
  have e1 : (eW ad cI cN μ).set q0 (ad k l, .inr (ci, (fs.mapIdx (fV ad (μ k l) l)).set j (.int (Int32.ofInt v)))) = eW ad cI cN (mset μ k l j v) :=
    eW_set hq0 hW.2.1 mset_off (by rw [mset_fun]; exact eE_put ho hj)
  have hP1 : va_P G vwCl (eW ad cI cN (mset μ k l j v)) H1 := by rw [← e1]; exact hP1
  have hD1 : va_D (Aq ad) (eW ad cI cN (mset μ k l j v)) := by rw [← e1]; exact hD1
  exact kk p la e s m args below meth c H1 locs1 ad G cI cN ls hC' (hc.st hv) hL hS.tl.tl hl ⟨hP1, hD1, hS1⟩
theorem fit_int (v : Int) : narrow .int (.int (Int32.ofInt v)) = .int (Int32.ofInt v) ∧ fits .int (.int (Int32.ofInt v)) = true := ⟨rfl, rfl⟩
theorem fit_bool {v : Int} (h : v = 0 ∨ v = 1) : narrow .boolean (.int (Int32.ofInt v)) = .int (Int32.ofInt v) ∧ fits .boolean (.int (Int32.ofInt v)) = true := by
  rcases h with rfl | rfl <;> decide
theorem eE_arr {ad : Nat → Int → Nat} {cI cN : ClassId} {k : Nat} {l : Int} {f : Int → Int} (ho : oS k = none) (h4 : k ≠ 4) : eE ad cI cN k l f = .inl (cI, (aL k l).toNat, .inl (fun j => Int32.ofInt (f (j : Int)))) := by
  unfold eE
  rw [ho]
  simp [h4]
theorem e_iald {k : Nat} {l a n : Int} (hd : decode M.2.1 pc = .ok (.iaload, 1)) (ho : oS k = none) (h4 : k ≠ 4) (hn : aL k l = n) (ha : 0 ≤ a ∧ a < n) (kk : inR (μ k l a) → Ev M d (pc + 1) L (vI (μ k l a) :: S) μ Q) : Ev M d pc L (vI a :: vR k l :: S) μ Q := by
  intro p la e s m args below meth c H locs ad G cI cN ls hC hc hL hS hl hW
  subst hn
  obtain ⟨q0, -, h2⟩ := eW_at (ad := ad) (cI := cI) (cN := cN) hS.tl.hd
  have hb2 := aL_in k l
  have h3 := h2 μ
  rw [eE_arr ho h4] at h3
  refine va_iald hC.1 hC.2.1 hC.2.2.2.2.2.2.2.1 hW.1 q0 0 h3 rfl (vp_in_ofInt ha.1 ha.2 hb2.2) hd ?_
  rw [nat_ofInt ha.1 (by omega)]
  have e1 : ((a.toNat : Nat) : Int) = a := Int.toNat_of_nonneg ha.1
  rw [e1]
  exact kk (hc _ _ _) p la e s m args below meth c H locs ad G cI cN ls hC hc hL (hS.tl.tl.cons trivial) hl hW
theorem e_iast {k : Nat} {l a n v : Int} (hd : decode M.2.1 pc = .ok (.iastore, 1)) (ho : oS k = none) (h4 : k ≠ 4) (hn : aL k l = n) (ha : 0 ≤ a ∧ a < n) (hv : inR v) (kk : Ev M d (pc + 1) L S (mset μ k l a v) Q) : Ev M d pc L (vI v :: vI a :: vR k l :: S) μ Q := by
  intro p la e s m args below meth c H locs ad G cI cN ls hC hc hL hS hl hW
  subst hn
  obtain ⟨q0, hq0, h2⟩ := eW_at (ad := ad) (cI := cI) (cN := cN) hS.tl.tl.hd
  have hb2 := aL_in k l
  have h3 := h2 μ
  rw [eE_arr ho h4] at h3
  refine va_iast hC.1 hC.2.1 hC.2.2.2.2.2.2.2.1 hW.1 hW.2.1 hW.2.2 q0 0 h3 rfl (vp_in_ofInt ha.1 ha.2 hb2.2) hd (fun H1 locs1 hP1 hD1 hS1 => ?_)
  have e1 : (eW ad cI cN μ).set q0 (ad k l, .inl (cI, (aL k l).toNat, .inl (upd (fun j => Int32.ofInt (μ k l (j : Int))) (Int32.ofInt a).toNatClampNeg (Int32.ofInt v)))) = eW ad cI cN (mset μ k l a v) := by
    refine eW_set hq0 hW.2.1 mset_off ?_
    rw [eE_arr ho h4, mset_fun, nat_ofInt ha.1 (by omega)]
    congr 4
    funext j
    show (if j = a.toNat then Int32.ofInt v else Int32.ofInt (μ k l (j : Int))) = Int32.ofInt (if (j : Int) = a then v else μ k l (j : Int))
    by_cases hj : j = a.toNat
    · rw [if_pos hj, if_pos (by omega)]
    · rw [if_neg hj, if_neg (by omega)]
  rw [e1] at hP1 hD1
  exact kk p la e s m args below meth c H1 locs1 ad G cI cN ls hC (hc.st hv) hL hS.tl.tl.tl hl ⟨hP1, hD1, hS1⟩
theorem nets_in : ∀ j : Nat, j < 4 → (11, (j : Int)) ∈ cellsL := by decide +kernel
theorem e_aald {l a : Int} (hd : decode M.2.1 pc = .ok (.aaload, 1)) (ha : 0 ≤ a ∧ a < 4) (kk : Ev M d (pc + 1) L (vR 11 a :: S) μ Q) : Ev M d pc L (vI a :: vR 4 l :: S) μ Q := by
  intro p la e s m args below meth c H locs ad G cI cN ls hC hc hL hS hl hW
  obtain ⟨q0, -, h2⟩ := eW_at (ad := ad) (cI := cI) (cN := cN) hS.tl.hd
  have h3 : (eW ad cI cN μ)[q0]? = some (ad 4 l, .inl (cN, 4, .inr (.inr (.inr (.inr (fun j => some (ad 11 (j : Int)))))))) := h2 μ
  refine va_aldq hC.1 hC.2.1 hC.2.2.2.2.2.2.2.1 hW.1 q0 1 h3 rfl (vp_in_ofInt (n := 4) ha.1 ha.2 (by omega)) hd ?_
  rw [nat_ofInt ha.1 (by omega)]
  have e1 : ((a.toNat : Nat) : Int) = a := Int.toNat_of_nonneg ha.1
  rw [e1]
  exact kk p la e s m args below meth c H locs ad G cI cN ls hC hc hL (hS.tl.tl.cons (show (11, a) ∈ cellsL from e1 ▸ nets_in a.toNat (by omega))) hl hW
theorem e_alen {k : Nat} {l n : Int} (hd : decode M.2.1 pc = .ok (.arraylength, 1)) (ho : oS k = none) (h4 : k ≠ 4) (hn : aL k l = n) (kk : Ev M d (pc + 1) L (vI n :: S) μ Q) : Ev M d pc L (vR k l :: S) μ Q := by
  intro p la e s m args below meth c H locs ad G cI cN ls hC hc hL hS hl hW
  subst hn
  obtain ⟨q0, -, h2⟩ := eW_at (ad := ad) (cI := cI) (cN := cN) hS.hd
  have hb2 := aL_in k l
  have h3 := h2 μ
  rw [eE_arr ho h4] at h3
  refine va_alen hC.1 hC.2.1 hC.2.2.2.2.2.2.2.1 hW.1 q0 0 h3 rfl (v := Int32.ofInt (aL k l)) ?_ hd ?_
  · rw [← Int32.ofInt_eq_ofNat]; congr 1; exact Int.toNat_of_nonneg hb2.1
  · exact kk p la e s m args below meth c H locs ad G cI cN ls hC hc hL (hS.tl.cons trivial) hl hW
theorem Wo.q {G : va_G} {ad : Nat → Int → Nat} {cI cN : ClassId} {s : State} {H : Heap} {locs : List Loc} {args : Array Value} {r : Option Vv} (hW : Wo ad G cI cN μ s.heap H locs) (hc : Can μ) (hr : okO r) (hQ : Q r μ) {oc : Outcome} (ho : oc = .returned (r.map (eV ad))) : ∀ t : State, t.heap = H → s.WarmedH t.vm → Qm G ad cI cN Q args s oc t :=
  fun t ht _ => ⟨r, μ, ho, hr, hc, hQ, ht ▸ hW.1, hW.2.1, hW.2.2.F ht⟩
theorem e_ireturn {a : Int} (hd : decode M.2.1 pc = .ok (.ireturn, 1)) (hM : M.2.2.2 = some .int) (hQ : Q (some (vI a)) μ) : Ev M d pc L [vI a] μ Q := by
  intro p la e s m args below meth c H locs ad G cI cN ls hC hc hL hS hl hW
  exact W.iret hC.1 hC.2.1 (hC.2.2.1.trans hM) (Wo.q (r := some (vI a)) hW hc trivial hQ rfl) hW.2.2.2.2 hd hC.2.2.2.2.2.2.1
theorem e_zreturn {a : Int} (hd : decode M.2.1 pc = .ok (.ireturn, 1)) (hM : M.2.2.2 = some .boolean) (ha : a = 0 ∨ a = 1) (hQ : Q (some (vI a)) μ) : Ev M d pc L [vI a] μ Q := by
  intro p la e s m args below meth c H locs ad G cI cN ls hC hc hL hS hl hW
  exact W.zret hC.1 hC.2.1 (hC.2.2.1.trans hM) (fit_bool ha).1 (Wo.q (r := some (vI a)) hW hc trivial hQ rfl) hW.2.2.2.2 hd hC.2.2.2.2.2.2.1
theorem e_lreturn {a : Int} (hd : decode M.2.1 pc = .ok (.lreturn, 1)) (hM : M.2.2.2 = some .long) (hQ : Q (some (vL a)) μ) : Ev M d pc L [vL a] μ Q := by
  intro p la e s m args below meth c H locs ad G cI cN ls hC hc hL hS hl hW
  exact W.lret hC.1 hC.2.1 (hC.2.2.1.trans hM) (Wo.q (r := some (vL a)) hW hc trivial hQ rfl) hW.2.2.2.2 hd hC.2.2.2.2.2.2.1
theorem e_return (hd : decode M.2.1 pc = .ok (.return_, 1)) (hM : M.2.2.2 = none) (hQ : Q none μ) : Ev M d pc L [] μ Q := by
  intro p la e s m args below meth c H locs ad G cI cN ls hC hc hL hS hl hW
  exact W.vret hC.1 hC.2.1 (hC.2.2.1.trans hM) (Wo.q (r := none) hW hc trivial hQ rfl) hW.2.2.2.2 hd hC.2.2.2.2.2.2.1
theorem e_areturn {r : Option (Nat × Int)} {n : String} (hd : decode M.2.1 pc = .ok (.areturn, 1)) (hM : M.2.2.2 = some (.object n)) (hQ : Q (some (.inr (.inr r))) μ) : Ev M d pc L [.inr (.inr r)] μ Q := by
  intro p la e s m args below meth c H locs ad G cI cN ls hC hc hL hS hl hW
  refine W.aret (v := eV ad (.inr (.inr r))) hC.1 hC.2.1 (hC.2.2.1.trans hM) (Or.inl ⟨n, rfl⟩) ?_ (Wo.q (r := some (.inr (.inr r))) hW hc hS.hd hQ rfl) hW.2.2.2.2 hd hC.2.2.2.2.2.2.1
  cases r with
  | none => exact Or.inl rfl
  | some q => exact Or.inr ⟨_, rfl⟩
/-- stack words -/
def wds : List Vv → Nat
  | [] => 0
  | v :: t => (if isLong (some v) then 2 else 1) + wds t
theorem wds_eq {ad : Nat → Int → Nat} : ∀ S : List Vv, ((S.map (eV ad)).map fun v => v.category).sum = wds S
  | [] => rfl
  | v :: t => by
    have h := wds_eq (ad := ad) t
    simp only [List.map_cons, List.sum_cons, wds] at h ⊢
    rw [h]
    congr 1
    rcases v with a | a | r
    · rfl
    · rfl
    · cases r <;> rfl
theorem Mc.start {M' : MI} {d' : Nat} {as : List Vv} {Q' : Option Vv → Mm → Prop} {ad : Nat → Int → Nat} {G : va_G} {cI cN : ClassId} : FrameBlind (va_Pc (as.map (eV ad)) (fun U => va_P G vwCl (eW ad cI cN μ) U.heap ∧ va_D (Aq ad) (eW ad cI cN μ) ∧ va_K G vwCl (tyL cI cN) U ∧ Nw U)) :=
  fun a U g mk q => ⟨q.1, q.2.1, q.2.2.1, va_K.moved (u := U) (U := U.calling g mk a) (Vm.Alike.refl U.vm) q.2.2.2.1, q.2.2.2.2.call⟩
theorem Gw_before {s U : State} {args a' : Array Value} (hts : ∀ w ∈ Gw, w.before args s = true) (hW : s.WarmedH U.vm) : ∀ w ∈ Gw, w.before a' U = true := fun w hw => word_at hW (good_of_word (Gw_good w hw).2) (hts w hw)
/-- behind a call -/
theorem e_back {M' : MI} {pc' : Nat} {as rest : List Vv} {Q' : Option Vv → Mm → Prop} {p : Program} {l : Launch} {e : Env} {s : State} {m : MethodId} {args : Array Value} {below : List Frame} {meth : Method} {c : Code} {H : Heap} {locs : List Loc} {ad : Nat → Int → Nat} {G : va_G} {cI cN : ClassId} {ls : Array Slot} {st0 : List Value} {a : Array Value} (hC : Cx M p s m args meth c G cI cN) (hL : okL L) (hS : okS rest) (hl : Lh ad ls M.2.2.1 L) (hW : Wo ad G cI cN μ s.heap H locs)
    (hr : va_Run p l e (Rm d) s m args below meth c H locs 0 0 0 0 (F0 m pc ls st0) (rest.map (eV ad)) (Qm G ad cI cN Q' a) (Aq ad)) (kk : ∀ (r : Option Vv) (μ' : Mm), Q' r μ' → Ev M d (pc + 3) L (r.toList ++ rest) μ' Q) : W p l e (Rm d) s m args below meth c H locs 0 0 (MQ below (Qm G ad cI cN Q) args s 0 0 (Aq ad)) (F0 m pc ls st0) := by
  intro T hT X
  obtain ⟨v, st₀, t, T', Lc, h0, X', hLc, e1, e2, ⟨r, μ', hv, hok, hc', hq, hP', hD', hF'⟩, st⟩ := hr T hT X
  have hv : v = r.map (eV ad) := by cases hv; rfl
  subst hv
  have hz : H.size ≤ t.heap.size := by rw [← h0]; exact hF'.1
  have hS' : va_S (Aq ad) s.heap T'.heap (locs ++ Lc) := by
    refine ⟨Nat.le_trans hW.2.2.1 (by rw [e1]; exact hz), fun q h1 h2 => ?_, fun q hq => ?_⟩
    · rw [e1, hF'.2 q (by rw [h0]; exact Nat.lt_of_lt_of_le h1 hW.2.2.1) h2, h0]
      exact hW.2.2.2.1 q h1 h2
    · rcases List.mem_append.mp hq with h | h
      · exact hW.2.2.2.2 q h
      · exact hLc q h
  have hP1 : va_P G vwCl (eW ad cI cN μ') T'.heap := by rw [e1]; exact hP'
  have hSr : okS (r.toList ++ rest) := by
    cases r with
    | none => exact hS
    | some x => exact hS.cons hok
  obtain ⟨t2, a1, b1⟩ := kk r μ' hq p l e s m args below meth c T'.heap (locs ++ Lc) ad G cI cN ls hC hc' hL hSr hl ⟨hP1, hD', hS'⟩ T' rfl X'
  refine ⟨t2, st t2 ?_, b1⟩
  have e3 : (r.toList ++ rest).map (eV ad) = (r.map (eV ad)).toList ++ rest.map (eV ad) := by cases r <;> simp
  rw [e3] at a1
  exact a1
theorem Rm_le {d d' n : Nat} (h : d' + 1 ≤ d) (hn : n ≤ 26) : (Rm d').frames + 1 ≤ (Rm d).frames ∧ 8 + (n + 11) + (Rm d').locals ≤ (Rm d).locals := by
  simp only [Rm]
  omega
theorem e_callV {M' : MI} {d' idx n k ci : Nat} {l : Int} {as rest S0 : List Vv} {fs : List (Option Nat)} {Q' : Option Vv → Mm → Prop} (hd : decode M.2.1 pc = .ok (.invokevirtual idx, 3)) (hw : Cond.methodLink M.1.cls idx M'.1 ∈ Gw) (hM : Mc M' d' (vR k l :: as) μ Q') (hO : MOk M' n) (hI : MIn M') (ho : oS k = some (ci, fs)) (hcl : (vwCl[ci]?).map (fun q => q.1) = some M'.1.cls) (hn : as.length = n) (hs : S0 = as.reverse ++ vR k l :: rest) (hdd : d' + 1 ≤ d) (hm : M'.2.2.1 ≤ 26) (hw8 : wds rest ≤ 8) (kk : ∀ (r : Option Vv) (μ' : Mm), Q' r μ' → Ev M d (pc + 3) L (r.toList ++ rest) μ' Q) : Ev M d pc L S0 μ Q := by
  subst hs
  intro p la e s m args below meth c H locs ad G cI cN ls hC hc hL hS hl hW
  have hSr : okS rest := fun v hv => hS v (List.mem_append_right _ (List.mem_cons_of_mem _ hv))
  have hSk : okV (vR k l) := hS _ (List.mem_append_right _ List.mem_cons_self)
  have hSa : okS (vR k l :: as) := fun v hv => (List.mem_cons.mp hv).elim (fun h => h ▸ hSk) (fun h => hS v (List.mem_append_left _ (List.mem_reverse.mpr h)))
  obtain ⟨g1, g2, g3, g4, g5⟩ := hO
  have hts := hC.2.2.2.2.2.1
  obtain ⟨q0, -, h2⟩ := eW_at (ad := ad) (cI := cI) (cN := cN) hSk
  have h3 := h2 μ
  unfold eE at h3
  rw [ho] at h3
  have hcl2 : ∃ q, vwCl[ci]? = some q ∧ q.1 = M'.1.cls := by
    cases h : vwCl[ci]? with
    | none => rw [h] at hcl; cases hcl
    | some q => rw [h] at hcl; exact ⟨q, rfl, Option.some.inj hcl⟩
  obtain ⟨q, hq1, hq2⟩ := hcl2
  have hrecv := va_recv hC.2.2.2.2.2.2.2.1 hW.1 hq1 h3
  rw [hq2] at hrecv
  have hrun := va_runV (As := as.map (eV ad)) (rest := rest.map (eV ad)) (b := ad k l) (g := F0 m pc ls ((as.reverse ++ vR k l :: rest).map (eV ad))) (H := H) (locs := locs) (cells := 0) (slots := 0) (C := M'.1.cls) (index := idx) (n := n) (below := below) (meth := meth) (e := e) (R := Rm d)
    (bytes := M'.2.1) (maxL := M'.2.2.1) (ret := M'.2.2.2) ⟨hC.1, hC.2.1, hC.2.2.2.1, hC.2.2.2.2.1, hts⟩ (hM la ad G cI cN hSa hc)
    ⟨⟨rfl, rfl, (Rm_le hdd hm).1, (Rm_le hdd hm).2, fun w hw' a' U hU => (List.mem_cons.mp hw').elim (fun h => h ▸ Gw_before hts hU _ g2) (Gw_before hts hU w), List.mem_cons_self, hts _ g2, hts _ g1, g3, fun sig h => by rw [h] at g4; exact (Option.some.inj g4).symm, hts _ hw⟩, hts _ hI.1, hts _ hI.2⟩
    ⟨Mc.start (M' := M') (d' := d') (Q' := Q'), hrecv, fun U hU hWU => ⟨rfl, by rw [hU]; exact hW.1, hW.2.1, va_K.moved hWU.alike hC.2.2.2.2.2.2.2.1, hC.2.2.2.2.2.2.2.2.warm hWU⟩⟩ rfl (by simpa using hn) hl.1 (by simp [eV]) (lv_room (by rw [wds_eq]; exact hw8)) hd ⟨Nat.le_refl 0, Nat.le_refl 0⟩
  exact e_back (M' := M') (pc' := pc) (as := as) hC hL hSr hl hW hrun kk
theorem e_callS {M' : MI} {d' idx n : Nat} {as rest S0 : List Vv} {Q' : Option Vv → Mm → Prop} (hd : decode M.2.1 pc = .ok (.invokestatic idx, 3)) (hw : Cond.methodLink M.1.cls idx M'.1 ∈ Gw) (hM : Mc M' d' as μ Q') (hO : MOk M' n) (hI : MSt M') (hn : as.length = n) (hs : S0 = as.reverse ++ rest) (hdd : d' + 1 ≤ d) (hm : M'.2.2.1 ≤ 26) (hw8 : wds rest ≤ 8) (kk : ∀ (r : Option Vv) (μ' : Mm), Q' r μ' → Ev M d (pc + 3) L (r.toList ++ rest) μ' Q) : Ev M d pc L S0 μ Q := by
  subst hs
  intro p la e s m args below meth c H locs ad G cI cN ls hC hc hL hS hl hW
  have hSr : okS rest := fun v hv => hS v (List.mem_append_right _ hv)
  have hSa : okS as := fun v hv => hS v (List.mem_append_left _ (List.mem_reverse.mpr hv))
  obtain ⟨g1, g2, g3, g4, g5⟩ := hO
  have hts := hC.2.2.2.2.2.1
  have hrun := va_runS (As := as.map (eV ad)) (rest := rest.map (eV ad)) (g := F0 m pc ls ((as.reverse ++ rest).map (eV ad))) (H := H) (locs := locs) (cells := 0) (slots := 0) (index := idx) (n := n) (below := below) (meth := meth) (e := e) (R := Rm d)
    (bytes := M'.2.1) (maxL := M'.2.2.1) (ret := M'.2.2.2) ⟨hC.1, hC.2.1, hC.2.2.2.1, hC.2.2.2.2.1, hts⟩ (hM la ad G cI cN hSa hc)
    ⟨⟨rfl, rfl, (Rm_le hdd hm).1, (Rm_le hdd hm).2, fun w hw' a' U hU => (List.mem_cons.mp hw').elim (fun h => h ▸ Gw_before hts hU _ g2) (Gw_before hts hU w), List.mem_cons_self, hts _ g2, hts _ g1, g3, fun sig h => by rw [h] at g4; exact (Option.some.inj g4).symm, hts _ hw⟩, hts _ hI⟩
    ⟨Mc.start (M' := M') (d' := d') (Q' := Q'), fun U hU hWU => ⟨rfl, by rw [hU]; exact hW.1, hW.2.1, va_K.moved hWU.alike hC.2.2.2.2.2.2.2.1, hC.2.2.2.2.2.2.2.2.warm hWU⟩⟩ rfl (by simpa using hn) hl.1 (by simp) (lv_room (by rw [wds_eq]; exact hw8)) hd ⟨Nat.le_refl 0, Nat.le_refl 0⟩
  exact e_back (M' := M') (pc' := pc) (as := as) hC hL hSr hl hW hrun kk
/-- a call of the nest's private static method from another class -/
theorem e_callN {M' : MI} {d' idx n : Nat} {host : String} {as rest S0 : List Vv} {Q' : Option Vv → Mm → Prop} (hd : decode M.2.1 pc = .ok (.invokestatic idx, 3)) (hw : ∀ s, Nw s → va_Nw (.methodLinkNest M.1.cls idx M'.1 host) s) (hM : Mc M' d' as μ Q') (hO : MOk M' n) (hI : MSt M') (hn : as.length = n) (hs : S0 = as.reverse ++ rest) (hdd : d' + 1 ≤ d) (hm : M'.2.2.1 ≤ 26) (hw8 : wds rest ≤ 8) (kk : ∀ (r : Option Vv) (μ' : Mm), Q' r μ' → Ev M d (pc + 3) L (r.toList ++ rest) μ' Q) : Ev M d pc L S0 μ Q := by
  subst hs
  intro p la e s m args below meth c H locs ad G cI cN ls hC hc hL hS hl hW
  have hSr : okS rest := fun v hv => hS v (List.mem_append_right _ hv)
  have hSa : okS as := fun v hv => hS v (List.mem_append_left _ (List.mem_reverse.mpr hv))
  obtain ⟨g1, g2, g3, g4, g5⟩ := hO
  have hts := hC.2.2.2.2.2.1
  have hrun := va_runSN (As := as.map (eV ad)) (rest := rest.map (eV ad)) (g := F0 m pc ls ((as.reverse ++ rest).map (eV ad))) (H := H) (locs := locs) (cells := 0) (slots := 0) (index := idx) (n := n) (below := below) (meth := meth) (e := e) (R := Rm d) (host := host)
    (bytes := M'.2.1) (maxL := M'.2.2.1) (ret := M'.2.2.2) ⟨hC.1, hC.2.1, hC.2.2.2.1, hC.2.2.2.2.1, hts⟩ (hM la ad G cI cN hSa hc)
    ⟨⟨⟨rfl, rfl, (Rm_le hdd hm).1, (Rm_le hdd hm).2, fun w hw' a' U hU => (List.mem_cons.mp hw').elim (fun h => h ▸ Gw_before hts hU _ g2) (Gw_before hts hU w), List.mem_cons_self⟩, hts _ g2, hts _ g1, g3, fun sig h => by rw [h] at g4; exact (Option.some.inj g4).symm, va_Nw.use rfl (hw s hC.2.2.2.2.2.2.2.2)⟩, hts _ hI, trivial⟩
    ⟨Mc.start (M' := M') (d' := d') (Q' := Q'), fun U hU hWU => ⟨rfl, by rw [hU]; exact hW.1, hW.2.1, va_K.moved hWU.alike hC.2.2.2.2.2.2.2.1, hC.2.2.2.2.2.2.2.2.warm hWU⟩⟩ rfl (by simpa using hn) hl.1 (by simp) (lv_room (by rw [wds_eq]; exact hw8)) hd ⟨Nat.le_refl 0, Nat.le_refl 0⟩
  exact e_back (M' := M') (pc' := pc) (as := as) hC hL hSr hl hW hrun kk
theorem e_min {idx : Nat} {a b : Int} (hd : decode M.2.1 pc = .ok (.invokestatic idx, 3)) (hw : Cond.methodLink M.1.cls idx Lib.Math.min.name ∈ Gw) (hw2 : Cond.static Lib.Math.min.name ∈ Gw ∧ Cond.initialized "java/lang/Math" ∈ Gw ∧ Cond.code Lib.Math.min.name Lib.Math.min.code 2 (some .int) ∈ Gw) (hdd : 1 ≤ d) (hw8 : wds S ≤ 8) (ha : inR a) (hb : inR b) (kk : Ev M d (pc + 3) L (vI (min a b) :: S) μ Q) : Ev M d pc L (vI b :: vI a :: S) μ Q := by
  intro p la e s m args below meth c H locs ad G cI cN ls hC hc hL hS hl hW
  have hts := hC.2.2.2.2.2.1
  refine va_mmin hC.1 hC.2.1 (hC.2.2.2.1.trans hl.1.symm) hC.2.2.2.2.1 (hts _ hw) (hts _ hw2.1) (hts _ hw2.2.1) (hts _ hw2.2.2) (by simp only [Rm]; omega) (by rw [wds_eq]; simp only [Rm]; omega) (by simp [Rm]) (by simp [Rm]) hd ?_
  have e1 : (if Int32.ofInt b < Int32.ofInt a then Int32.ofInt b else Int32.ofInt a) = Int32.ofInt (min a b) := by
    simp only [i_lt hb ha]
    split <;> congr 1 <;> omega
  rw [e1]
  exact kk p la e s m args below meth c H locs ad G cI cN ls hC hc hL (hS.tl.tl.cons trivial) hl hW
theorem e_max {idx : Nat} {a b : Int} (hd : decode M.2.1 pc = .ok (.invokestatic idx, 3)) (hw : Cond.methodLink M.1.cls idx Lib.Math.max.name ∈ Gw) (hw2 : Cond.static Lib.Math.max.name ∈ Gw ∧ Cond.initialized "java/lang/Math" ∈ Gw ∧ Cond.code Lib.Math.max.name Lib.Math.max.code 2 (some .int) ∈ Gw) (hdd : 1 ≤ d) (hw8 : wds S ≤ 8) (ha : inR a) (hb : inR b) (kk : Ev M d (pc + 3) L (vI (max a b) :: S) μ Q) : Ev M d pc L (vI b :: vI a :: S) μ Q := by
  intro p la e s m args below meth c H locs ad G cI cN ls hC hc hL hS hl hW
  have hts := hC.2.2.2.2.2.1
  refine va_mmax hC.1 hC.2.1 (hC.2.2.2.1.trans hl.1.symm) hC.2.2.2.2.1 (hts _ hw) (hts _ hw2.1) (hts _ hw2.2.1) (hts _ hw2.2.2) (by simp only [Rm]; omega) (by rw [wds_eq]; simp only [Rm]; omega) (by simp [Rm]) (by simp [Rm]) hd ?_
  have e1 : ∀ x y : Int32, (if x < y then y else x) = if ¬ (x < y) then x else y := fun x y => by split <;> simp_all
  have e2 : (if Int32.ofInt a < Int32.ofInt b then Int32.ofInt b else Int32.ofInt a) = Int32.ofInt (max a b) := by
    simp only [i_lt ha hb]
    split <;> congr 1 <;> omega
  rw [e2]
  exact kk p la e s m args below meth c H locs ad G cI cN ls hC hc hL (hS.tl.tl.cons trivial) hl hW
/-- the locals at the entry -/
def entA : List Vv → List (Option Vv)
  | [] => []
  | v :: t => if isLong (some v) then some v :: none :: entA t else some v :: entA t
theorem entA_at {ad : Nat → Int → Nat} : ∀ (as : List Vv) (i0 j : Nat) (v : Vv), (entA as)[j]? = some (some v) → (i0 + j, eV ad v) ∈ lv_args i0 (as.map (eV ad))
  | [], i0, j, v, h => by simp [entA] at h
  | u :: t, i0, j, v, h => by
    have hcat := eV_cat (ad := ad) u
    rw [entA] at h
    simp only [List.map_cons, lv_args]
    cases hu : isLong (some u) with
    | true =>
      rw [hu] at h hcat
      have hcat : (eV ad u).category = 2 := by simpa using hcat
      rw [if_pos hcat]
      simp only [if_true] at h
      match j, h with
      | 0, h => simp at h; subst h; simp
      | 1, h => simp at h
      | j + 2, h =>
        have := entA_at (ad := ad) t (i0 + 2) j v (by simpa using h)
        exact List.mem_cons_of_mem _ (by rw [show i0 + (j + 2) = i0 + 2 + j by omega]; exact this)
    | false =>
      rw [hu] at h hcat
      have hcat : ¬ (eV ad u).category = 2 := by simpa using hcat
      rw [if_neg hcat]
      simp only [Bool.false_eq_true, if_false] at h
      match j, h with
      | 0, h => simp at h; subst h; simp
      | j + 1, h =>
        have := entA_at (ad := ad) t (i0 + 1) j v (by simpa using h)
        exact List.mem_cons_of_mem _ (by rw [show i0 + (j + 1) = i0 + 1 + j by omega]; exact this)
theorem entA_ok : ∀ (as : List Vv), okS as → okL (entA as)
  | [], _ => fun _ h => absurd h List.not_mem_nil
  | u :: t, h => by
    have ih := entA_ok t h.tl
    rw [entA]
    split
    · intro x hx
      rcases List.mem_cons.mp hx with rfl | hx
      · exact h.hd
      · rcases List.mem_cons.mp hx with rfl | hx
        · trivial
        · exact ih x hx
    · intro x hx
      rcases List.mem_cons.mp hx with rfl | hx
      · exact h.hd
      · exact ih x hx
theorem sl_len {ad : Nat → Int → Nat} : ∀ as : List Vv, (lg_sl (as.map (eV ad))).length = (entA as).length
  | [] => rfl
  | u :: t => by
    have ih := sl_len (ad := ad) t
    have hcat := eV_cat (ad := ad) u
    unfold lg_sl at ih ⊢
    simp only [List.map_cons, List.flatMap_cons, List.length_append, ih]
    rw [entA]
    cases hu : isLong (some u) with
    | true => rw [hu] at hcat; rw [if_pos (by simpa using hcat)]; simp; omega
    | false => rw [hu] at hcat; rw [if_neg (by simpa using hcat)]; simp; omega
/-- a contract, from the walk of the body -/
theorem Mc.of {as : List Vv} (hn : plainName M.1.cls = true) (hL : leL L (entA as ++ List.replicate (M.2.2.1 - (entA as).length) none)) (hlen : (entA as).length ≤ M.2.2.1) (k : Ev M d 0 L [] μ Q) : Mc M d as μ Q := by
  intro l ad G cI cN hok hc
  refine Met.ofW (cc := M.2.1) (maxL := M.2.2.1) (ret := M.2.2.2) hn rfl ?_
  intro p e s m args below meth c s₁ B hml hv
  obtain ⟨rfl, hP, hD, hK, hNw⟩ := hv
  have hts : ∀ w ∈ Gw, w.before (as.map (eV ad)).toArray s = true := fun w hw => atoms_spec (ws := .code M.1 M.2.1 M.2.2.1 M.2.2.2 :: Gw) B.pre w (List.mem_cons_of_mem _ hw)
  have hl := lv_entry (as.map (eV ad)) (n := M.2.2.1) (by rw [sl_len]; exact hlen)
  rw [lg_entry_eq]
  generalize (lg_sl (as.map (eV ad)) ++ List.replicate (M.2.2.1 - (lg_sl (as.map (eV ad))).length) Slot.unset).toArray = ls at hl ⊢
  have hat : ∀ (i : Nat) (v : Vv), L[i]? = some (some v) → (entA as)[i]? = some (some v) := by
    intro i v hv
    have h1 := leL_at _ _ hL i v hv
    by_cases hi : i < (entA as).length
    · rwa [List.getElem?_append_left hi] at h1
    · rw [List.getElem?_append_right (by omega), List.getElem?_replicate] at h1
      split at h1 <;> cases h1
  refine k p l e s m _ below meth c s.heap [] ad G cI cN ls ⟨B.exec, B.bytes, B.returns, hml, findClass_of_methodNamed B.named, hts, B.notSynchronized, hK, hNw⟩ hc ?_ okS.nil ⟨hl.1, hl.2.1, fun i v hv => ?_⟩ ⟨hP, hD, va_S.rf⟩
  · intro x hx
    cases x with
    | none => trivial
    | some v =>
      obtain ⟨i, hi⟩ := List.getElem?_of_mem hx
      exact entA_ok as hok (some v) (List.mem_of_getElem? (hat i v hi))
  · have := hl.2.2 _ (entA_at as 0 i v (hat i v hv))
    simpa using this
end EV
end
section
theorem aLk_2 (l : Int) : aL 2 l = 8 := rfl
theorem aLk_4 (l : Int) : aL 4 l = 4 := rfl
theorem aLk_6 (l : Int) : aL 6 l = 196 := rfl
theorem aLk_8 (l : Int) : aL 8 l = 40 := rfl
theorem aLk_9 (l : Int) : aL 9 l = 40 := rfl
theorem aLk_10 (l : Int) : aL 10 l = 120 := rfl
theorem aLk_12 (l : Int) : aL 12 l = 3 * capC l := rfl
theorem aLk_13 (l : Int) : aL 13 l = capP l + 1 := rfl
theorem aLk_14 (l : Int) : aL 14 l = 2 * capE l := rfl
theorem aLk_15 (l : Int) : aL 15 l = 2 * capE l := rfl
theorem aLk_16 (l : Int) : aL 16 l = 2 * capE l := rfl
theorem aLk_17 (l : Int) : aL 17 l = 2 * capE l := rfl
theorem aLk_18 (l : Int) : aL 18 l = capE l := rfl
theorem aLk_19 (l : Int) : aL 19 l = capC l := rfl
theorem aLk_20 (l : Int) : aL 20 l = capC l := rfl
theorem aLk_22 (l : Int) : aL 22 l = 8 := rfl
theorem aLk_23 (l : Int) : aL 23 l = 4 := rfl
theorem aLk_24 (l : Int) : aL 24 l = 4 := rfl
theorem aLk_25 (l : Int) : aL 25 l = 4 := rfl
theorem aLk_26 (l : Int) : aL 26 l = 2400 := rfl
theorem aLk_27 (l : Int) : aL 27 l = 640 := rfl
theorem aLk_28 (l : Int) : aL 28 l = 640 := rfl
theorem aLk_29 (l : Int) : aL 29 l = 2800 := rfl
theorem aLk_30 (l : Int) : aL 30 l = 1400 := rfl
theorem aLk_31 (l : Int) : aL 31 l = 1400 := rfl
theorem aLk_32 (l : Int) : aL 32 l = 40 := rfl
theorem aLk_33 (l : Int) : aL 33 l = 120 := rfl
/-- yes or no, as the machine has it -/
noncomputable def b01 (p : Prop) : Int := @ite Int p (Classical.propDecidable p) 1 0
theorem b01_or {p : Prop} : b01 p = 0 ∨ b01 p = 1 := by unfold b01; split <;> simp
theorem b01_in {p : Prop} : inR (b01 p) := by unfold b01; split <;> omega
theorem b01_t {p : Prop} (h : p) : b01 p = 1 := by unfold b01; exact if_pos h
theorem b01_f {p : Prop} (h : ¬ p) : b01 p = 0 := by unfold b01; exact if_neg h
theorem b01_0 {p : Prop} : b01 p = 0 ↔ ¬ p := by unfold b01; split <;> simp_all
theorem rt1 {p : Prop} {μ : Mm} (h : p) : Rt (some (vI (b01 p))) μ (some (vI 1)) μ := ⟨by rw [b01_t h], rfl⟩
theorem rt0 {p : Prop} {μ : Mm} (h : ¬ p) : Rt (some (vI (b01 p))) μ (some (vI 0)) μ := ⟨by rw [b01_f h], rfl⟩
theorem cmpI_in {a b : Int} : inR (cmpI a b) := by
  unfold cmpI
  repeat' split
  all_goals omega
/-- the memory with one cell's contents replaced -/
def mfun (μ : Mm) (k : Nat) (l : Int) (f : Int → Int) : Mm := fun k' l' => if k' = k ∧ l' = l then f else μ k' l'
theorem mfun_eq {μ : Mm} {k : Nat} {l : Int} {f : Int → Int} : mfun μ k l f k l = f := by simp [mfun]
theorem mfun_ne {μ : Mm} {k k' : Nat} {l l' : Int} {f : Int → Int} (h : ¬ (k' = k ∧ l' = l)) : mfun μ k l f k' l' = μ k' l' := by simp only [mfun, if_neg h]
theorem mfun_k {μ : Mm} {k k' : Nat} {l l' : Int} {f : Int → Int} (h : k' ≠ k) : mfun μ k l f k' l' = μ k' l' := mfun_ne (fun q => h q.1)
theorem mfun_l {μ : Mm} {k k' : Nat} {l l' : Int} {f : Int → Int} (h : l' ≠ l) : mfun μ k l f k' l' = μ k' l' := mfun_ne (fun q => h q.2)
theorem mset_mfun {μ : Mm} {k : Nat} {l i v : Int} {f : Int → Int} : mset (mfun μ k l f) k l i v = mfun μ k l (fun j => if j = i then v else f j) := by
  funext k' l' i'
  simp only [mset, mfun]
  by_cases h : k' = k ∧ l' = l
  · obtain ⟨rfl, rfl⟩ := h
    by_cases h2 : i' = i <;> simp [h2]
  · rw [if_neg (fun q => h ⟨q.1, q.2.1⟩), if_neg h, if_neg h]
theorem mfun_self {μ : Mm} {k : Nat} {l : Int} : mfun μ k l (μ k l) = μ := by
  funext k' l'
  simp only [mfun]
  split
  · next h => rw [h.1, h.2]
  · rfl
theorem mset_as {μ : Mm} {k : Nat} {l i v : Int} : mset μ k l i v = mfun μ k l (fun j => if j = i then v else μ k l j) := by
  rw [← mset_mfun, mfun_self]
theorem mfun_cg {μ : Mm} {k : Nat} {l : Int} {f g : Int → Int} (h : ∀ j, f j = g j) : mfun μ k l f = mfun μ k l g := by rw [funext h]
theorem mfun_mfun {μ : Mm} {k : Nat} {l : Int} {f g : Int → Int} : mfun (mfun μ k l f) k l g = mfun μ k l g := by
  funext k' l'
  simp only [mfun]
  split <;> rfl
theorem mfun_comm {μ : Mm} {k k' : Nat} {l l' : Int} {f g : Int → Int} (h : ¬ (k' = k ∧ l' = l)) : mfun (mfun μ k l f) k' l' g = mfun (mfun μ k' l' g) k l f := by
  funext a b
  simp only [mfun]
  by_cases h1 : a = k ∧ b = l
  · rw [if_pos h1, if_pos h1, if_neg (fun q => h ⟨q.1.symm.trans h1.1, q.2.symm.trans h1.2⟩)]
  · rw [if_neg h1, if_neg h1]

section EV2
variable {M : MI} {d pc : Nat} {S : List Vv} {μ : Mm} {Q : Option Vv → Mm → Prop}
theorem e_is0 {x0 : Option Vv} {t : List (Option Vv)} {a : Int} (hd : decode M.2.1 pc = .ok (.istore_n 0, 1)) (hi : 0 < M.2.2.1) (k : Ev M d (pc + 1) (some (vI a) :: t) S μ Q) : Ev M d pc (x0 :: t) (vI a :: S) μ Q := e_istore_n hd rfl hi rfl k
theorem e_as0 {x0 : Option Vv} {t : List (Option Vv)} {r : Option (Nat × Int)} (hd : decode M.2.1 pc = .ok (.astore_n 0, 1)) (hi : 0 < M.2.2.1) (k : Ev M d (pc + 1) (some (.inr (.inr r)) :: t) S μ Q) : Ev M d pc (x0 :: t) (.inr (.inr r) :: S) μ Q := e_astore_n hd rfl hi rfl k
theorem e_ls0 {x0 x1 : Option Vv} {t : List (Option Vv)} {a : Int} (hd : decode M.2.1 pc = .ok (.lstore_n 0, 1)) (hi : 0 + 1 < M.2.2.1) (k : Ev M d (pc + 1) (some (vL a) :: none :: t) S μ Q) : Ev M d pc (x0 :: x1 :: t) (vL a :: S) μ Q := e_lstore_n hd rfl hi rfl k
theorem e_ii0 {t : List (Option Vv)} {a n : Int} (hd : decode M.2.1 pc = .ok (.iinc 0 n, 3)) (hi : 0 < M.2.2.1) (k : Ev M d (pc + 3) (some (vI (a + n)) :: t) S μ Q) : Ev M d pc (some (vI a) :: t) S μ Q := e_iinc hd hi rfl rfl k
theorem e_is1 {x0 x1 : Option Vv} {t : List (Option Vv)} {a : Int} (hd : decode M.2.1 pc = .ok (.istore_n 1, 1)) (hi : 1 < M.2.2.1) (hn : isLong x0 = false) (k : Ev M d (pc + 1) (x0 :: some (vI a) :: t) S μ Q) : Ev M d pc (x0 :: x1 :: t) (vI a :: S) μ Q := e_istore_n hd rfl hi (by show (!isLong x0) = true; rw [hn]; rfl) k
theorem e_as1 {x0 x1 : Option Vv} {t : List (Option Vv)} {r : Option (Nat × Int)} (hd : decode M.2.1 pc = .ok (.astore_n 1, 1)) (hi : 1 < M.2.2.1) (hn : isLong x0 = false) (k : Ev M d (pc + 1) (x0 :: some (.inr (.inr r)) :: t) S μ Q) : Ev M d pc (x0 :: x1 :: t) (.inr (.inr r) :: S) μ Q := e_astore_n hd rfl hi (by show (!isLong x0) = true; rw [hn]; rfl) k
theorem e_ls1 {x0 x1 x2 : Option Vv} {t : List (Option Vv)} {a : Int} (hd : decode M.2.1 pc = .ok (.lstore_n 1, 1)) (hi : 1 + 1 < M.2.2.1) (hn : isLong x0 = false) (k : Ev M d (pc + 1) (x0 :: some (vL a) :: none :: t) S μ Q) : Ev M d pc (x0 :: x1 :: x2 :: t) (vL a :: S) μ Q := e_lstore_n hd rfl hi (by show (!isLong x0) = true; rw [hn]; rfl) k
theorem e_ii1 {x0 : Option Vv} {t : List (Option Vv)} {a n : Int} (hd : decode M.2.1 pc = .ok (.iinc 1 n, 3)) (hi : 1 < M.2.2.1) (hn : isLong x0 = false) (k : Ev M d (pc + 3) (x0 :: some (vI (a + n)) :: t) S μ Q) : Ev M d pc (x0 :: some (vI a) :: t) S μ Q := e_iinc hd hi (by show (!isLong x0) = true; rw [hn]; rfl) rfl k
theorem e_is2 {x0 x1 x2 : Option Vv} {t : List (Option Vv)} {a : Int} (hd : decode M.2.1 pc = .ok (.istore_n 2, 1)) (hi : 2 < M.2.2.1) (hn : isLong x1 = false) (k : Ev M d (pc + 1) (x0 :: x1 :: some (vI a) :: t) S μ Q) : Ev M d pc (x0 :: x1 :: x2 :: t) (vI a :: S) μ Q := e_istore_n hd rfl hi (by show (!isLong x1) = true; rw [hn]; rfl) k
theorem e_as2 {x0 x1 x2 : Option Vv} {t : List (Option Vv)} {r : Option (Nat × Int)} (hd : decode M.2.1 pc = .ok (.astore_n 2, 1)) (hi : 2 < M.2.2.1) (hn : isLong x1 = false) (k : Ev M d (pc + 1) (x0 :: x1 :: some (.inr (.inr r)) :: t) S μ Q) : Ev M d pc (x0 :: x1 :: x2 :: t) (.inr (.inr r) :: S) μ Q := e_astore_n hd rfl hi (by show (!isLong x1) = true; rw [hn]; rfl) k
theorem e_ls2 {x0 x1 x2 x3 : Option Vv} {t : List (Option Vv)} {a : Int} (hd : decode M.2.1 pc = .ok (.lstore_n 2, 1)) (hi : 2 + 1 < M.2.2.1) (hn : isLong x1 = false) (k : Ev M d (pc + 1) (x0 :: x1 :: some (vL a) :: none :: t) S μ Q) : Ev M d pc (x0 :: x1 :: x2 :: x3 :: t) (vL a :: S) μ Q := e_lstore_n hd rfl hi (by show (!isLong x1) = true; rw [hn]; rfl) k
theorem e_ii2 {x0 x1 : Option Vv} {t : List (Option Vv)} {a n : Int} (hd : decode M.2.1 pc = .ok (.iinc 2 n, 3)) (hi : 2 < M.2.2.1) (hn : isLong x1 = false) (k : Ev M d (pc + 3) (x0 :: x1 :: some (vI (a + n)) :: t) S μ Q) : Ev M d pc (x0 :: x1 :: some (vI a) :: t) S μ Q := e_iinc hd hi (by show (!isLong x1) = true; rw [hn]; rfl) rfl k
theorem e_is3 {x0 x1 x2 x3 : Option Vv} {t : List (Option Vv)} {a : Int} (hd : decode M.2.1 pc = .ok (.istore_n 3, 1)) (hi : 3 < M.2.2.1) (hn : isLong x2 = false) (k : Ev M d (pc + 1) (x0 :: x1 :: x2 :: some (vI a) :: t) S μ Q) : Ev M d pc (x0 :: x1 :: x2 :: x3 :: t) (vI a :: S) μ Q := e_istore_n hd rfl hi (by show (!isLong x2) = true; rw [hn]; rfl) k
theorem e_as3 {x0 x1 x2 x3 : Option Vv} {t : List (Option Vv)} {r : Option (Nat × Int)} (hd : decode M.2.1 pc = .ok (.astore_n 3, 1)) (hi : 3 < M.2.2.1) (hn : isLong x2 = false) (k : Ev M d (pc + 1) (x0 :: x1 :: x2 :: some (.inr (.inr r)) :: t) S μ Q) : Ev M d pc (x0 :: x1 :: x2 :: x3 :: t) (.inr (.inr r) :: S) μ Q := e_astore_n hd rfl hi (by show (!isLong x2) = true; rw [hn]; rfl) k
theorem e_ls3 {x0 x1 x2 x3 x4 : Option Vv} {t : List (Option Vv)} {a : Int} (hd : decode M.2.1 pc = .ok (.lstore_n 3, 1)) (hi : 3 + 1 < M.2.2.1) (hn : isLong x2 = false) (k : Ev M d (pc + 1) (x0 :: x1 :: x2 :: some (vL a) :: none :: t) S μ Q) : Ev M d pc (x0 :: x1 :: x2 :: x3 :: x4 :: t) (vL a :: S) μ Q := e_lstore_n hd rfl hi (by show (!isLong x2) = true; rw [hn]; rfl) k
theorem e_ii3 {x0 x1 x2 : Option Vv} {t : List (Option Vv)} {a n : Int} (hd : decode M.2.1 pc = .ok (.iinc 3 n, 3)) (hi : 3 < M.2.2.1) (hn : isLong x2 = false) (k : Ev M d (pc + 3) (x0 :: x1 :: x2 :: some (vI (a + n)) :: t) S μ Q) : Ev M d pc (x0 :: x1 :: x2 :: some (vI a) :: t) S μ Q := e_iinc hd hi (by show (!isLong x2) = true; rw [hn]; rfl) rfl k
theorem e_is4 {x0 x1 x2 x3 x4 : Option Vv} {t : List (Option Vv)} {a : Int} (hd : decode M.2.1 pc = .ok (.istore 4, 2)) (hi : 4 < M.2.2.1) (hn : isLong x3 = false) (k : Ev M d (pc + 2) (x0 :: x1 :: x2 :: x3 :: some (vI a) :: t) S μ Q) : Ev M d pc (x0 :: x1 :: x2 :: x3 :: x4 :: t) (vI a :: S) μ Q := e_istore hd hi (by show (!isLong x3) = true; rw [hn]; rfl) k
theorem e_as4 {x0 x1 x2 x3 x4 : Option Vv} {t : List (Option Vv)} {r : Option (Nat × Int)} (hd : decode M.2.1 pc = .ok (.astore 4, 2)) (hi : 4 < M.2.2.1) (hn : isLong x3 = false) (k : Ev M d (pc + 2) (x0 :: x1 :: x2 :: x3 :: some (.inr (.inr r)) :: t) S μ Q) : Ev M d pc (x0 :: x1 :: x2 :: x3 :: x4 :: t) (.inr (.inr r) :: S) μ Q := e_astore hd hi (by show (!isLong x3) = true; rw [hn]; rfl) k
theorem e_ls4 {x0 x1 x2 x3 x4 x5 : Option Vv} {t : List (Option Vv)} {a : Int} (hd : decode M.2.1 pc = .ok (.lstore 4, 2)) (hi : 4 + 1 < M.2.2.1) (hn : isLong x3 = false) (k : Ev M d (pc + 2) (x0 :: x1 :: x2 :: x3 :: some (vL a) :: none :: t) S μ Q) : Ev M d pc (x0 :: x1 :: x2 :: x3 :: x4 :: x5 :: t) (vL a :: S) μ Q := e_lstore hd hi (by show (!isLong x3) = true; rw [hn]; rfl) k
theorem e_ii4 {x0 x1 x2 x3 : Option Vv} {t : List (Option Vv)} {a n : Int} (hd : decode M.2.1 pc = .ok (.iinc 4 n, 3)) (hi : 4 < M.2.2.1) (hn : isLong x3 = false) (k : Ev M d (pc + 3) (x0 :: x1 :: x2 :: x3 :: some (vI (a + n)) :: t) S μ Q) : Ev M d pc (x0 :: x1 :: x2 :: x3 :: some (vI a) :: t) S μ Q := e_iinc hd hi (by show (!isLong x3) = true; rw [hn]; rfl) rfl k
theorem e_is5 {x0 x1 x2 x3 x4 x5 : Option Vv} {t : List (Option Vv)} {a : Int} (hd : decode M.2.1 pc = .ok (.istore 5, 2)) (hi : 5 < M.2.2.1) (hn : isLong x4 = false) (k : Ev M d (pc + 2) (x0 :: x1 :: x2 :: x3 :: x4 :: some (vI a) :: t) S μ Q) : Ev M d pc (x0 :: x1 :: x2 :: x3 :: x4 :: x5 :: t) (vI a :: S) μ Q := e_istore hd hi (by show (!isLong x4) = true; rw [hn]; rfl) k
theorem e_as5 {x0 x1 x2 x3 x4 x5 : Option Vv} {t : List (Option Vv)} {r : Option (Nat × Int)} (hd : decode M.2.1 pc = .ok (.astore 5, 2)) (hi : 5 < M.2.2.1) (hn : isLong x4 = false) (k : Ev M d (pc + 2) (x0 :: x1 :: x2 :: x3 :: x4 :: some (.inr (.inr r)) :: t) S μ Q) : Ev M d pc (x0 :: x1 :: x2 :: x3 :: x4 :: x5 :: t) (.inr (.inr r) :: S) μ Q := e_astore hd hi (by show (!isLong x4) = true; rw [hn]; rfl) k
theorem e_ls5 {x0 x1 x2 x3 x4 x5 x6 : Option Vv} {t : List (Option Vv)} {a : Int} (hd : decode M.2.1 pc = .ok (.lstore 5, 2)) (hi : 5 + 1 < M.2.2.1) (hn : isLong x4 = false) (k : Ev M d (pc + 2) (x0 :: x1 :: x2 :: x3 :: x4 :: some (vL a) :: none :: t) S μ Q) : Ev M d pc (x0 :: x1 :: x2 :: x3 :: x4 :: x5 :: x6 :: t) (vL a :: S) μ Q := e_lstore hd hi (by show (!isLong x4) = true; rw [hn]; rfl) k
theorem e_ii5 {x0 x1 x2 x3 x4 : Option Vv} {t : List (Option Vv)} {a n : Int} (hd : decode M.2.1 pc = .ok (.iinc 5 n, 3)) (hi : 5 < M.2.2.1) (hn : isLong x4 = false) (k : Ev M d (pc + 3) (x0 :: x1 :: x2 :: x3 :: x4 :: some (vI (a + n)) :: t) S μ Q) : Ev M d pc (x0 :: x1 :: x2 :: x3 :: x4 :: some (vI a) :: t) S μ Q := e_iinc hd hi (by show (!isLong x4) = true; rw [hn]; rfl) rfl k
theorem e_is6 {x0 x1 x2 x3 x4 x5 x6 : Option Vv} {t : List (Option Vv)} {a : Int} (hd : decode M.2.1 pc = .ok (.istore 6, 2)) (hi : 6 < M.2.2.1) (hn : isLong x5 = false) (k : Ev M d (pc + 2) (x0 :: x1 :: x2 :: x3 :: x4 :: x5 :: some (vI a) :: t) S μ Q) : Ev M d pc (x0 :: x1 :: x2 :: x3 :: x4 :: x5 :: x6 :: t) (vI a :: S) μ Q := e_istore hd hi (by show (!isLong x5) = true; rw [hn]; rfl) k
theorem e_as6 {x0 x1 x2 x3 x4 x5 x6 : Option Vv} {t : List (Option Vv)} {r : Option (Nat × Int)} (hd : decode M.2.1 pc = .ok (.astore 6, 2)) (hi : 6 < M.2.2.1) (hn : isLong x5 = false) (k : Ev M d (pc + 2) (x0 :: x1 :: x2 :: x3 :: x4 :: x5 :: some (.inr (.inr r)) :: t) S μ Q) : Ev M d pc (x0 :: x1 :: x2 :: x3 :: x4 :: x5 :: x6 :: t) (.inr (.inr r) :: S) μ Q := e_astore hd hi (by show (!isLong x5) = true; rw [hn]; rfl) k
theorem e_ls6 {x0 x1 x2 x3 x4 x5 x6 x7 : Option Vv} {t : List (Option Vv)} {a : Int} (hd : decode M.2.1 pc = .ok (.lstore 6, 2)) (hi : 6 + 1 < M.2.2.1) (hn : isLong x5 = false) (k : Ev M d (pc + 2) (x0 :: x1 :: x2 :: x3 :: x4 :: x5 :: some (vL a) :: none :: t) S μ Q) : Ev M d pc (x0 :: x1 :: x2 :: x3 :: x4 :: x5 :: x6 :: x7 :: t) (vL a :: S) μ Q := e_lstore hd hi (by show (!isLong x5) = true; rw [hn]; rfl) k
theorem e_ii6 {x0 x1 x2 x3 x4 x5 : Option Vv} {t : List (Option Vv)} {a n : Int} (hd : decode M.2.1 pc = .ok (.iinc 6 n, 3)) (hi : 6 < M.2.2.1) (hn : isLong x5 = false) (k : Ev M d (pc + 3) (x0 :: x1 :: x2 :: x3 :: x4 :: x5 :: some (vI (a + n)) :: t) S μ Q) : Ev M d pc (x0 :: x1 :: x2 :: x3 :: x4 :: x5 :: some (vI a) :: t) S μ Q := e_iinc hd hi (by show (!isLong x5) = true; rw [hn]; rfl) rfl k
theorem e_is7 {x0 x1 x2 x3 x4 x5 x6 x7 : Option Vv} {t : List (Option Vv)} {a : Int} (hd : decode M.2.1 pc = .ok (.istore 7, 2)) (hi : 7 < M.2.2.1) (hn : isLong x6 = false) (k : Ev M d (pc + 2) (x0 :: x1 :: x2 :: x3 :: x4 :: x5 :: x6 :: some (vI a) :: t) S μ Q) : Ev M d pc (x0 :: x1 :: x2 :: x3 :: x4 :: x5 :: x6 :: x7 :: t) (vI a :: S) μ Q := e_istore hd hi (by show (!isLong x6) = true; rw [hn]; rfl) k
theorem e_as7 {x0 x1 x2 x3 x4 x5 x6 x7 : Option Vv} {t : List (Option Vv)} {r : Option (Nat × Int)} (hd : decode M.2.1 pc = .ok (.astore 7, 2)) (hi : 7 < M.2.2.1) (hn : isLong x6 = false) (k : Ev M d (pc + 2) (x0 :: x1 :: x2 :: x3 :: x4 :: x5 :: x6 :: some (.inr (.inr r)) :: t) S μ Q) : Ev M d pc (x0 :: x1 :: x2 :: x3 :: x4 :: x5 :: x6 :: x7 :: t) (.inr (.inr r) :: S) μ Q := e_astore hd hi (by show (!isLong x6) = true; rw [hn]; rfl) k
theorem e_ls7 {x0 x1 x2 x3 x4 x5 x6 x7 x8 : Option Vv} {t : List (Option Vv)} {a : Int} (hd : decode M.2.1 pc = .ok (.lstore 7, 2)) (hi : 7 + 1 < M.2.2.1) (hn : isLong x6 = false) (k : Ev M d (pc + 2) (x0 :: x1 :: x2 :: x3 :: x4 :: x5 :: x6 :: some (vL a) :: none :: t) S μ Q) : Ev M d pc (x0 :: x1 :: x2 :: x3 :: x4 :: x5 :: x6 :: x7 :: x8 :: t) (vL a :: S) μ Q := e_lstore hd hi (by show (!isLong x6) = true; rw [hn]; rfl) k
theorem e_ii7 {x0 x1 x2 x3 x4 x5 x6 : Option Vv} {t : List (Option Vv)} {a n : Int} (hd : decode M.2.1 pc = .ok (.iinc 7 n, 3)) (hi : 7 < M.2.2.1) (hn : isLong x6 = false) (k : Ev M d (pc + 3) (x0 :: x1 :: x2 :: x3 :: x4 :: x5 :: x6 :: some (vI (a + n)) :: t) S μ Q) : Ev M d pc (x0 :: x1 :: x2 :: x3 :: x4 :: x5 :: x6 :: some (vI a) :: t) S μ Q := e_iinc hd hi (by show (!isLong x6) = true; rw [hn]; rfl) rfl k
theorem e_is8 {x0 x1 x2 x3 x4 x5 x6 x7 x8 : Option Vv} {t : List (Option Vv)} {a : Int} (hd : decode M.2.1 pc = .ok (.istore 8, 2)) (hi : 8 < M.2.2.1) (hn : isLong x7 = false) (k : Ev M d (pc + 2) (x0 :: x1 :: x2 :: x3 :: x4 :: x5 :: x6 :: x7 :: some (vI a) :: t) S μ Q) : Ev M d pc (x0 :: x1 :: x2 :: x3 :: x4 :: x5 :: x6 :: x7 :: x8 :: t) (vI a :: S) μ Q := e_istore hd hi (by show (!isLong x7) = true; rw [hn]; rfl) k
theorem e_as8 {x0 x1 x2 x3 x4 x5 x6 x7 x8 : Option Vv} {t : List (Option Vv)} {r : Option (Nat × Int)} (hd : decode M.2.1 pc = .ok (.astore 8, 2)) (hi : 8 < M.2.2.1) (hn : isLong x7 = false) (k : Ev M d (pc + 2) (x0 :: x1 :: x2 :: x3 :: x4 :: x5 :: x6 :: x7 :: some (.inr (.inr r)) :: t) S μ Q) : Ev M d pc (x0 :: x1 :: x2 :: x3 :: x4 :: x5 :: x6 :: x7 :: x8 :: t) (.inr (.inr r) :: S) μ Q := e_astore hd hi (by show (!isLong x7) = true; rw [hn]; rfl) k
theorem e_ls8 {x0 x1 x2 x3 x4 x5 x6 x7 x8 x9 : Option Vv} {t : List (Option Vv)} {a : Int} (hd : decode M.2.1 pc = .ok (.lstore 8, 2)) (hi : 8 + 1 < M.2.2.1) (hn : isLong x7 = false) (k : Ev M d (pc + 2) (x0 :: x1 :: x2 :: x3 :: x4 :: x5 :: x6 :: x7 :: some (vL a) :: none :: t) S μ Q) : Ev M d pc (x0 :: x1 :: x2 :: x3 :: x4 :: x5 :: x6 :: x7 :: x8 :: x9 :: t) (vL a :: S) μ Q := e_lstore hd hi (by show (!isLong x7) = true; rw [hn]; rfl) k
theorem e_ii8 {x0 x1 x2 x3 x4 x5 x6 x7 : Option Vv} {t : List (Option Vv)} {a n : Int} (hd : decode M.2.1 pc = .ok (.iinc 8 n, 3)) (hi : 8 < M.2.2.1) (hn : isLong x7 = false) (k : Ev M d (pc + 3) (x0 :: x1 :: x2 :: x3 :: x4 :: x5 :: x6 :: x7 :: some (vI (a + n)) :: t) S μ Q) : Ev M d pc (x0 :: x1 :: x2 :: x3 :: x4 :: x5 :: x6 :: x7 :: some (vI a) :: t) S μ Q := e_iinc hd hi (by show (!isLong x7) = true; rw [hn]; rfl) rfl k
theorem e_is9 {x0 x1 x2 x3 x4 x5 x6 x7 x8 x9 : Option Vv} {t : List (Option Vv)} {a : Int} (hd : decode M.2.1 pc = .ok (.istore 9, 2)) (hi : 9 < M.2.2.1) (hn : isLong x8 = false) (k : Ev M d (pc + 2) (x0 :: x1 :: x2 :: x3 :: x4 :: x5 :: x6 :: x7 :: x8 :: some (vI a) :: t) S μ Q) : Ev M d pc (x0 :: x1 :: x2 :: x3 :: x4 :: x5 :: x6 :: x7 :: x8 :: x9 :: t) (vI a :: S) μ Q := e_istore hd hi (by show (!isLong x8) = true; rw [hn]; rfl) k
theorem e_as9 {x0 x1 x2 x3 x4 x5 x6 x7 x8 x9 : Option Vv} {t : List (Option Vv)} {r : Option (Nat × Int)} (hd : decode M.2.1 pc = .ok (.astore 9, 2)) (hi : 9 < M.2.2.1) (hn : isLong x8 = false) (k : Ev M d (pc + 2) (x0 :: x1 :: x2 :: x3 :: x4 :: x5 :: x6 :: x7 :: x8 :: some (.inr (.inr r)) :: t) S μ Q) : Ev M d pc (x0 :: x1 :: x2 :: x3 :: x4 :: x5 :: x6 :: x7 :: x8 :: x9 :: t) (.inr (.inr r) :: S) μ Q := e_astore hd hi (by show (!isLong x8) = true; rw [hn]; rfl) k
theorem e_ls9 {x0 x1 x2 x3 x4 x5 x6 x7 x8 x9 x10 : Option Vv} {t : List (Option Vv)} {a : Int} (hd : decode M.2.1 pc = .ok (.lstore 9, 2)) (hi : 9 + 1 < M.2.2.1) (hn : isLong x8 = false) (k : Ev M d (pc + 2) (x0 :: x1 :: x2 :: x3 :: x4 :: x5 :: x6 :: x7 :: x8 :: some (vL a) :: none :: t) S μ Q) : Ev M d pc (x0 :: x1 :: x2 :: x3 :: x4 :: x5 :: x6 :: x7 :: x8 :: x9 :: x10 :: t) (vL a :: S) μ Q := e_lstore hd hi (by show (!isLong x8) = true; rw [hn]; rfl) k
theorem e_ii9 {x0 x1 x2 x3 x4 x5 x6 x7 x8 : Option Vv} {t : List (Option Vv)} {a n : Int} (hd : decode M.2.1 pc = .ok (.iinc 9 n, 3)) (hi : 9 < M.2.2.1) (hn : isLong x8 = false) (k : Ev M d (pc + 3) (x0 :: x1 :: x2 :: x3 :: x4 :: x5 :: x6 :: x7 :: x8 :: some (vI (a + n)) :: t) S μ Q) : Ev M d pc (x0 :: x1 :: x2 :: x3 :: x4 :: x5 :: x6 :: x7 :: x8 :: some (vI a) :: t) S μ Q := e_iinc hd hi (by show (!isLong x8) = true; rw [hn]; rfl) rfl k
theorem e_is10 {x0 x1 x2 x3 x4 x5 x6 x7 x8 x9 x10 : Option Vv} {t : List (Option Vv)} {a : Int} (hd : decode M.2.1 pc = .ok (.istore 10, 2)) (hi : 10 < M.2.2.1) (hn : isLong x9 = false) (k : Ev M d (pc + 2) (x0 :: x1 :: x2 :: x3 :: x4 :: x5 :: x6 :: x7 :: x8 :: x9 :: some (vI a) :: t) S μ Q) : Ev M d pc (x0 :: x1 :: x2 :: x3 :: x4 :: x5 :: x6 :: x7 :: x8 :: x9 :: x10 :: t) (vI a :: S) μ Q := e_istore hd hi (by show (!isLong x9) = true; rw [hn]; rfl) k
theorem e_as10 {x0 x1 x2 x3 x4 x5 x6 x7 x8 x9 x10 : Option Vv} {t : List (Option Vv)} {r : Option (Nat × Int)} (hd : decode M.2.1 pc = .ok (.astore 10, 2)) (hi : 10 < M.2.2.1) (hn : isLong x9 = false) (k : Ev M d (pc + 2) (x0 :: x1 :: x2 :: x3 :: x4 :: x5 :: x6 :: x7 :: x8 :: x9 :: some (.inr (.inr r)) :: t) S μ Q) : Ev M d pc (x0 :: x1 :: x2 :: x3 :: x4 :: x5 :: x6 :: x7 :: x8 :: x9 :: x10 :: t) (.inr (.inr r) :: S) μ Q := e_astore hd hi (by show (!isLong x9) = true; rw [hn]; rfl) k
theorem e_ls10 {x0 x1 x2 x3 x4 x5 x6 x7 x8 x9 x10 x11 : Option Vv} {t : List (Option Vv)} {a : Int} (hd : decode M.2.1 pc = .ok (.lstore 10, 2)) (hi : 10 + 1 < M.2.2.1) (hn : isLong x9 = false) (k : Ev M d (pc + 2) (x0 :: x1 :: x2 :: x3 :: x4 :: x5 :: x6 :: x7 :: x8 :: x9 :: some (vL a) :: none :: t) S μ Q) : Ev M d pc (x0 :: x1 :: x2 :: x3 :: x4 :: x5 :: x6 :: x7 :: x8 :: x9 :: x10 :: x11 :: t) (vL a :: S) μ Q := e_lstore hd hi (by show (!isLong x9) = true; rw [hn]; rfl) k
theorem e_ii10 {x0 x1 x2 x3 x4 x5 x6 x7 x8 x9 : Option Vv} {t : List (Option Vv)} {a n : Int} (hd : decode M.2.1 pc = .ok (.iinc 10 n, 3)) (hi : 10 < M.2.2.1) (hn : isLong x9 = false) (k : Ev M d (pc + 3) (x0 :: x1 :: x2 :: x3 :: x4 :: x5 :: x6 :: x7 :: x8 :: x9 :: some (vI (a + n)) :: t) S μ Q) : Ev M d pc (x0 :: x1 :: x2 :: x3 :: x4 :: x5 :: x6 :: x7 :: x8 :: x9 :: some (vI a) :: t) S μ Q := e_iinc hd hi (by show (!isLong x9) = true; rw [hn]; rfl) rfl k
theorem e_is11 {x0 x1 x2 x3 x4 x5 x6 x7 x8 x9 x10 x11 : Option Vv} {t : List (Option Vv)} {a : Int} (hd : decode M.2.1 pc = .ok (.istore 11, 2)) (hi : 11 < M.2.2.1) (hn : isLong x10 = false) (k : Ev M d (pc + 2) (x0 :: x1 :: x2 :: x3 :: x4 :: x5 :: x6 :: x7 :: x8 :: x9 :: x10 :: some (vI a) :: t) S μ Q) : Ev M d pc (x0 :: x1 :: x2 :: x3 :: x4 :: x5 :: x6 :: x7 :: x8 :: x9 :: x10 :: x11 :: t) (vI a :: S) μ Q := e_istore hd hi (by show (!isLong x10) = true; rw [hn]; rfl) k
theorem e_as11 {x0 x1 x2 x3 x4 x5 x6 x7 x8 x9 x10 x11 : Option Vv} {t : List (Option Vv)} {r : Option (Nat × Int)} (hd : decode M.2.1 pc = .ok (.astore 11, 2)) (hi : 11 < M.2.2.1) (hn : isLong x10 = false) (k : Ev M d (pc + 2) (x0 :: x1 :: x2 :: x3 :: x4 :: x5 :: x6 :: x7 :: x8 :: x9 :: x10 :: some (.inr (.inr r)) :: t) S μ Q) : Ev M d pc (x0 :: x1 :: x2 :: x3 :: x4 :: x5 :: x6 :: x7 :: x8 :: x9 :: x10 :: x11 :: t) (.inr (.inr r) :: S) μ Q := e_astore hd hi (by show (!isLong x10) = true; rw [hn]; rfl) k
theorem e_ls11 {x0 x1 x2 x3 x4 x5 x6 x7 x8 x9 x10 x11 x12 : Option Vv} {t : List (Option Vv)} {a : Int} (hd : decode M.2.1 pc = .ok (.lstore 11, 2)) (hi : 11 + 1 < M.2.2.1) (hn : isLong x10 = false) (k : Ev M d (pc + 2) (x0 :: x1 :: x2 :: x3 :: x4 :: x5 :: x6 :: x7 :: x8 :: x9 :: x10 :: some (vL a) :: none :: t) S μ Q) : Ev M d pc (x0 :: x1 :: x2 :: x3 :: x4 :: x5 :: x6 :: x7 :: x8 :: x9 :: x10 :: x11 :: x12 :: t) (vL a :: S) μ Q := e_lstore hd hi (by show (!isLong x10) = true; rw [hn]; rfl) k
theorem e_ii11 {x0 x1 x2 x3 x4 x5 x6 x7 x8 x9 x10 : Option Vv} {t : List (Option Vv)} {a n : Int} (hd : decode M.2.1 pc = .ok (.iinc 11 n, 3)) (hi : 11 < M.2.2.1) (hn : isLong x10 = false) (k : Ev M d (pc + 3) (x0 :: x1 :: x2 :: x3 :: x4 :: x5 :: x6 :: x7 :: x8 :: x9 :: x10 :: some (vI (a + n)) :: t) S μ Q) : Ev M d pc (x0 :: x1 :: x2 :: x3 :: x4 :: x5 :: x6 :: x7 :: x8 :: x9 :: x10 :: some (vI a) :: t) S μ Q := e_iinc hd hi (by show (!isLong x10) = true; rw [hn]; rfl) rfl k
theorem e_is12 {x0 x1 x2 x3 x4 x5 x6 x7 x8 x9 x10 x11 x12 : Option Vv} {t : List (Option Vv)} {a : Int} (hd : decode M.2.1 pc = .ok (.istore 12, 2)) (hi : 12 < M.2.2.1) (hn : isLong x11 = false) (k : Ev M d (pc + 2) (x0 :: x1 :: x2 :: x3 :: x4 :: x5 :: x6 :: x7 :: x8 :: x9 :: x10 :: x11 :: some (vI a) :: t) S μ Q) : Ev M d pc (x0 :: x1 :: x2 :: x3 :: x4 :: x5 :: x6 :: x7 :: x8 :: x9 :: x10 :: x11 :: x12 :: t) (vI a :: S) μ Q := e_istore hd hi (by show (!isLong x11) = true; rw [hn]; rfl) k
theorem e_as12 {x0 x1 x2 x3 x4 x5 x6 x7 x8 x9 x10 x11 x12 : Option Vv} {t : List (Option Vv)} {r : Option (Nat × Int)} (hd : decode M.2.1 pc = .ok (.astore 12, 2)) (hi : 12 < M.2.2.1) (hn : isLong x11 = false) (k : Ev M d (pc + 2) (x0 :: x1 :: x2 :: x3 :: x4 :: x5 :: x6 :: x7 :: x8 :: x9 :: x10 :: x11 :: some (.inr (.inr r)) :: t) S μ Q) : Ev M d pc (x0 :: x1 :: x2 :: x3 :: x4 :: x5 :: x6 :: x7 :: x8 :: x9 :: x10 :: x11 :: x12 :: t) (.inr (.inr r) :: S) μ Q := e_astore hd hi (by show (!isLong x11) = true; rw [hn]; rfl) k
theorem e_ls12 {x0 x1 x2 x3 x4 x5 x6 x7 x8 x9 x10 x11 x12 x13 : Option Vv} {t : List (Option Vv)} {a : Int} (hd : decode M.2.1 pc = .ok (.lstore 12, 2)) (hi : 12 + 1 < M.2.2.1) (hn : isLong x11 = false) (k : Ev M d (pc + 2) (x0 :: x1 :: x2 :: x3 :: x4 :: x5 :: x6 :: x7 :: x8 :: x9 :: x10 :: x11 :: some (vL a) :: none :: t) S μ Q) : Ev M d pc (x0 :: x1 :: x2 :: x3 :: x4 :: x5 :: x6 :: x7 :: x8 :: x9 :: x10 :: x11 :: x12 :: x13 :: t) (vL a :: S) μ Q := e_lstore hd hi (by show (!isLong x11) = true; rw [hn]; rfl) k
theorem e_ii12 {x0 x1 x2 x3 x4 x5 x6 x7 x8 x9 x10 x11 : Option Vv} {t : List (Option Vv)} {a n : Int} (hd : decode M.2.1 pc = .ok (.iinc 12 n, 3)) (hi : 12 < M.2.2.1) (hn : isLong x11 = false) (k : Ev M d (pc + 3) (x0 :: x1 :: x2 :: x3 :: x4 :: x5 :: x6 :: x7 :: x8 :: x9 :: x10 :: x11 :: some (vI (a + n)) :: t) S μ Q) : Ev M d pc (x0 :: x1 :: x2 :: x3 :: x4 :: x5 :: x6 :: x7 :: x8 :: x9 :: x10 :: x11 :: some (vI a) :: t) S μ Q := e_iinc hd hi (by show (!isLong x11) = true; rw [hn]; rfl) rfl k
theorem e_is13 {x0 x1 x2 x3 x4 x5 x6 x7 x8 x9 x10 x11 x12 x13 : Option Vv} {t : List (Option Vv)} {a : Int} (hd : decode M.2.1 pc = .ok (.istore 13, 2)) (hi : 13 < M.2.2.1) (hn : isLong x12 = false) (k : Ev M d (pc + 2) (x0 :: x1 :: x2 :: x3 :: x4 :: x5 :: x6 :: x7 :: x8 :: x9 :: x10 :: x11 :: x12 :: some (vI a) :: t) S μ Q) : Ev M d pc (x0 :: x1 :: x2 :: x3 :: x4 :: x5 :: x6 :: x7 :: x8 :: x9 :: x10 :: x11 :: x12 :: x13 :: t) (vI a :: S) μ Q := e_istore hd hi (by show (!isLong x12) = true; rw [hn]; rfl) k
theorem e_as13 {x0 x1 x2 x3 x4 x5 x6 x7 x8 x9 x10 x11 x12 x13 : Option Vv} {t : List (Option Vv)} {r : Option (Nat × Int)} (hd : decode M.2.1 pc = .ok (.astore 13, 2)) (hi : 13 < M.2.2.1) (hn : isLong x12 = false) (k : Ev M d (pc + 2) (x0 :: x1 :: x2 :: x3 :: x4 :: x5 :: x6 :: x7 :: x8 :: x9 :: x10 :: x11 :: x12 :: some (.inr (.inr r)) :: t) S μ Q) : Ev M d pc (x0 :: x1 :: x2 :: x3 :: x4 :: x5 :: x6 :: x7 :: x8 :: x9 :: x10 :: x11 :: x12 :: x13 :: t) (.inr (.inr r) :: S) μ Q := e_astore hd hi (by show (!isLong x12) = true; rw [hn]; rfl) k
theorem e_ls13 {x0 x1 x2 x3 x4 x5 x6 x7 x8 x9 x10 x11 x12 x13 x14 : Option Vv} {t : List (Option Vv)} {a : Int} (hd : decode M.2.1 pc = .ok (.lstore 13, 2)) (hi : 13 + 1 < M.2.2.1) (hn : isLong x12 = false) (k : Ev M d (pc + 2) (x0 :: x1 :: x2 :: x3 :: x4 :: x5 :: x6 :: x7 :: x8 :: x9 :: x10 :: x11 :: x12 :: some (vL a) :: none :: t) S μ Q) : Ev M d pc (x0 :: x1 :: x2 :: x3 :: x4 :: x5 :: x6 :: x7 :: x8 :: x9 :: x10 :: x11 :: x12 :: x13 :: x14 :: t) (vL a :: S) μ Q := e_lstore hd hi (by show (!isLong x12) = true; rw [hn]; rfl) k
theorem e_ii13 {x0 x1 x2 x3 x4 x5 x6 x7 x8 x9 x10 x11 x12 : Option Vv} {t : List (Option Vv)} {a n : Int} (hd : decode M.2.1 pc = .ok (.iinc 13 n, 3)) (hi : 13 < M.2.2.1) (hn : isLong x12 = false) (k : Ev M d (pc + 3) (x0 :: x1 :: x2 :: x3 :: x4 :: x5 :: x6 :: x7 :: x8 :: x9 :: x10 :: x11 :: x12 :: some (vI (a + n)) :: t) S μ Q) : Ev M d pc (x0 :: x1 :: x2 :: x3 :: x4 :: x5 :: x6 :: x7 :: x8 :: x9 :: x10 :: x11 :: x12 :: some (vI a) :: t) S μ Q := e_iinc hd hi (by show (!isLong x12) = true; rw [hn]; rfl) rfl k
theorem e_is14 {x0 x1 x2 x3 x4 x5 x6 x7 x8 x9 x10 x11 x12 x13 x14 : Option Vv} {t : List (Option Vv)} {a : Int} (hd : decode M.2.1 pc = .ok (.istore 14, 2)) (hi : 14 < M.2.2.1) (hn : isLong x13 = false) (k : Ev M d (pc + 2) (x0 :: x1 :: x2 :: x3 :: x4 :: x5 :: x6 :: x7 :: x8 :: x9 :: x10 :: x11 :: x12 :: x13 :: some (vI a) :: t) S μ Q) : Ev M d pc (x0 :: x1 :: x2 :: x3 :: x4 :: x5 :: x6 :: x7 :: x8 :: x9 :: x10 :: x11 :: x12 :: x13 :: x14 :: t) (vI a :: S) μ Q := e_istore hd hi (by show (!isLong x13) = true; rw [hn]; rfl) k
theorem e_as14 {x0 x1 x2 x3 x4 x5 x6 x7 x8 x9 x10 x11 x12 x13 x14 : Option Vv} {t : List (Option Vv)} {r : Option (Nat × Int)} (hd : decode M.2.1 pc = .ok (.astore 14, 2)) (hi : 14 < M.2.2.1) (hn : isLong x13 = false) (k : Ev M d (pc + 2) (x0 :: x1 :: x2 :: x3 :: x4 :: x5 :: x6 :: x7 :: x8 :: x9 :: x10 :: x11 :: x12 :: x13 :: some (.inr (.inr r)) :: t) S μ Q) : Ev M d pc (x0 :: x1 :: x2 :: x3 :: x4 :: x5 :: x6 :: x7 :: x8 :: x9 :: x10 :: x11 :: x12 :: x13 :: x14 :: t) (.inr (.inr r) :: S) μ Q := e_astore hd hi (by show (!isLong x13) = true; rw [hn]; rfl) k
theorem e_ls14 {x0 x1 x2 x3 x4 x5 x6 x7 x8 x9 x10 x11 x12 x13 x14 x15 : Option Vv} {t : List (Option Vv)} {a : Int} (hd : decode M.2.1 pc = .ok (.lstore 14, 2)) (hi : 14 + 1 < M.2.2.1) (hn : isLong x13 = false) (k : Ev M d (pc + 2) (x0 :: x1 :: x2 :: x3 :: x4 :: x5 :: x6 :: x7 :: x8 :: x9 :: x10 :: x11 :: x12 :: x13 :: some (vL a) :: none :: t) S μ Q) : Ev M d pc (x0 :: x1 :: x2 :: x3 :: x4 :: x5 :: x6 :: x7 :: x8 :: x9 :: x10 :: x11 :: x12 :: x13 :: x14 :: x15 :: t) (vL a :: S) μ Q := e_lstore hd hi (by show (!isLong x13) = true; rw [hn]; rfl) k
theorem e_ii14 {x0 x1 x2 x3 x4 x5 x6 x7 x8 x9 x10 x11 x12 x13 : Option Vv} {t : List (Option Vv)} {a n : Int} (hd : decode M.2.1 pc = .ok (.iinc 14 n, 3)) (hi : 14 < M.2.2.1) (hn : isLong x13 = false) (k : Ev M d (pc + 3) (x0 :: x1 :: x2 :: x3 :: x4 :: x5 :: x6 :: x7 :: x8 :: x9 :: x10 :: x11 :: x12 :: x13 :: some (vI (a + n)) :: t) S μ Q) : Ev M d pc (x0 :: x1 :: x2 :: x3 :: x4 :: x5 :: x6 :: x7 :: x8 :: x9 :: x10 :: x11 :: x12 :: x13 :: some (vI a) :: t) S μ Q := e_iinc hd hi (by show (!isLong x13) = true; rw [hn]; rfl) rfl k
theorem e_is15 {x0 x1 x2 x3 x4 x5 x6 x7 x8 x9 x10 x11 x12 x13 x14 x15 : Option Vv} {t : List (Option Vv)} {a : Int} (hd : decode M.2.1 pc = .ok (.istore 15, 2)) (hi : 15 < M.2.2.1) (hn : isLong x14 = false) (k : Ev M d (pc + 2) (x0 :: x1 :: x2 :: x3 :: x4 :: x5 :: x6 :: x7 :: x8 :: x9 :: x10 :: x11 :: x12 :: x13 :: x14 :: some (vI a) :: t) S μ Q) : Ev M d pc (x0 :: x1 :: x2 :: x3 :: x4 :: x5 :: x6 :: x7 :: x8 :: x9 :: x10 :: x11 :: x12 :: x13 :: x14 :: x15 :: t) (vI a :: S) μ Q := e_istore hd hi (by show (!isLong x14) = true; rw [hn]; rfl) k
theorem e_as15 {x0 x1 x2 x3 x4 x5 x6 x7 x8 x9 x10 x11 x12 x13 x14 x15 : Option Vv} {t : List (Option Vv)} {r : Option (Nat × Int)} (hd : decode M.2.1 pc = .ok (.astore 15, 2)) (hi : 15 < M.2.2.1) (hn : isLong x14 = false) (k : Ev M d (pc + 2) (x0 :: x1 :: x2 :: x3 :: x4 :: x5 :: x6 :: x7 :: x8 :: x9 :: x10 :: x11 :: x12 :: x13 :: x14 :: some (.inr (.inr r)) :: t) S μ Q) : Ev M d pc (x0 :: x1 :: x2 :: x3 :: x4 :: x5 :: x6 :: x7 :: x8 :: x9 :: x10 :: x11 :: x12 :: x13 :: x14 :: x15 :: t) (.inr (.inr r) :: S) μ Q := e_astore hd hi (by show (!isLong x14) = true; rw [hn]; rfl) k
theorem e_ls15 {x0 x1 x2 x3 x4 x5 x6 x7 x8 x9 x10 x11 x12 x13 x14 x15 x16 : Option Vv} {t : List (Option Vv)} {a : Int} (hd : decode M.2.1 pc = .ok (.lstore 15, 2)) (hi : 15 + 1 < M.2.2.1) (hn : isLong x14 = false) (k : Ev M d (pc + 2) (x0 :: x1 :: x2 :: x3 :: x4 :: x5 :: x6 :: x7 :: x8 :: x9 :: x10 :: x11 :: x12 :: x13 :: x14 :: some (vL a) :: none :: t) S μ Q) : Ev M d pc (x0 :: x1 :: x2 :: x3 :: x4 :: x5 :: x6 :: x7 :: x8 :: x9 :: x10 :: x11 :: x12 :: x13 :: x14 :: x15 :: x16 :: t) (vL a :: S) μ Q := e_lstore hd hi (by show (!isLong x14) = true; rw [hn]; rfl) k
theorem e_ii15 {x0 x1 x2 x3 x4 x5 x6 x7 x8 x9 x10 x11 x12 x13 x14 : Option Vv} {t : List (Option Vv)} {a n : Int} (hd : decode M.2.1 pc = .ok (.iinc 15 n, 3)) (hi : 15 < M.2.2.1) (hn : isLong x14 = false) (k : Ev M d (pc + 3) (x0 :: x1 :: x2 :: x3 :: x4 :: x5 :: x6 :: x7 :: x8 :: x9 :: x10 :: x11 :: x12 :: x13 :: x14 :: some (vI (a + n)) :: t) S μ Q) : Ev M d pc (x0 :: x1 :: x2 :: x3 :: x4 :: x5 :: x6 :: x7 :: x8 :: x9 :: x10 :: x11 :: x12 :: x13 :: x14 :: some (vI a) :: t) S μ Q := e_iinc hd hi (by show (!isLong x14) = true; rw [hn]; rfl) rfl k
variable {L : List (Option Vv)}
theorem e_getiv {k idx ci : Nat} {l : Int} {fs : List (Option Nat)} (j : Nat) (i v : Int) (hd : decode M.2.1 pc = .ok (.getfield idx, 3)) (hF : FL M.1.cls idx ci j) (ho : oS k = some (ci, fs)) (hj : fs[j]? = some none) (hi : (j : Int) = i) (hv : μ k l i = v) (kk : inR v → Ev M d (pc + 3) L (vI v :: S) μ Q) : Ev M d pc L (vR k l :: S) μ Q := by
  subst hv
  exact e_geti j i hd hF ho hj hi kk
theorem e_ialdv {k : Nat} {l a n : Int} (v : Int) (hd : decode M.2.1 pc = .ok (.iaload, 1)) (ho : oS k = none) (h4 : k ≠ 4) (hn : aL k l = n) (ha : 0 ≤ a ∧ a < n) (hv : μ k l a = v) (kk : inR v → Ev M d (pc + 1) L (vI v :: S) μ Q) : Ev M d pc L (vI a :: vR k l :: S) μ Q := by
  subst hv
  exact e_iald hd ho h4 hn ha kk
/-- the memory, named anew -/
theorem e_mem {μ' : Mm} (h : μ = μ') (k : Ev M d pc L S μ' Q) : Ev M d pc L S μ Q := h ▸ k
theorem e_bne {off : Int} {p : Prop} (tgt : Nat) (hd : decode M.2.1 pc = .ok (.ifCond .ne off, 3)) (ht : (pc : Int) + off = (tgt : Int)) (k1 : p → Ev M d tgt L S μ Q) (k2 : ¬ p → Ev M d (pc + 3) L S μ Q) : Ev M d pc L (vI (b01 p) :: S) μ Q :=
  e_if_ne tgt hd ht b01_in (fun h => k1 (Classical.byContradiction (fun q => h (b01_f q)))) (fun h => k2 (b01_0.mp h))
theorem e_beq {off : Int} {p : Prop} (tgt : Nat) (hd : decode M.2.1 pc = .ok (.ifCond .eq off, 3)) (ht : (pc : Int) + off = (tgt : Int)) (k1 : ¬ p → Ev M d tgt L S μ Q) (k2 : p → Ev M d (pc + 3) L S μ Q) : Ev M d pc L (vI (b01 p) :: S) μ Q :=
  e_if_eq tgt hd ht b01_in (fun h => k1 (b01_0.mp h)) (fun h => k2 (Classical.byContradiction (fun q => h (b01_f q))))
theorem e_clt {a b off : Int} (tgt : Nat) (hd : decode M.2.1 pc = .ok (.ifCond .lt off, 3)) (ht : (pc : Int) + off = (tgt : Int)) (k1 : a < b → Ev M d tgt L S μ Q) (k2 : ¬ a < b → Ev M d (pc + 3) L S μ Q) : Ev M d pc L (vI (cmpI a b) :: S) μ Q := by
  refine e_if_lt tgt hd ht cmpI_in (fun h => k1 ?_) (fun h => k2 ?_) <;> (revert h; unfold cmpI; repeat' split) <;> intro h <;> omega
theorem e_cge {a b off : Int} (tgt : Nat) (hd : decode M.2.1 pc = .ok (.ifCond .ge off, 3)) (ht : (pc : Int) + off = (tgt : Int)) (k1 : b ≤ a → Ev M d tgt L S μ Q) (k2 : ¬ b ≤ a → Ev M d (pc + 3) L S μ Q) : Ev M d pc L (vI (cmpI a b) :: S) μ Q := by
  refine e_if_ge tgt hd ht cmpI_in (fun h => k1 ?_) (fun h => k2 ?_) <;> (revert h; unfold cmpI; repeat' split) <;> intro h <;> omega
theorem e_cgt {a b off : Int} (tgt : Nat) (hd : decode M.2.1 pc = .ok (.ifCond .gt off, 3)) (ht : (pc : Int) + off = (tgt : Int)) (k1 : b < a → Ev M d tgt L S μ Q) (k2 : ¬ b < a → Ev M d (pc + 3) L S μ Q) : Ev M d pc L (vI (cmpI a b) :: S) μ Q := by
  refine e_if_gt tgt hd ht cmpI_in (fun h => k1 ?_) (fun h => k2 ?_) <;> (revert h; unfold cmpI; repeat' split) <;> intro h <;> omega
theorem e_cle {a b off : Int} (tgt : Nat) (hd : decode M.2.1 pc = .ok (.ifCond .le off, 3)) (ht : (pc : Int) + off = (tgt : Int)) (k1 : a ≤ b → Ev M d tgt L S μ Q) (k2 : ¬ a ≤ b → Ev M d (pc + 3) L S μ Q) : Ev M d pc L (vI (cmpI a b) :: S) μ Q := by
  refine e_if_le tgt hd ht cmpI_in (fun h => k1 ?_) (fun h => k2 ?_) <;> (revert h; unfold cmpI; repeat' split) <;> intro h <;> omega
theorem e_ceq {a b off : Int} (tgt : Nat) (hd : decode M.2.1 pc = .ok (.ifCond .eq off, 3)) (ht : (pc : Int) + off = (tgt : Int)) (k1 : a = b → Ev M d tgt L S μ Q) (k2 : ¬ a = b → Ev M d (pc + 3) L S μ Q) : Ev M d pc L (vI (cmpI a b) :: S) μ Q := by
  refine e_if_eq tgt hd ht cmpI_in (fun h => k1 ?_) (fun h => k2 ?_) <;> (revert h; unfold cmpI; repeat' split) <;> intro h <;> omega
theorem e_cne {a b off : Int} (tgt : Nat) (hd : decode M.2.1 pc = .ok (.ifCond .ne off, 3)) (ht : (pc : Int) + off = (tgt : Int)) (k1 : ¬ a = b → Ev M d tgt L S μ Q) (k2 : a = b → Ev M d (pc + 3) L S μ Q) : Ev M d pc L (vI (cmpI a b) :: S) μ Q := by
  refine e_if_ne tgt hd ht cmpI_in (fun h => k1 ?_) (fun h => k2 ?_) <;> (revert h; unfold cmpI; repeat' split) <;> intro h <;> omega
theorem e_callVr {M' : MI} {d' idx n k ci : Nat} {l : Int} {as rest S0 : List Vv} {fs : List (Option Nat)} {v : Vv} {μ1 : Mm} (hd : decode M.2.1 pc = .ok (.invokevirtual idx, 3)) (hw : Cond.methodLink M.1.cls idx M'.1 ∈ Gw) (hM : Mc M' d' (vR k l :: as) μ (Rt (some v) μ1)) (hO : MOk M' n) (hI : MIn M') (ho : oS k = some (ci, fs)) (hcl : (vwCl[ci]?).map (fun q => q.1) = some M'.1.cls) (hn : as.length = n) (hs : S0 = as.reverse ++ vR k l :: rest) (hdd : d' + 1 ≤ d) (hm : M'.2.2.1 ≤ 26) (hw8 : wds rest ≤ 8) (kk : Ev M d (pc + 3) L (v :: rest) μ1 Q) : Ev M d pc L S0 μ Q :=
  e_callV hd hw hM hO hI ho hcl hn hs hdd hm hw8 (fun r μ' h => by obtain ⟨rfl, rfl⟩ := h; exact kk)
theorem e_callVv {M' : MI} {d' idx n k ci : Nat} {l : Int} {as rest S0 : List Vv} {fs : List (Option Nat)} {μ1 : Mm} (hd : decode M.2.1 pc = .ok (.invokevirtual idx, 3)) (hw : Cond.methodLink M.1.cls idx M'.1 ∈ Gw) (hM : Mc M' d' (vR k l :: as) μ (Rt none μ1)) (hO : MOk M' n) (hI : MIn M') (ho : oS k = some (ci, fs)) (hcl : (vwCl[ci]?).map (fun q => q.1) = some M'.1.cls) (hn : as.length = n) (hs : S0 = as.reverse ++ vR k l :: rest) (hdd : d' + 1 ≤ d) (hm : M'.2.2.1 ≤ 26) (hw8 : wds rest ≤ 8) (kk : Ev M d (pc + 3) L rest μ1 Q) : Ev M d pc L S0 μ Q :=
  e_callV hd hw hM hO hI ho hcl hn hs hdd hm hw8 (fun r μ' h => by obtain ⟨rfl, rfl⟩ := h; exact kk)
theorem e_callSr {M' : MI} {d' idx n : Nat} {as rest S0 : List Vv} {v : Vv} {μ1 : Mm} (hd : decode M.2.1 pc = .ok (.invokestatic idx, 3)) (hw : Cond.methodLink M.1.cls idx M'.1 ∈ Gw) (hM : Mc M' d' as μ (Rt (some v) μ1)) (hO : MOk M' n) (hI : MSt M') (hn : as.length = n) (hs : S0 = as.reverse ++ rest) (hdd : d' + 1 ≤ d) (hm : M'.2.2.1 ≤ 26) (hw8 : wds rest ≤ 8) (kk : Ev M d (pc + 3) L (v :: rest) μ1 Q) : Ev M d pc L S0 μ Q :=
  e_callS hd hw hM hO hI hn hs hdd hm hw8 (fun r μ' h => by obtain ⟨rfl, rfl⟩ := h; exact kk)
theorem e_callNr {M' : MI} {d' idx n : Nat} {host : String} {as rest S0 : List Vv} {v : Vv} {μ1 : Mm} (hd : decode M.2.1 pc = .ok (.invokestatic idx, 3)) (hw : ∀ s, Nw s → va_Nw (.methodLinkNest M.1.cls idx M'.1 host) s) (hM : Mc M' d' as μ (Rt (some v) μ1)) (hO : MOk M' n) (hI : MSt M') (hn : as.length = n) (hs : S0 = as.reverse ++ rest) (hdd : d' + 1 ≤ d) (hm : M'.2.2.1 ≤ 26) (hw8 : wds rest ≤ 8) (kk : Ev M d (pc + 3) L (v :: rest) μ1 Q) : Ev M d pc L S0 μ Q :=
  e_callN hd hw hM hO hI hn hs hdd hm hw8 (fun r μ' h => by obtain ⟨rfl, rfl⟩ := h; exact kk)
theorem Mc.rt {r r' : Option Vv} {μ1 μ1' : Mm} {as : List Vv} (h : Mc M d as μ (Rt r μ1)) (hr : r = r') (hm : μ1 = μ1') : Mc M d as μ (Rt r' μ1') := by subst hr; subst hm; exact h
end EV2
theorem mj_min : Cond.static Lib.Math.min.name ∈ Gw ∧ Cond.initialized "java/lang/Math" ∈ Gw ∧ Cond.code Lib.Math.min.name Lib.Math.min.code 2 (some .int) ∈ Gw := ⟨Gw_t2 2 rfl rfl, Gw_t1 8 rfl rfl, Gw_t2 3 rfl rfl⟩
theorem mj_max : Cond.static Lib.Math.max.name ∈ Gw ∧ Cond.initialized "java/lang/Math" ∈ Gw ∧ Cond.code Lib.Math.max.name Lib.Math.max.code 2 (some .int) ∈ Gw := ⟨Gw_t2 205 rfl rfl, Gw_t1 8 rfl rfl, Gw_t2 206 rfl rfl⟩
theorem mjX4_49 : Cond.methodLink RX4 49 Lib.Math.min.name ∈ Gw := Gw_t2 1 rfl rfl
theorem mjX2_90 : Cond.methodLink RX2 90 Lib.Math.min.name ∈ Gw := Gw_t2 199 rfl rfl
theorem mjX2_96 : Cond.methodLink RX2 96 Lib.Math.max.name ∈ Gw := Gw_t2 204 rfl rfl
end
section
set_option maxRecDepth 100000 in
set_option maxHeartbeats 4000000 in
theorem c_isLane {μ : Mm} (a : Int) (ha : inR a) : Mc mX5_isLane 0 [vI a] μ (Rt (some (vI (b01 (0 ≤ a ∧ a < 3)))) μ) := by
  refine Mc.of (L := [some (vI a)]) (by decide +kernel) (by simp [leL, entA, isLong, mX5_isLane]) (by simp [entA, isLong, mX5_isLane]) ?_
  refine e_iload_n 0 (dec_at dX5_isLane 0) rfl rfl ?_
  refine e_if_lt 13 (dec_at dX5_isLane 1) (by decide) (by omega) (fun h1 => ?_) (fun h1 => ?_)
  · refine e_iconst (dec_at dX5_isLane 7) ?_
    refine e_zreturn (dec_at dX5_isLane 8) rfl (by first | exact Or.inl rfl | exact Or.inr rfl | exact b01_or) ?_
    first | exact rt1 (by omega) | exact rt0 (by omega)
  · refine e_iload_n 0 (dec_at dX5_isLane 2) rfl rfl ?_
    refine e_iconst (dec_at dX5_isLane 3) ?_
    refine e_icmp_ge 13 (dec_at dX5_isLane 4) (by decide) (by omega) (by omega) (fun h6 => ?_) (fun h6 => ?_)
    · refine e_iconst (dec_at dX5_isLane 7) ?_
      refine e_zreturn (dec_at dX5_isLane 8) rfl (by first | exact Or.inl rfl | exact Or.inr rfl | exact b01_or) ?_
      first | exact rt1 (by omega) | exact rt0 (by omega)
    · refine e_iconst (dec_at dX5_isLane 5) ?_
      refine e_goto 14 (dec_at dX5_isLane 6) (by decide) ?_
      refine e_zreturn (dec_at dX5_isLane 8) rfl (by first | exact Or.inl rfl | exact Or.inr rfl | exact b01_or) ?_
      first | exact rt1 (by omega) | exact rt0 (by omega)

set_option maxRecDepth 100000 in
set_option maxHeartbeats 4000000 in
theorem c_isAxis {μ : Mm} (a : Int) (ha : inR a) : Mc mX5_isAxis 0 [vI a] μ (Rt (some (vI (b01 (0 ≤ a ∧ a < 3)))) μ) := by
  refine Mc.of (L := [some (vI a)]) (by decide +kernel) (by simp [leL, entA, isLong, mX5_isAxis]) (by simp [entA, isLong, mX5_isAxis]) ?_
  refine e_iload_n 0 (dec_at dX5_isAxis 0) rfl rfl ?_
  refine e_if_lt 13 (dec_at dX5_isAxis 1) (by decide) (by omega) (fun h1 => ?_) (fun h1 => ?_)
  · refine e_iconst (dec_at dX5_isAxis 7) ?_
    refine e_zreturn (dec_at dX5_isAxis 8) rfl (by first | exact Or.inl rfl | exact Or.inr rfl | exact b01_or) ?_
    first | exact rt1 (by omega) | exact rt0 (by omega)
  · refine e_iload_n 0 (dec_at dX5_isAxis 2) rfl rfl ?_
    refine e_iconst (dec_at dX5_isAxis 3) ?_
    refine e_icmp_ge 13 (dec_at dX5_isAxis 4) (by decide) (by omega) (by omega) (fun h6 => ?_) (fun h6 => ?_)
    · refine e_iconst (dec_at dX5_isAxis 7) ?_
      refine e_zreturn (dec_at dX5_isAxis 8) rfl (by first | exact Or.inl rfl | exact Or.inr rfl | exact b01_or) ?_
      first | exact rt1 (by omega) | exact rt0 (by omega)
    · refine e_iconst (dec_at dX5_isAxis 5) ?_
      refine e_goto 14 (dec_at dX5_isAxis 6) (by decide) ?_
      refine e_zreturn (dec_at dX5_isAxis 8) rfl (by first | exact Or.inl rfl | exact Or.inr rfl | exact b01_or) ?_
      first | exact rt1 (by omega) | exact rt0 (by omega)

set_option maxRecDepth 100000 in
set_option maxHeartbeats 4000000 in
theorem c_isSide {μ : Mm} (a : Int) (ha : inR a) : Mc mX5_isSide 0 [vI a] μ (Rt (some (vI (b01 (a = 0 ∨ a = 1)))) μ) := by
  refine Mc.of (L := [some (vI a)]) (by decide +kernel) (by simp [leL, entA, isLong, mX5_isSide]) (by simp [entA, isLong, mX5_isSide]) ?_
  refine e_iload_n 0 (dec_at dX5_isSide 0) rfl rfl ?_
  refine e_if_eq 9 (dec_at dX5_isSide 1) (by decide) (by omega) (fun h1 => ?_) (fun h1 => ?_)
  · refine e_iconst (dec_at dX5_isSide 5) ?_
    refine e_goto 14 (dec_at dX5_isSide 6) (by decide) ?_
    refine e_zreturn (dec_at dX5_isSide 8) rfl (by first | exact Or.inl rfl | exact Or.inr rfl | exact b01_or) ?_
    first | exact rt1 (by omega) | exact rt0 (by omega)
  · refine e_iload_n 0 (dec_at dX5_isSide 2) rfl rfl ?_
    refine e_iconst (dec_at dX5_isSide 3) ?_
    refine e_icmp_ne 13 (dec_at dX5_isSide 4) (by decide) (by omega) (by omega) (fun h6 => ?_) (fun h6 => ?_)
    · refine e_iconst (dec_at dX5_isSide 7) ?_
      refine e_zreturn (dec_at dX5_isSide 8) rfl (by first | exact Or.inl rfl | exact Or.inr rfl | exact b01_or) ?_
      first | exact rt1 (by omega) | exact rt0 (by omega)
    · refine e_iconst (dec_at dX5_isSide 5) ?_
      refine e_goto 14 (dec_at dX5_isSide 6) (by decide) ?_
      refine e_zreturn (dec_at dX5_isSide 8) rfl (by first | exact Or.inl rfl | exact Or.inr rfl | exact b01_or) ?_
      first | exact rt1 (by omega) | exact rt0 (by omega)

set_option maxRecDepth 100000 in
set_option maxHeartbeats 4000000 in
theorem c_isLevel {μ : Mm} (a : Int) (ha : inR a) : Mc mX5_isLevel 0 [vI a] μ (Rt (some (vI (b01 (0 ≤ a ∧ a < 4)))) μ) := by
  refine Mc.of (L := [some (vI a)]) (by decide +kernel) (by simp [leL, entA, isLong, mX5_isLevel]) (by simp [entA, isLong, mX5_isLevel]) ?_
  refine e_iload_n 0 (dec_at dX5_isLevel 0) rfl rfl ?_
  refine e_if_lt 13 (dec_at dX5_isLevel 1) (by decide) (by omega) (fun h1 => ?_) (fun h1 => ?_)
  · refine e_iconst (dec_at dX5_isLevel 7) ?_
    refine e_zreturn (dec_at dX5_isLevel 8) rfl (by first | exact Or.inl rfl | exact Or.inr rfl | exact b01_or) ?_
    first | exact rt1 (by omega) | exact rt0 (by omega)
  · refine e_iload_n 0 (dec_at dX5_isLevel 2) rfl rfl ?_
    refine e_iconst (dec_at dX5_isLevel 3) ?_
    refine e_icmp_ge 13 (dec_at dX5_isLevel 4) (by decide) (by omega) (by omega) (fun h6 => ?_) (fun h6 => ?_)
    · refine e_iconst (dec_at dX5_isLevel 7) ?_
      refine e_zreturn (dec_at dX5_isLevel 8) rfl (by first | exact Or.inl rfl | exact Or.inr rfl | exact b01_or) ?_
      first | exact rt1 (by omega) | exact rt0 (by omega)
    · refine e_iconst (dec_at dX5_isLevel 5) ?_
      refine e_goto 14 (dec_at dX5_isLevel 6) (by decide) ?_
      refine e_zreturn (dec_at dX5_isLevel 8) rfl (by first | exact Or.inl rfl | exact Or.inr rfl | exact b01_or) ?_
      first | exact rt1 (by omega) | exact rt0 (by omega)

set_option maxRecDepth 100000 in
set_option maxHeartbeats 4000000 in
theorem c_isMovable {μ : Mm} (a c : Int) (ha : inR a) (hc : inR c) : Mc mX5_isMovable 0 [vI a, vI c] μ (Rt (some (vI (b01 (1 ≤ a ∧ a < 4 ∧ 0 ≤ c ∧ c ≤ 1000)))) μ) := by
  refine Mc.of (L := [some (vI a), some (vI c)]) (by decide +kernel) (by simp [leL, entA, isLong, mX5_isMovable]) (by simp [entA, isLong, mX5_isMovable]) ?_
  refine e_iload_n 0 (dec_at dX5_isMovable 0) rfl rfl ?_
  refine e_iconst (dec_at dX5_isMovable 1) ?_
  refine e_icmp_lt 25 (dec_at dX5_isMovable 2) (by decide) (by omega) (by omega) (fun h2 => ?_) (fun h2 => ?_)
  · refine e_iconst (dec_at dX5_isMovable 13) ?_
    refine e_zreturn (dec_at dX5_isMovable 14) rfl (by first | exact Or.inl rfl | exact Or.inr rfl | exact b01_or) ?_
    first | exact rt1 (by omega) | exact rt0 (by omega)
  · refine e_iload_n 0 (dec_at dX5_isMovable 3) rfl rfl ?_
    refine e_iconst (dec_at dX5_isMovable 4) ?_
    refine e_icmp_ge 25 (dec_at dX5_isMovable 5) (by decide) (by omega) (by omega) (fun h7 => ?_) (fun h7 => ?_)
    · refine e_iconst (dec_at dX5_isMovable 13) ?_
      refine e_zreturn (dec_at dX5_isMovable 14) rfl (by first | exact Or.inl rfl | exact Or.inr rfl | exact b01_or) ?_
      first | exact rt1 (by omega) | exact rt0 (by omega)
    · refine e_iload_n 1 (dec_at dX5_isMovable 6) rfl rfl ?_
      refine e_if_lt 25 (dec_at dX5_isMovable 7) (by decide) (by omega) (fun h11 => ?_) (fun h11 => ?_)
      · refine e_iconst (dec_at dX5_isMovable 13) ?_
        refine e_zreturn (dec_at dX5_isMovable 14) rfl (by first | exact Or.inl rfl | exact Or.inr rfl | exact b01_or) ?_
        first | exact rt1 (by omega) | exact rt0 (by omega)
      · refine e_iload_n 1 (dec_at dX5_isMovable 8) rfl rfl ?_
        refine e_sipush (dec_at dX5_isMovable 9) (by decide) ?_
        refine e_icmp_gt 25 (dec_at dX5_isMovable 10) (by decide) (by omega) (by omega) (fun h18 => ?_) (fun h18 => ?_)
        · refine e_iconst (dec_at dX5_isMovable 13) ?_
          refine e_zreturn (dec_at dX5_isMovable 14) rfl (by first | exact Or.inl rfl | exact Or.inr rfl | exact b01_or) ?_
          first | exact rt1 (by omega) | exact rt0 (by omega)
        · refine e_iconst (dec_at dX5_isMovable 11) ?_
          refine e_goto 26 (dec_at dX5_isMovable 12) (by decide) ?_
          refine e_zreturn (dec_at dX5_isMovable 14) rfl (by first | exact Or.inl rfl | exact Or.inr rfl | exact b01_or) ?_
          first | exact rt1 (by omega) | exact rt0 (by omega)

set_option maxRecDepth 100000 in
set_option maxHeartbeats 4000000 in
theorem c_isWithin {μ : Mm} (v n : Int) (ha : inR v) (hn : 0 ≤ n ∧ n < 2147483648) : Mc mX5_isWithin 0 [vI v, vI n] μ (Rt (some (vI (b01 (-n ≤ v ∧ v ≤ n)))) μ) := by
  refine Mc.of (L := [some (vI v), some (vI n)]) (by decide +kernel) (by simp [leL, entA, isLong, mX5_isWithin]) (by simp [entA, isLong, mX5_isWithin]) ?_
  refine e_iload_n 0 (dec_at dX5_isWithin 0) rfl rfl ?_
  refine e_iload_n 1 (dec_at dX5_isWithin 1) rfl rfl ?_
  refine e_ineg (dec_at dX5_isWithin 2) ?_
  refine e_icmp_lt 15 (dec_at dX5_isWithin 3) (by decide) (by omega) (by omega) (fun h3 => ?_) (fun h3 => ?_)
  · refine e_iconst (dec_at dX5_isWithin 9) ?_
    refine e_zreturn (dec_at dX5_isWithin 10) rfl (by first | exact Or.inl rfl | exact Or.inr rfl | exact b01_or) ?_
    first | exact rt1 (by omega) | exact rt0 (by omega)
  · refine e_iload_n 0 (dec_at dX5_isWithin 4) rfl rfl ?_
    refine e_iload_n 1 (dec_at dX5_isWithin 5) rfl rfl ?_
    refine e_icmp_gt 15 (dec_at dX5_isWithin 6) (by decide) (by omega) (by omega) (fun h8 => ?_) (fun h8 => ?_)
    · refine e_iconst (dec_at dX5_isWithin 9) ?_
      refine e_zreturn (dec_at dX5_isWithin 10) rfl (by first | exact Or.inl rfl | exact Or.inr rfl | exact b01_or) ?_
      first | exact rt1 (by omega) | exact rt0 (by omega)
    · refine e_iconst (dec_at dX5_isWithin 7) ?_
      refine e_goto 16 (dec_at dX5_isWithin 8) (by decide) ?_
      refine e_zreturn (dec_at dX5_isWithin 10) rfl (by first | exact Or.inl rfl | exact Or.inr rfl | exact b01_or) ?_
      first | exact rt1 (by omega) | exact rt0 (by omega)

set_option maxRecDepth 100000 in
set_option maxHeartbeats 4000000 in
theorem c_areWithin {μ : Mm} (x y z n : Int) (hx : inR x) (hy : inR y) (hz : inR z) (hn : 0 ≤ n ∧ n < 2147483648) : Mc mX5_areWithin 1 [vI x, vI y, vI z, vI n] μ (Rt (some (vI (b01 ((-n ≤ x ∧ x ≤ n) ∧ (-n ≤ y ∧ y ≤ n) ∧ (-n ≤ z ∧ z ≤ n))))) μ) := by
  refine Mc.of (L := [some (vI x), some (vI y), some (vI z), some (vI n)]) (by decide +kernel) (by simp [leL, entA, isLong, mX5_areWithin]) (by simp [entA, isLong, mX5_areWithin]) ?_
  refine e_iload_n 0 (dec_at dX5_areWithin 0) rfl rfl ?_
  refine e_iload_n 3 (dec_at dX5_areWithin 1) rfl rfl ?_
  refine e_callSr (M' := mX5_isWithin) (dec_at dX5_areWithin 2) mlX5_82 (c_isWithin x n hx hn) oX5_isWithin sX5_isWithin rfl rfl (by decide) (by decide) (Nat.le_of_ble_eq_true rfl) ?_
  refine e_beq 28 (dec_at dX5_areWithin 3) (by decide) (fun h5 => ?_) (fun h5 => ?_)
  · refine e_iconst (dec_at dX5_areWithin 14) ?_
    refine e_zreturn (dec_at dX5_areWithin 15) rfl (by first | exact Or.inl rfl | exact Or.inr rfl | exact b01_or) ?_
    first | exact rt1 (by omega) | exact rt0 (by omega)
  · refine e_iload_n 1 (dec_at dX5_areWithin 4) rfl rfl ?_
    refine e_iload_n 3 (dec_at dX5_areWithin 5) rfl rfl ?_
    refine e_callSr (M' := mX5_isWithin) (dec_at dX5_areWithin 6) mlX5_82 (c_isWithin y n hy hn) oX5_isWithin sX5_isWithin rfl rfl (by decide) (by decide) (Nat.le_of_ble_eq_true rfl) ?_
    refine e_beq 28 (dec_at dX5_areWithin 7) (by decide) (fun h13 => ?_) (fun h13 => ?_)
    · refine e_iconst (dec_at dX5_areWithin 14) ?_
      refine e_zreturn (dec_at dX5_areWithin 15) rfl (by first | exact Or.inl rfl | exact Or.inr rfl | exact b01_or) ?_
      first | exact rt1 (by omega) | exact rt0 (by omega)
    · refine e_iload_n 2 (dec_at dX5_areWithin 8) rfl rfl ?_
      refine e_iload_n 3 (dec_at dX5_areWithin 9) rfl rfl ?_
      refine e_callSr (M' := mX5_isWithin) (dec_at dX5_areWithin 10) mlX5_82 (c_isWithin z n hz hn) oX5_isWithin sX5_isWithin rfl rfl (by decide) (by decide) (Nat.le_of_ble_eq_true rfl) ?_
      refine e_beq 28 (dec_at dX5_areWithin 11) (by decide) (fun h21 => ?_) (fun h21 => ?_)
      · refine e_iconst (dec_at dX5_areWithin 14) ?_
        refine e_zreturn (dec_at dX5_areWithin 15) rfl (by first | exact Or.inl rfl | exact Or.inr rfl | exact b01_or) ?_
        first | exact rt1 (by omega) | exact rt0 (by omega)
      · refine e_iconst (dec_at dX5_areWithin 12) ?_
        refine e_goto 29 (dec_at dX5_areWithin 13) (by decide) ?_
        refine e_zreturn (dec_at dX5_areWithin 15) rfl (by first | exact Or.inl rfl | exact Or.inr rfl | exact b01_or) ?_
        first | exact rt1 (by omega) | exact rt0 (by omega)

set_option maxRecDepth 100000 in
set_option maxHeartbeats 4000000 in
theorem c_mix {μ : Mm} (h a : Int) (ha : inR a) : Mc mX5_mix 0 [vL h, vI a] μ (Rt (some (vL (31 * h + a))) μ) := by
  refine Mc.of (L := [some (vL h), none, some (vI a)]) (by decide +kernel) (by simp [leL, entA, isLong, mX5_mix]) (by simp [entA, isLong, mX5_mix]) ?_
  refine e_ldc2 31 (dec_at dX5_mix 0) klX5_225 (by decide) ?_
  refine e_lload_n 0 (dec_at dX5_mix 1) rfl rfl ?_
  refine e_lmul (dec_at dX5_mix 2) ?_
  refine e_iload_n 2 (dec_at dX5_mix 3) rfl rfl ?_
  refine e_i2l (dec_at dX5_mix 4) (by omega) ?_
  refine e_ladd (dec_at dX5_mix 5) ?_
  refine e_lreturn (dec_at dX5_mix 6) rfl ?_
  exact ⟨rfl, rfl⟩

set_option maxRecDepth 100000 in
set_option maxHeartbeats 4000000 in
theorem c_fail {μ : Mm} (a : Int) (ha : inR a) : Mc mX5_fail 0 [vR 0 0, vI a] μ (Rt (some (vI (-10 - a))) (mset μ 0 0 2 a)) := by
  refine Mc.of (L := [some (vR 0 0), some (vI a)]) (by decide +kernel) (by simp [leL, entA, isLong, mX5_fail]) (by simp [entA, isLong, mX5_fail]) ?_
  refine e_aload_n 0 (dec_at dX5_fail 0) rfl rfl ?_
  refine e_iload_n 1 (dec_at dX5_fail 1) rfl rfl ?_
  refine e_put 2 2 (dec_at dX5_fail 2) flX5_23 fpX5_2 rfl rfl rfl (by omega) (fit_int _) ?_
  refine e_bipush (dec_at dX5_fail 3) (by decide) ?_
  refine e_iload_n 1 (dec_at dX5_fail 4) rfl rfl ?_
  refine e_isub (dec_at dX5_fail 5) ?_
  refine e_ireturn (dec_at dX5_fail 6) rfl ?_
  exact ⟨rfl, rfl⟩

set_option maxRecDepth 100000 in
set_option maxHeartbeats 4000000 in
theorem c_isLost {μ : Mm} : Mc mX3_isLost 0 [vR 1 0] μ (Rt (some (vI (b01 (μ 1 0 2 = -1)))) μ) := by
  refine Mc.of (L := [some (vR 1 0)]) (by decide +kernel) (by simp [leL, entA, isLong, mX3_isLost]) (by simp [entA, isLong, mX3_isLost]) ?_
  refine e_aload_n 0 (dec_at dX3_isLost 0) rfl rfl ?_
  refine e_geti 2 2 (dec_at dX3_isLost 1) flX3_19 rfl rfl rfl (fun r1 => ?_)
  refine e_iconst (dec_at dX3_isLost 2) ?_
  refine e_icmp_ne 12 (dec_at dX3_isLost 3) (by decide) (by omega) (by omega) (fun h5 => ?_) (fun h5 => ?_)
  · refine e_iconst (dec_at dX3_isLost 6) ?_
    refine e_zreturn (dec_at dX3_isLost 7) rfl (by first | exact Or.inl rfl | exact Or.inr rfl | exact b01_or) ?_
    first | exact rt1 (by omega) | exact rt0 (by omega)
  · refine e_iconst (dec_at dX3_isLost 4) ?_
    refine e_goto 13 (dec_at dX3_isLost 5) (by decide) ?_
    refine e_zreturn (dec_at dX3_isLost 7) rfl (by first | exact Or.inl rfl | exact Or.inr rfl | exact b01_or) ?_
    first | exact rt1 (by omega) | exact rt0 (by omega)
end
section
set_option maxRecDepth 100000 in
set_option maxHeartbeats 4000000 in
/-- renew: the numbers become 0 -/
theorem l_renew {μ : Mm} {a n : Int} {f0 : Int → Int} : ∀ (q : Nat) (i : Int), (8 - i).toNat = q → 0 ≤ i → i ≤ 8 → Ev mX3_renew 0 12 [some (vR 1 0), some (vI a), some (vI n), some (vI i)] [] (mfun μ 2 0 (fun j => if 0 ≤ j ∧ j < i then 0 else f0 j)) (Rt none (mfun μ 2 0 (fun j => if 0 ≤ j ∧ j < 8 then 0 else f0 j))) := by
  intro q
  induction q using Nat.strongRecOn with
  | _ q ih =>
  intro i hq h0 h1
  refine e_iload_n 3 (dec_at dX3_renew 8) rfl rfl ?_
  refine e_bipush (dec_at dX3_renew 9) (by decide) ?_
  refine e_icmp_ge 31 (dec_at dX3_renew 10) (by decide) (by omega) (by omega) (fun h15 => ?_) (fun h15 => ?_)
  · refine e_return (dec_at dX3_renew 18) rfl ?_
    obtain rfl : i = 8 := by omega
    exact ⟨rfl, rfl⟩
  · refine e_aload_n 0 (dec_at dX3_renew 11) rfl rfl ?_
    refine e_getr 0 (dec_at dX3_renew 12) flX3_9 rfl rfl ?_
    refine e_iload_n 3 (dec_at dX3_renew 13) rfl rfl ?_
    refine e_iconst (dec_at dX3_renew 14) ?_
    refine e_iast (dec_at dX3_renew 15) rfl (by decide) (aLk_2 _) (by omega) (by omega) ?_
    refine e_ii3 (dec_at dX3_renew 16) (by decide) rfl ?_
    refine e_goto 12 (dec_at dX3_renew 17) (by decide) ?_
    refine e_mem (μ' := mfun μ 2 0 (fun j => if 0 ≤ j ∧ j < i + 1 then 0 else f0 j)) ?_ (ih _ (by omega) (i + 1) rfl (by omega) (by omega))
    rw [mset_mfun]
    refine mfun_cg (fun j => ?_)
    by_cases hj : j = i
    · rw [if_pos hj, if_pos (by omega)]
    · rw [if_neg hj]
      by_cases hk : 0 ≤ j ∧ j < i
      · rw [if_pos hk, if_pos (by omega)]
      · rw [if_neg hk, if_neg (by omega)]

set_option maxRecDepth 100000 in
set_option maxHeartbeats 4000000 in
theorem c_renew {μ : Mm} (a n : Int) (ha : inR a) (hn : inR n) : Mc mX3_renew 0 [vR 1 0, vI a, vI n] μ (Rt none (mfun (mset (mset μ 1 0 1 a) 1 0 2 n) 2 0 (fun j => if 0 ≤ j ∧ j < 8 then 0 else μ 2 0 j))) := by
  refine Mc.of (L := [some (vR 1 0), some (vI a), some (vI n), none]) (by decide +kernel) (by simp [leL, entA, isLong, mX3_renew]) (by simp [entA, isLong, mX3_renew]) ?_
  refine e_aload_n 0 (dec_at dX3_renew 0) rfl rfl ?_
  refine e_iload_n 1 (dec_at dX3_renew 1) rfl rfl ?_
  refine e_put 1 1 (dec_at dX3_renew 2) flX3_15 fpX3_1 rfl rfl rfl (by omega) (fit_int _) ?_
  refine e_aload_n 0 (dec_at dX3_renew 3) rfl rfl ?_
  refine e_iload_n 2 (dec_at dX3_renew 4) rfl rfl ?_
  refine e_put 2 2 (dec_at dX3_renew 5) flX3_19 fpX3_2 rfl rfl rfl (by omega) (fit_int _) ?_
  refine e_iconst (dec_at dX3_renew 6) ?_
  refine e_is3 (dec_at dX3_renew 7) (by decide) rfl ?_
  refine e_mem (μ' := mfun (mset (mset μ 1 0 1 a) 1 0 2 n) 2 0 (fun j => if 0 ≤ j ∧ j < 0 then 0 else μ 2 0 j)) ?_ (l_renew _ 0 rfl (by omega) (by omega))
  have e : (fun j => if 0 ≤ j ∧ j < 0 then 0 else μ 2 0 j) = mset (mset μ 1 0 1 a) 1 0 2 n 2 0 := by
    funext j
    rw [if_neg (by omega)]
    simp [mset]
  rw [e, mfun_self]

/-- v, cast to a lane -/
def lc (a v : Int) : Int := if a = 0 then v.bmod 256 else if a = 1 then v.bmod 65536 else v
theorem bmod_in (v : Int) : inR (v.bmod 256) ∧ inR (v.bmod 65536) := by
  have h1 := Int.bmod_lt (x := v) (m := 256) (by omega)
  have h2 := Int.le_bmod (x := v) (m := 256) (by omega)
  have h3 := Int.bmod_lt (x := v) (m := 65536) (by omega)
  have h4 := Int.le_bmod (x := v) (m := 65536) (by omega)
  omega
theorem lc_in {a v : Int} (h : inR v) : inR (lc a v) := by
  have := bmod_in v
  unfold lc
  split
  · exact this.1
  · split
    · exact this.2
    · exact h

set_option maxRecDepth 100000 in
set_option maxHeartbeats 4000000 in
theorem c_write {μ : Mm} (i v : Int) (hi : 0 ≤ i ∧ i < 8) (hv : inR v) : Mc mX3_write 0 [vR 1 0, vI i, vI v] μ (Rt none (mset μ 2 0 i (lc (μ 1 0 1) v))) := by
  refine Mc.of (L := [some (vR 1 0), some (vI i), some (vI v)]) (by decide +kernel) (by simp [leL, entA, isLong, mX3_write]) (by simp [entA, isLong, mX3_write]) ?_
  refine e_aload_n 0 (dec_at dX3_write 0) rfl rfl ?_
  refine e_geti 1 1 (dec_at dX3_write 1) flX3_15 rfl rfl rfl (fun r1 => ?_)
  refine e_if_ne 18 (dec_at dX3_write 2) (by decide) (by omega) (fun h4 => ?_) (fun h4 => ?_)
  · refine e_aload_n 0 (dec_at dX3_write 10) rfl rfl ?_
    refine e_geti 1 1 (dec_at dX3_write 11) flX3_15 rfl rfl rfl (fun r19 => ?_)
    refine e_iconst (dec_at dX3_write 12) ?_
    refine e_icmp_ne 37 (dec_at dX3_write 13) (by decide) (by omega) (by omega) (fun h23 => ?_) (fun h23 => ?_)
    · refine e_aload_n 0 (dec_at dX3_write 21) rfl rfl ?_
      refine e_getr 0 (dec_at dX3_write 22) flX3_9 rfl rfl ?_
      refine e_iload_n 1 (dec_at dX3_write 23) rfl rfl ?_
      refine e_iload_n 2 (dec_at dX3_write 24) rfl rfl ?_
      refine e_iast (dec_at dX3_write 25) rfl (by decide) (aLk_2 _) (by omega) (by omega) ?_
      refine e_return (dec_at dX3_write 26) rfl ?_
      exact ⟨rfl, by unfold lc; simp [*]⟩
    · refine e_aload_n 0 (dec_at dX3_write 14) rfl rfl ?_
      refine e_getr 0 (dec_at dX3_write 15) flX3_9 rfl rfl ?_
      refine e_iload_n 1 (dec_at dX3_write 16) rfl rfl ?_
      refine e_iload_n 2 (dec_at dX3_write 17) rfl rfl ?_
      refine e_i2s (dec_at dX3_write 18) ?_
      refine e_iast (dec_at dX3_write 19) rfl (by decide) (aLk_2 _) (by omega) (by exact (bmod_in v).2) ?_
      refine e_goto 44 (dec_at dX3_write 20) (by decide) ?_
      refine e_return (dec_at dX3_write 26) rfl ?_
      exact ⟨rfl, by unfold lc; simp [*]⟩
  · refine e_aload_n 0 (dec_at dX3_write 3) rfl rfl ?_
    refine e_getr 0 (dec_at dX3_write 4) flX3_9 rfl rfl ?_
    refine e_iload_n 1 (dec_at dX3_write 5) rfl rfl ?_
    refine e_iload_n 2 (dec_at dX3_write 6) rfl rfl ?_
    refine e_i2b (dec_at dX3_write 7) ?_
    refine e_iast (dec_at dX3_write 8) rfl (by decide) (aLk_2 _) (by omega) (by exact (bmod_in v).1) ?_
    refine e_goto 44 (dec_at dX3_write 9) (by decide) ?_
    refine e_return (dec_at dX3_write 26) rfl ?_
    exact ⟨rfl, by unfold lc; simp [*]⟩

set_option maxRecDepth 100000 in
set_option maxHeartbeats 4000000 in
theorem l_hasN {μ : Mm} {n lo hi : Int} (hn : n ≤ 8) (hn0 : 0 ≤ n) (hlo : inR lo) (hhi : inR hi) : ∀ (q : Nat) (i : Int), (n - i).toNat = q → 0 ≤ i → i ≤ n → (∀ j, 0 ≤ j → j < i → lo ≤ μ 2 0 j ∧ μ 2 0 j ≤ hi) → Ev mX3_hasNumbersWithin 0 3 [some (vR 1 0), some (vI n), some (vI lo), some (vI hi), some (vI i)] [] μ (Rt (some (vI (b01 (∀ j, 0 ≤ j → j < n → lo ≤ μ 2 0 j ∧ μ 2 0 j ≤ hi)))) μ) := by
  intro q
  induction q using Nat.strongRecOn with
  | _ q ih =>
  intro i hq h0 h1 hj
  refine e_iload (dec_at dX3_hasNumbersWithin 2) rfl ?_
  refine e_iload_n 1 (dec_at dX3_hasNumbersWithin 3) rfl rfl ?_
  refine e_icmp_ge 39 (dec_at dX3_hasNumbersWithin 4) (by decide) (by omega) (by omega) (fun h6 => ?_) (fun h6 => ?_)
  · refine e_iconst (dec_at dX3_hasNumbersWithin 21) ?_
    refine e_zreturn (dec_at dX3_hasNumbersWithin 22) rfl (by first | exact Or.inl rfl | exact Or.inr rfl | exact b01_or) ?_
    exact rt1 (fun j a b => hj j a (by omega))
  · refine e_aload_n 0 (dec_at dX3_hasNumbersWithin 5) rfl rfl ?_
    refine e_getr 0 (dec_at dX3_hasNumbersWithin 6) flX3_9 rfl rfl ?_
    refine e_iload (dec_at dX3_hasNumbersWithin 7) rfl ?_
    refine e_iald (dec_at dX3_hasNumbersWithin 8) rfl (by decide) (aLk_2 _) (by omega) (fun r15 => ?_)
    refine e_iload_n 2 (dec_at dX3_hasNumbersWithin 9) rfl rfl ?_
    refine e_icmp_lt 31 (dec_at dX3_hasNumbersWithin 10) (by decide) (by omega) (by omega) (fun h17 => ?_) (fun h17 => ?_)
    · refine e_iconst (dec_at dX3_hasNumbersWithin 17) ?_
      refine e_zreturn (dec_at dX3_hasNumbersWithin 18) rfl (by first | exact Or.inl rfl | exact Or.inr rfl | exact b01_or) ?_
      exact rt0 (fun h => by have := h i h0 (by omega); omega)
    · refine e_aload_n 0 (dec_at dX3_hasNumbersWithin 11) rfl rfl ?_
      refine e_getr 0 (dec_at dX3_hasNumbersWithin 12) flX3_9 rfl rfl ?_
      refine e_iload (dec_at dX3_hasNumbersWithin 13) rfl ?_
      refine e_iald (dec_at dX3_hasNumbersWithin 14) rfl (by decide) (aLk_2 _) (by omega) (fun r26 => ?_)
      refine e_iload_n 3 (dec_at dX3_hasNumbersWithin 15) rfl rfl ?_
      refine e_icmp_le 33 (dec_at dX3_hasNumbersWithin 16) (by decide) (by omega) (by omega) (fun h28 => ?_) (fun h28 => ?_)
      · refine e_ii4 (dec_at dX3_hasNumbersWithin 19) (by decide) rfl ?_
        refine e_goto 3 (dec_at dX3_hasNumbersWithin 20) (by decide) ?_
        refine ih _ (by omega) (i + 1) rfl (by omega) (by omega) (fun j a b => ?_)
        by_cases hji : j = i
        · subst hji; omega
        · exact hj j a (by omega)
      · refine e_iconst (dec_at dX3_hasNumbersWithin 17) ?_
        refine e_zreturn (dec_at dX3_hasNumbersWithin 18) rfl (by first | exact Or.inl rfl | exact Or.inr rfl | exact b01_or) ?_
        exact rt0 (fun h => by have := h i h0 (by omega); omega)

set_option maxRecDepth 100000 in
set_option maxHeartbeats 4000000 in
theorem c_hasN {μ : Mm} (n lo hi : Int) (hn : n ≤ 8) (hn0 : 0 ≤ n) (hlo : inR lo) (hhi : inR hi) : Mc mX3_hasNumbersWithin 0 [vR 1 0, vI n, vI lo, vI hi] μ (Rt (some (vI (b01 (∀ j, 0 ≤ j → j < n → lo ≤ μ 2 0 j ∧ μ 2 0 j ≤ hi)))) μ) := by
  refine Mc.of (L := [some (vR 1 0), some (vI n), some (vI lo), some (vI hi), none]) (by decide +kernel) (by simp [leL, entA, isLong, mX3_hasNumbersWithin]) (by simp [entA, isLong, mX3_hasNumbersWithin]) ?_
  refine e_iconst (dec_at dX3_hasNumbersWithin 0) ?_
  refine e_is4 (dec_at dX3_hasNumbersWithin 1) (by decide) rfl ?_
  exact l_hasN hn hn0 hlo hhi _ 0 rfl (by omega) (by omega) (fun j a b => by omega)
end
section
/-- f at i, i + 1 .., n times -/
def fl {α : Type} (f : Int → α → α) : Int → Nat → α → α
  | _, 0, a => a
  | i, n + 1, a => fl f (i + 1) n (f i a)
/-- f at i .. e - 1 -/
def flo {α : Type} (f : Int → α → α) (i e : Int) (a : α) : α := fl f i (e - i).toNat a
theorem flo_stop {α : Type} {f : Int → α → α} {i e : Int} {a : α} (h : e ≤ i) : flo f i e a = a := by
  unfold flo
  rw [show (e - i).toNat = 0 by omega]
  rfl
theorem flo_step {α : Type} {f : Int → α → α} {i e : Int} {a : α} (h : i < e) : flo f i e a = flo f (i + 1) e (f i a) := by
  unfold flo
  rw [show (e - i).toNat = (e - (i + 1)).toNat + 1 by omega]
  rfl
theorem flo_cg {α : Type} {f g : Int → α → α} {e : Int} : ∀ (n : Nat) (i : Int) (a : α), (e - i).toNat = n → (∀ j b, i ≤ j → j < e → f j b = g j b) → flo f i e a = flo g i e a := by
  intro n
  induction n with
  | zero => intro i a hn h; rw [flo_stop (by omega), flo_stop (by omega)]
  | succ n ih =>
    intro i a hn h
    rw [flo_step (f := f) (by omega), flo_step (f := g) (by omega), h i a (by omega) (by omega)]
    exact ih (i + 1) _ (by omega) (fun j b h1 h2 => h j b (by omega) h2)
theorem flo_last {α : Type} {f : Int → α → α} {e : Int} : ∀ (n : Nat) (i : Int) (a : α), (e - i).toNat = n → i ≤ e → flo f i (e + 1) a = f e (flo f i e a) := by
  intro n
  induction n with
  | zero =>
    intro i a hn h
    obtain rfl : i = e := by omega
    rw [flo_step (by omega), flo_stop (by omega), flo_stop (by omega)]
  | succ n ih =>
    intro i a hn h
    rw [flo_step (by omega), flo_step (i := i) (e := e) (by omega)]
    exact ih (i + 1) _ (by omega) (by omega)
/-- the step behind s, ahead of s -/
def nxF (fst pl : Int → Int) (s : Int) : Int := if s + 1 < fst (pl s + 1) then s + 1 else fst (pl s)
def pvF (fst pl : Int → Int) (s : Int) : Int := if fst (pl s) < s then s - 1 else fst (pl s + 1) - 1
/-- a net's numbers are such as name something -/
def NB1 (μ : Mm) (l : Int) : Prop := (0 ≤ μ 11 l 0 ∧ μ 11 l 0 ≤ capC l) ∧ (0 ≤ μ 11 l 1 ∧ μ 11 l 1 ≤ capP l) ∧ (0 ≤ μ 13 l (μ 11 l 1) ∧ μ 13 l (μ 11 l 1) ≤ 2 * capE l) ∧ (∀ f, 0 ≤ f → f < μ 11 l 1 → 0 ≤ μ 13 l f ∧ μ 13 l f + 1 ≤ μ 13 l (f + 1) ∧ μ 13 l (f + 1) ≤ μ 13 l (μ 11 l 1)) ∧ (∀ s, 0 ≤ s → s < μ 13 l (μ 11 l 1) → (0 ≤ μ 14 l s ∧ μ 14 l s < μ 11 l 0) ∧ (0 ≤ μ 15 l s ∧ μ 15 l s < μ 11 l 1) ∧ μ 13 l (μ 15 l s) ≤ s ∧ s < μ 13 l (μ 15 l s + 1))
def NB2 (μ : Mm) (l : Int) : Prop := (0 ≤ μ 11 l 2 ∧ μ 11 l 2 ≤ capE l) ∧ (∀ e, 0 ≤ e → e < μ 11 l 2 → 0 ≤ μ 18 l e ∧ μ 18 l e < μ 13 l (μ 11 l 1))
theorem NB1.nx {μ : Mm} {l s : Int} (h : NB1 μ l) (h0 : 0 ≤ s) (h1 : s < μ 13 l (μ 11 l 1)) : 0 ≤ nxF (μ 13 l) (μ 15 l) s ∧ nxF (μ 13 l) (μ 15 l) s < μ 13 l (μ 11 l 1) := by
  have a := h.2.2.2.2 s h0 h1
  have b := h.2.2.2.1 (μ 15 l s) (by omega) (by omega)
  unfold nxF
  split <;> omega
theorem NB1.pv {μ : Mm} {l s : Int} (h : NB1 μ l) (h0 : 0 ≤ s) (h1 : s < μ 13 l (μ 11 l 1)) : 0 ≤ pvF (μ 13 l) (μ 15 l) s ∧ pvF (μ 13 l) (μ 15 l) s < μ 13 l (μ 11 l 1) := by
  have a := h.2.2.2.2 s h0 h1
  have b := h.2.2.2.1 (μ 15 l s) (by omega) (by omega)
  unfold pvF
  split <;> omega

set_option maxRecDepth 100000 in
set_option maxHeartbeats 4000000 in
theorem c_hasCorner {μ : Mm} (l : Int) (c : Int) (hc : inR c) : Mc mX2_hasCorner 0 [vR 11 l, vI c] μ (Rt (some (vI (b01 (0 ≤ c ∧ c < μ 11 l 0)))) μ) := by
  refine Mc.of (L := [some (vR 11 l), some (vI c)]) (by decide +kernel) (by simp [leL, entA, isLong, mX2_hasCorner]) (by simp [entA, isLong, mX2_hasCorner]) ?_
  have hCc := capC_in l
  have hCp := capP_in l
  have hCe := capE_in l
  refine e_iload_n 1 (dec_at dX2_hasCorner 0) rfl rfl ?_
  refine e_if_lt 16 (dec_at dX2_hasCorner 1) (by decide) (by omega) (fun h1 => ?_) (fun h1 => ?_)
  · refine e_iconst (dec_at dX2_hasCorner 8) ?_
    refine e_zreturn (dec_at dX2_hasCorner 9) rfl (by first | exact Or.inl rfl | exact Or.inr rfl | exact b01_or) ?_
    first | exact rt1 (by omega) | exact rt0 (by omega)
  · refine e_iload_n 1 (dec_at dX2_hasCorner 2) rfl rfl ?_
    refine e_aload_n 0 (dec_at dX2_hasCorner 3) rfl rfl ?_
    refine e_geti 0 0 (dec_at dX2_hasCorner 4) flX2_39 rfl rfl rfl (fun r6 => ?_)
    refine e_icmp_ge 16 (dec_at dX2_hasCorner 5) (by decide) (by omega) (by omega) (fun h9 => ?_) (fun h9 => ?_)
    · refine e_iconst (dec_at dX2_hasCorner 8) ?_
      refine e_zreturn (dec_at dX2_hasCorner 9) rfl (by first | exact Or.inl rfl | exact Or.inr rfl | exact b01_or) ?_
      first | exact rt1 (by omega) | exact rt0 (by omega)
    · refine e_iconst (dec_at dX2_hasCorner 6) ?_
      refine e_goto 17 (dec_at dX2_hasCorner 7) (by decide) ?_
      refine e_zreturn (dec_at dX2_hasCorner 9) rfl (by first | exact Or.inl rfl | exact Or.inr rfl | exact b01_or) ?_
      first | exact rt1 (by omega) | exact rt0 (by omega)

set_option maxRecDepth 100000 in
set_option maxHeartbeats 4000000 in
theorem c_hasPlate {μ : Mm} (l : Int) (c : Int) (hc : inR c) : Mc mX2_hasPlate 0 [vR 11 l, vI c] μ (Rt (some (vI (b01 (0 ≤ c ∧ c < μ 11 l 1)))) μ) := by
  refine Mc.of (L := [some (vR 11 l), some (vI c)]) (by decide +kernel) (by simp [leL, entA, isLong, mX2_hasPlate]) (by simp [entA, isLong, mX2_hasPlate]) ?_
  have hCc := capC_in l
  have hCp := capP_in l
  have hCe := capE_in l
  refine e_iload_n 1 (dec_at dX2_hasPlate 0) rfl rfl ?_
  refine e_if_lt 16 (dec_at dX2_hasPlate 1) (by decide) (by omega) (fun h1 => ?_) (fun h1 => ?_)
  · refine e_iconst (dec_at dX2_hasPlate 8) ?_
    refine e_zreturn (dec_at dX2_hasPlate 9) rfl (by first | exact Or.inl rfl | exact Or.inr rfl | exact b01_or) ?_
    first | exact rt1 (by omega) | exact rt0 (by omega)
  · refine e_iload_n 1 (dec_at dX2_hasPlate 2) rfl rfl ?_
    refine e_aload_n 0 (dec_at dX2_hasPlate 3) rfl rfl ?_
    refine e_geti 1 1 (dec_at dX2_hasPlate 4) flX2_43 rfl rfl rfl (fun r6 => ?_)
    refine e_icmp_ge 16 (dec_at dX2_hasPlate 5) (by decide) (by omega) (by omega) (fun h9 => ?_) (fun h9 => ?_)
    · refine e_iconst (dec_at dX2_hasPlate 8) ?_
      refine e_zreturn (dec_at dX2_hasPlate 9) rfl (by first | exact Or.inl rfl | exact Or.inr rfl | exact b01_or) ?_
      first | exact rt1 (by omega) | exact rt0 (by omega)
    · refine e_iconst (dec_at dX2_hasPlate 6) ?_
      refine e_goto 17 (dec_at dX2_hasPlate 7) (by decide) ?_
      refine e_zreturn (dec_at dX2_hasPlate 9) rfl (by first | exact Or.inl rfl | exact Or.inr rfl | exact b01_or) ?_
      first | exact rt1 (by omega) | exact rt0 (by omega)

set_option maxRecDepth 100000 in
set_option maxHeartbeats 4000000 in
theorem c_steps {μ : Mm} (l : Int) (h : 0 ≤ μ 11 l 1 ∧ μ 11 l 1 ≤ capP l) : Mc mX2_steps 0 [vR 11 l] μ (Rt (some (vI (μ 13 l (μ 11 l 1)))) μ) := by
  refine Mc.of (L := [some (vR 11 l)]) (by decide +kernel) (by simp [leL, entA, isLong, mX2_steps]) (by simp [entA, isLong, mX2_steps]) ?_
  have hCc := capC_in l
  have hCp := capP_in l
  have hCe := capE_in l
  refine e_aload_n 0 (dec_at dX2_steps 0) rfl rfl ?_
  refine e_getr 4 (dec_at dX2_steps 1) flX2_15 rfl rfl ?_
  refine e_aload_n 0 (dec_at dX2_steps 2) rfl rfl ?_
  refine e_geti 1 1 (dec_at dX2_steps 3) flX2_43 rfl rfl rfl (fun r5 => ?_)
  refine e_iald (dec_at dX2_steps 4) rfl (by decide) (aLk_13 _) (by omega) (fun r8 => ?_)
  refine e_ireturn (dec_at dX2_steps 5) rfl ?_
  exact ⟨rfl, rfl⟩

set_option maxRecDepth 100000 in
set_option maxHeartbeats 4000000 in
theorem c_sizeOf {μ : Mm} (l : Int) (f : Int) (h : 0 ≤ f ∧ f < capP l) : Mc mX2_sizeOf 0 [vR 11 l, vI f] μ (Rt (some (vI (μ 13 l (f + 1) - μ 13 l f))) μ) := by
  refine Mc.of (L := [some (vR 11 l), some (vI f)]) (by decide +kernel) (by simp [leL, entA, isLong, mX2_sizeOf]) (by simp [entA, isLong, mX2_sizeOf]) ?_
  have hCc := capC_in l
  have hCp := capP_in l
  have hCe := capE_in l
  refine e_aload_n 0 (dec_at dX2_sizeOf 0) rfl rfl ?_
  refine e_getr 4 (dec_at dX2_sizeOf 1) flX2_15 rfl rfl ?_
  refine e_iload_n 1 (dec_at dX2_sizeOf 2) rfl rfl ?_
  refine e_iconst (dec_at dX2_sizeOf 3) ?_
  refine e_iadd (dec_at dX2_sizeOf 4) ?_
  refine e_iald (dec_at dX2_sizeOf 5) rfl (by decide) (aLk_13 _) (by omega) (fun r7 => ?_)
  refine e_aload_n 0 (dec_at dX2_sizeOf 6) rfl rfl ?_
  refine e_getr 4 (dec_at dX2_sizeOf 7) flX2_15 rfl rfl ?_
  refine e_iload_n 1 (dec_at dX2_sizeOf 8) rfl rfl ?_
  refine e_iald (dec_at dX2_sizeOf 9) rfl (by decide) (aLk_13 _) (by omega) (fun r13 => ?_)
  refine e_isub (dec_at dX2_sizeOf 10) ?_
  refine e_ireturn (dec_at dX2_sizeOf 11) rfl ?_
  exact ⟨rfl, rfl⟩

set_option maxRecDepth 100000 in
set_option maxHeartbeats 4000000 in
theorem c_stepAfter {μ : Mm} (l : Int) (s : Int) (h : NB1 μ l) (h0 : 0 ≤ s) (h1 : s < μ 13 l (μ 11 l 1)) : Mc mX2_stepAfter 0 [vR 11 l, vI s] μ (Rt (some (vI (nxF (μ 13 l) (μ 15 l) s))) μ) := by
  refine Mc.of (L := [some (vR 11 l), some (vI s), none]) (by decide +kernel) (by simp [leL, entA, isLong, mX2_stepAfter]) (by simp [entA, isLong, mX2_stepAfter]) ?_
  have hCc := capC_in l
  have hCp := capP_in l
  have hCe := capE_in l
  have hs := h.2.2.2.2 s h0 h1
  have hn := h.2.2.1
  have hP := h.2.1
  have hC := h.1
  have hf := h.2.2.2.1 (μ 15 l s) (by omega) (by omega)
  refine e_aload_n 0 (dec_at dX2_stepAfter 0) rfl rfl ?_
  refine e_getr 6 (dec_at dX2_stepAfter 1) flX2_21 rfl rfl ?_
  refine e_iload_n 1 (dec_at dX2_stepAfter 2) rfl rfl ?_
  refine e_iald (dec_at dX2_stepAfter 3) rfl (by decide) (aLk_15 _) (by omega) (fun r5 => ?_)
  refine e_is2 (dec_at dX2_stepAfter 4) (by decide) rfl ?_
  refine e_iload_n 1 (dec_at dX2_stepAfter 5) rfl rfl ?_
  refine e_iconst (dec_at dX2_stepAfter 6) ?_
  refine e_iadd (dec_at dX2_stepAfter 7) ?_
  refine e_aload_n 0 (dec_at dX2_stepAfter 8) rfl rfl ?_
  refine e_getr 4 (dec_at dX2_stepAfter 9) flX2_15 rfl rfl ?_
  refine e_iload_n 2 (dec_at dX2_stepAfter 10) rfl rfl ?_
  refine e_iconst (dec_at dX2_stepAfter 11) ?_
  refine e_iadd (dec_at dX2_stepAfter 12) ?_
  refine e_iald (dec_at dX2_stepAfter 13) rfl (by decide) (aLk_13 _) (by omega) (fun r17 => ?_)
  refine e_icmp_ge 27 (dec_at dX2_stepAfter 14) (by decide) (by omega) (by omega) (fun h18 => ?_) (fun h18 => ?_)
  · refine e_aload_n 0 (dec_at dX2_stepAfter 19) rfl rfl ?_
    refine e_getr 4 (dec_at dX2_stepAfter 20) flX2_15 rfl rfl ?_
    refine e_iload_n 2 (dec_at dX2_stepAfter 21) rfl rfl ?_
    refine e_iald (dec_at dX2_stepAfter 22) rfl (by decide) (aLk_13 _) (by omega) (fun r32 => ?_)
    refine e_ireturn (dec_at dX2_stepAfter 23) rfl ?_
    refine ⟨?_, rfl⟩
    unfold nxF
    first | rw [if_pos (by omega)] | rw [if_neg (by omega)]
  · refine e_iload_n 1 (dec_at dX2_stepAfter 15) rfl rfl ?_
    refine e_iconst (dec_at dX2_stepAfter 16) ?_
    refine e_iadd (dec_at dX2_stepAfter 17) ?_
    refine e_goto 33 (dec_at dX2_stepAfter 18) (by decide) ?_
    refine e_ireturn (dec_at dX2_stepAfter 23) rfl ?_
    refine ⟨?_, rfl⟩
    unfold nxF
    first | rw [if_pos (by omega)] | rw [if_neg (by omega)]

set_option maxRecDepth 100000 in
set_option maxHeartbeats 4000000 in
theorem c_stepBefore {μ : Mm} (l : Int) (s : Int) (h : NB1 μ l) (h0 : 0 ≤ s) (h1 : s < μ 13 l (μ 11 l 1)) : Mc mX2_stepBefore 0 [vR 11 l, vI s] μ (Rt (some (vI (pvF (μ 13 l) (μ 15 l) s))) μ) := by
  refine Mc.of (L := [some (vR 11 l), some (vI s), none]) (by decide +kernel) (by simp [leL, entA, isLong, mX2_stepBefore]) (by simp [entA, isLong, mX2_stepBefore]) ?_
  have hCc := capC_in l
  have hCp := capP_in l
  have hCe := capE_in l
  have hs := h.2.2.2.2 s h0 h1
  have hn := h.2.2.1
  have hP := h.2.1
  have hC := h.1
  have hf := h.2.2.2.1 (μ 15 l s) (by omega) (by omega)
  refine e_aload_n 0 (dec_at dX2_stepBefore 0) rfl rfl ?_
  refine e_getr 6 (dec_at dX2_stepBefore 1) flX2_21 rfl rfl ?_
  refine e_iload_n 1 (dec_at dX2_stepBefore 2) rfl rfl ?_
  refine e_iald (dec_at dX2_stepBefore 3) rfl (by decide) (aLk_15 _) (by omega) (fun r5 => ?_)
  refine e_is2 (dec_at dX2_stepBefore 4) (by decide) rfl ?_
  refine e_iload_n 1 (dec_at dX2_stepBefore 5) rfl rfl ?_
  refine e_aload_n 0 (dec_at dX2_stepBefore 6) rfl rfl ?_
  refine e_getr 4 (dec_at dX2_stepBefore 7) flX2_15 rfl rfl ?_
  refine e_iload_n 2 (dec_at dX2_stepBefore 8) rfl rfl ?_
  refine e_iald (dec_at dX2_stepBefore 9) rfl (by decide) (aLk_13 _) (by omega) (fun r13 => ?_)
  refine e_icmp_le 23 (dec_at dX2_stepBefore 10) (by decide) (by omega) (by omega) (fun h14 => ?_) (fun h14 => ?_)
  · refine e_aload_n 0 (dec_at dX2_stepBefore 15) rfl rfl ?_
    refine e_getr 4 (dec_at dX2_stepBefore 16) flX2_15 rfl rfl ?_
    refine e_iload_n 2 (dec_at dX2_stepBefore 17) rfl rfl ?_
    refine e_iconst (dec_at dX2_stepBefore 18) ?_
    refine e_iadd (dec_at dX2_stepBefore 19) ?_
    refine e_iald (dec_at dX2_stepBefore 20) rfl (by decide) (aLk_13 _) (by omega) (fun r30 => ?_)
    refine e_iconst (dec_at dX2_stepBefore 21) ?_
    refine e_isub (dec_at dX2_stepBefore 22) ?_
    refine e_ireturn (dec_at dX2_stepBefore 23) rfl ?_
    refine ⟨?_, rfl⟩
    unfold pvF
    first | rw [if_pos (by omega)] | rw [if_neg (by omega)]
  · refine e_iload_n 1 (dec_at dX2_stepBefore 11) rfl rfl ?_
    refine e_iconst (dec_at dX2_stepBefore 12) ?_
    refine e_isub (dec_at dX2_stepBefore 13) ?_
    refine e_goto 33 (dec_at dX2_stepBefore 14) (by decide) ?_
    refine e_ireturn (dec_at dX2_stepBefore 23) rfl ?_
    refine ⟨?_, rfl⟩
    unfold pvF
    first | rw [if_pos (by omega)] | rw [if_neg (by omega)]

set_option maxRecDepth 100000 in
set_option maxHeartbeats 4000000 in
theorem c_stepTarget {μ : Mm} (l : Int) (s : Int) (h : NB1 μ l) (h0 : 0 ≤ s) (h1 : s < μ 13 l (μ 11 l 1)) : Mc mX2_stepTarget 1 [vR 11 l, vI s] μ (Rt (some (vI (μ 14 l (nxF (μ 13 l) (μ 15 l) s)))) μ) := by
  refine Mc.of (L := [some (vR 11 l), some (vI s)]) (by decide +kernel) (by simp [leL, entA, isLong, mX2_stepTarget]) (by simp [entA, isLong, mX2_stepTarget]) ?_
  have hCc := capC_in l
  have hCp := capP_in l
  have hCe := capE_in l
  have hs := h.2.2.2.2 s h0 h1
  have hn := h.2.2.1
  have hP := h.2.1
  have hC := h.1
  have hf := h.2.2.2.1 (μ 15 l s) (by omega) (by omega)
  have hx := h.nx h0 h1
  refine e_aload_n 0 (dec_at dX2_stepTarget 0) rfl rfl ?_
  refine e_getr 5 (dec_at dX2_stepTarget 1) flX2_18 rfl rfl ?_
  refine e_aload_n 0 (dec_at dX2_stepTarget 2) rfl rfl ?_
  refine e_iload_n 1 (dec_at dX2_stepTarget 3) rfl rfl ?_
  refine e_callVr (M' := mX2_stepAfter) (dec_at dX2_stepTarget 4) mlX2_46 (c_stepAfter l s h h0 h1) oX2_stepAfter iX2_stepAfter rfl rfl rfl rfl (by decide) (by decide) (Nat.le_of_ble_eq_true rfl) ?_
  refine e_iald (dec_at dX2_stepTarget 5) rfl (by decide) (aLk_14 _) (by omega) (fun r9 => ?_)
  refine e_ireturn (dec_at dX2_stepTarget 6) rfl ?_
  exact ⟨rfl, rfl⟩

set_option maxRecDepth 100000 in
set_option maxHeartbeats 4000000 in
theorem c_whence {μ : Mm} (l : Int) (e : Int) (h : NB1 μ l) (h2 : NB2 μ l) (h0 : 0 ≤ e) (h1 : e < μ 11 l 2) : Mc mX2_whence 0 [vR 11 l, vI e] μ (Rt (some (vI (μ 14 l (μ 18 l e)))) μ) := by
  refine Mc.of (L := [some (vR 11 l), some (vI e)]) (by decide +kernel) (by simp [leL, entA, isLong, mX2_whence]) (by simp [entA, isLong, mX2_whence]) ?_
  have hCc := capC_in l
  have hCp := capP_in l
  have hCe := capE_in l
  have he := h2.2 e h0 h1
  have hE := h2.1
  have hn := h.2.2.1
  refine e_aload_n 0 (dec_at dX2_whence 0) rfl rfl ?_
  refine e_getr 5 (dec_at dX2_whence 1) flX2_18 rfl rfl ?_
  refine e_aload_n 0 (dec_at dX2_whence 2) rfl rfl ?_
  refine e_getr 9 (dec_at dX2_whence 3) flX2_30 rfl rfl ?_
  refine e_iload_n 1 (dec_at dX2_whence 4) rfl rfl ?_
  refine e_iald (dec_at dX2_whence 5) rfl (by decide) (aLk_18 _) (by omega) (fun r9 => ?_)
  refine e_iald (dec_at dX2_whence 6) rfl (by decide) (aLk_14 _) (by omega) (fun r10 => ?_)
  refine e_ireturn (dec_at dX2_whence 7) rfl ?_
  exact ⟨rfl, rfl⟩

set_option maxRecDepth 100000 in
set_option maxHeartbeats 4000000 in
theorem c_whither {μ : Mm} (l : Int) (e : Int) (h : NB1 μ l) (h2 : NB2 μ l) (h0 : 0 ≤ e) (h1 : e < μ 11 l 2) : Mc mX2_whither 2 [vR 11 l, vI e] μ (Rt (some (vI (μ 14 l (nxF (μ 13 l) (μ 15 l) (μ 18 l e))))) μ) := by
  refine Mc.of (L := [some (vR 11 l), some (vI e)]) (by decide +kernel) (by simp [leL, entA, isLong, mX2_whither]) (by simp [entA, isLong, mX2_whither]) ?_
  have hCc := capC_in l
  have hCp := capP_in l
  have hCe := capE_in l
  have he := h2.2 e h0 h1
  have hE := h2.1
  have hn := h.2.2.1
  refine e_aload_n 0 (dec_at dX2_whither 0) rfl rfl ?_
  refine e_aload_n 0 (dec_at dX2_whither 1) rfl rfl ?_
  refine e_getr 9 (dec_at dX2_whither 2) flX2_30 rfl rfl ?_
  refine e_iload_n 1 (dec_at dX2_whither 3) rfl rfl ?_
  refine e_iald (dec_at dX2_whither 4) rfl (by decide) (aLk_18 _) (by omega) (fun r6 => ?_)
  refine e_callVr (M' := mX2_stepTarget) (dec_at dX2_whither 5) mlX2_50 (c_stepTarget l (μ 18 l e) h he.1 he.2) oX2_stepTarget iX2_stepTarget rfl rfl rfl rfl (by decide) (by decide) (Nat.le_of_ble_eq_true rfl) ?_
  refine e_ireturn (dec_at dX2_whither 6) rfl ?_
  exact ⟨rfl, rfl⟩

set_option maxRecDepth 100000 in
set_option maxHeartbeats 4000000 in
theorem l_sumOfPlate {μ : Mm} {l f axis : Int} (h : NB1 μ l) (hf0 : 0 ≤ f) (hf1 : f < μ 11 l 1) (ha : 0 ≤ axis ∧ axis < 3) : ∀ (q : Nat) (s : Int) (a : Int), (μ 13 l (f + 1) - s).toNat = q → 0 ≤ s → s ≤ μ 13 l (f + 1) → Ev mX2_sumOfPlate 0 10 [some (vR 11 l), some (vI f), some (vI axis), some (vI a), some (vI s)] [] μ (Rt (some (vI (flo (fun s a => a + μ 12 l (3 * μ 14 l s + axis)) s (μ 13 l (f + 1)) a))) μ) := by
  intro q
  induction q using Nat.strongRecOn with
  | _ q ih =>
  intro s a hq h0 h1
  have hCc := capC_in l
  have hCp := capP_in l
  have hCe := capE_in l
  have hf := h.2.2.2.1 f hf0 hf1
  have hn := h.2.2.1
  have hP := h.2.1
  have hC := h.1
  refine e_iload (dec_at dX2_sumOfPlate 7) rfl ?_
  refine e_aload_n 0 (dec_at dX2_sumOfPlate 8) rfl rfl ?_
  refine e_getr 4 (dec_at dX2_sumOfPlate 9) flX2_15 rfl rfl ?_
  refine e_iload_n 1 (dec_at dX2_sumOfPlate 10) rfl rfl ?_
  refine e_iconst (dec_at dX2_sumOfPlate 11) ?_
  refine e_iadd (dec_at dX2_sumOfPlate 12) ?_
  refine e_iald (dec_at dX2_sumOfPlate 13) rfl (by decide) (aLk_13 _) (by omega) (fun r19 => ?_)
  refine e_icmp_ge 48 (dec_at dX2_sumOfPlate 14) (by decide) (by omega) (by omega) (fun h20 => ?_) (fun h20 => ?_)
  · refine e_iload_n 3 (dec_at dX2_sumOfPlate 31) rfl rfl ?_
    refine e_ireturn (dec_at dX2_sumOfPlate 32) rfl ?_
    exact ⟨by rw [flo_stop (by omega)], rfl⟩
  · have hs := h.2.2.2.2 s h0 (by omega)
    refine e_iload_n 3 (dec_at dX2_sumOfPlate 15) rfl rfl ?_
    refine e_aload_n 0 (dec_at dX2_sumOfPlate 16) rfl rfl ?_
    refine e_getr 3 (dec_at dX2_sumOfPlate 17) flX2_9 rfl rfl ?_
    refine e_iconst (dec_at dX2_sumOfPlate 18) ?_
    refine e_aload_n 0 (dec_at dX2_sumOfPlate 19) rfl rfl ?_
    refine e_getr 5 (dec_at dX2_sumOfPlate 20) flX2_18 rfl rfl ?_
    refine e_iload (dec_at dX2_sumOfPlate 21) rfl ?_
    refine e_iald (dec_at dX2_sumOfPlate 22) rfl (by decide) (aLk_14 _) (by omega) (fun r35 => ?_)
    refine e_imul (dec_at dX2_sumOfPlate 23) ?_
    refine e_iload_n 2 (dec_at dX2_sumOfPlate 24) rfl rfl ?_
    refine e_iadd (dec_at dX2_sumOfPlate 25) ?_
    refine e_iald (dec_at dX2_sumOfPlate 26) rfl (by decide) (aLk_12 _) (by omega) (fun r39 => ?_)
    refine e_iadd (dec_at dX2_sumOfPlate 27) ?_
    refine e_is3 (dec_at dX2_sumOfPlate 28) (by decide) rfl ?_
    refine e_ii4 (dec_at dX2_sumOfPlate 29) (by decide) rfl ?_
    refine e_goto 10 (dec_at dX2_sumOfPlate 30) (by decide) ?_
    rw [flo_step (by omega)]
    exact ih _ (by omega) (s + 1) _ rfl (by omega) (by omega)

set_option maxRecDepth 100000 in
set_option maxHeartbeats 4000000 in
theorem c_sumOfPlate {μ : Mm} (l : Int) (f axis : Int) (h : NB1 μ l) (hf0 : 0 ≤ f) (hf1 : f < μ 11 l 1) (ha : 0 ≤ axis ∧ axis < 3) : Mc mX2_sumOfPlate 0 [vR 11 l, vI f, vI axis] μ (Rt (some (vI (flo (fun s a => a + μ 12 l (3 * μ 14 l s + axis)) (μ 13 l f) (μ 13 l (f + 1)) 0))) μ) := by
  refine Mc.of (L := [some (vR 11 l), some (vI f), some (vI axis), none, none]) (by decide +kernel) (by simp [leL, entA, isLong, mX2_sumOfPlate]) (by simp [entA, isLong, mX2_sumOfPlate]) ?_
  have hCc := capC_in l
  have hCp := capP_in l
  have hCe := capE_in l
  have hf := h.2.2.2.1 f hf0 hf1
  have hn := h.2.2.1
  have hP := h.2.1
  refine e_iconst (dec_at dX2_sumOfPlate 0) ?_
  refine e_is3 (dec_at dX2_sumOfPlate 1) (by decide) rfl ?_
  refine e_aload_n 0 (dec_at dX2_sumOfPlate 2) rfl rfl ?_
  refine e_getr 4 (dec_at dX2_sumOfPlate 3) flX2_15 rfl rfl ?_
  refine e_iload_n 1 (dec_at dX2_sumOfPlate 4) rfl rfl ?_
  refine e_iald (dec_at dX2_sumOfPlate 5) rfl (by decide) (aLk_13 _) (by omega) (fun r7 => ?_)
  refine e_is4 (dec_at dX2_sumOfPlate 6) (by decide) rfl ?_
  exact l_sumOfPlate h hf0 hf1 ha _ _ _ rfl (by omega) (by omega)

set_option maxRecDepth 100000 in
set_option maxHeartbeats 4000000 in
theorem l_least {μ : Mm} {l axis : Int} (h : 0 ≤ μ 11 l 0 ∧ μ 11 l 0 ≤ capC l) (ha : 0 ≤ axis ∧ axis < 3) : ∀ (q : Nat) (c : Int) (a : Int), (μ 11 l 0 - c).toNat = q → 0 ≤ c → c ≤ capC l → inR a → Ev mX2_least 1 9 [some (vR 11 l), some (vI axis), some (vI a), some (vI c)] [] μ (Rt (some (vI (flo (fun c a => min a (μ 12 l (3 * c + axis))) c (μ 11 l 0) a))) μ) := by
  intro q
  induction q using Nat.strongRecOn with
  | _ q ih =>
  intro c a hq h0 h1 hr
  have hCc := capC_in l
  have hCp := capP_in l
  have hCe := capE_in l
  refine e_iload_n 3 (dec_at dX2_least 7) rfl rfl ?_
  refine e_aload_n 0 (dec_at dX2_least 8) rfl rfl ?_
  refine e_geti 0 0 (dec_at dX2_least 9) flX2_39 rfl rfl rfl (fun r11 => ?_)
  refine e_icmp_ge 38 (dec_at dX2_least 10) (by decide) (by omega) (by omega) (fun h14 => ?_) (fun h14 => ?_)
  · refine e_iload_n 2 (dec_at dX2_least 24) rfl rfl ?_
    refine e_ireturn (dec_at dX2_least 25) rfl ?_
    exact ⟨by rw [flo_stop (by omega)], rfl⟩
  · refine e_iload_n 2 (dec_at dX2_least 11) rfl rfl ?_
    refine e_aload_n 0 (dec_at dX2_least 12) rfl rfl ?_
    refine e_getr 3 (dec_at dX2_least 13) flX2_9 rfl rfl ?_
    refine e_iconst (dec_at dX2_least 14) ?_
    refine e_iload_n 3 (dec_at dX2_least 15) rfl rfl ?_
    refine e_imul (dec_at dX2_least 16) ?_
    refine e_iload_n 1 (dec_at dX2_least 17) rfl rfl ?_
    refine e_iadd (dec_at dX2_least 18) ?_
    refine e_iald (dec_at dX2_least 19) rfl (by decide) (aLk_12 _) (by omega) (fun r27 => ?_)
    refine e_min (dec_at dX2_least 20) mjX2_90 mj_min (by decide) (Nat.le_of_ble_eq_true rfl) (by omega) (by omega) ?_
    refine e_is2 (dec_at dX2_least 21) (by decide) rfl ?_
    refine e_ii3 (dec_at dX2_least 22) (by decide) rfl ?_
    refine e_goto 9 (dec_at dX2_least 23) (by decide) ?_
    rw [flo_step (by omega)]
    exact ih _ (by omega) (c + 1) _ rfl (by omega) (by omega) (by omega)

set_option maxRecDepth 100000 in
set_option maxHeartbeats 4000000 in
theorem c_least {μ : Mm} (l : Int) (axis : Int) (h : 1 ≤ μ 11 l 0 ∧ μ 11 l 0 ≤ capC l) (ha : 0 ≤ axis ∧ axis < 3) : Mc mX2_least 1 [vR 11 l, vI axis] μ (Rt (some (vI (flo (fun c a => min a (μ 12 l (3 * c + axis))) 1 (μ 11 l 0) (μ 12 l axis)))) μ) := by
  refine Mc.of (L := [some (vR 11 l), some (vI axis), none, none]) (by decide +kernel) (by simp [leL, entA, isLong, mX2_least]) (by simp [entA, isLong, mX2_least]) ?_
  have hCc := capC_in l
  have hCp := capP_in l
  have hCe := capE_in l
  refine e_aload_n 0 (dec_at dX2_least 0) rfl rfl ?_
  refine e_getr 3 (dec_at dX2_least 1) flX2_9 rfl rfl ?_
  refine e_iload_n 1 (dec_at dX2_least 2) rfl rfl ?_
  refine e_iald (dec_at dX2_least 3) rfl (by decide) (aLk_12 _) (by omega) (fun r5 => ?_)
  refine e_is2 (dec_at dX2_least 4) (by decide) rfl ?_
  refine e_iconst (dec_at dX2_least 5) ?_
  refine e_is3 (dec_at dX2_least 6) (by decide) rfl ?_
  exact l_least (by omega) ha _ _ _ rfl (by omega) (by omega) r5

set_option maxRecDepth 100000 in
set_option maxHeartbeats 4000000 in
theorem l_greatest {μ : Mm} {l axis : Int} (h : 0 ≤ μ 11 l 0 ∧ μ 11 l 0 ≤ capC l) (ha : 0 ≤ axis ∧ axis < 3) : ∀ (q : Nat) (c : Int) (a : Int), (μ 11 l 0 - c).toNat = q → 0 ≤ c → c ≤ capC l → inR a → Ev mX2_greatest 1 9 [some (vR 11 l), some (vI axis), some (vI a), some (vI c)] [] μ (Rt (some (vI (flo (fun c a => max a (μ 12 l (3 * c + axis))) c (μ 11 l 0) a))) μ) := by
  intro q
  induction q using Nat.strongRecOn with
  | _ q ih =>
  intro c a hq h0 h1 hr
  have hCc := capC_in l
  have hCp := capP_in l
  have hCe := capE_in l
  refine e_iload_n 3 (dec_at dX2_greatest 7) rfl rfl ?_
  refine e_aload_n 0 (dec_at dX2_greatest 8) rfl rfl ?_
  refine e_geti 0 0 (dec_at dX2_greatest 9) flX2_39 rfl rfl rfl (fun r11 => ?_)
  refine e_icmp_ge 38 (dec_at dX2_greatest 10) (by decide) (by omega) (by omega) (fun h14 => ?_) (fun h14 => ?_)
  · refine e_iload_n 2 (dec_at dX2_greatest 24) rfl rfl ?_
    refine e_ireturn (dec_at dX2_greatest 25) rfl ?_
    exact ⟨by rw [flo_stop (by omega)], rfl⟩
  · refine e_iload_n 2 (dec_at dX2_greatest 11) rfl rfl ?_
    refine e_aload_n 0 (dec_at dX2_greatest 12) rfl rfl ?_
    refine e_getr 3 (dec_at dX2_greatest 13) flX2_9 rfl rfl ?_
    refine e_iconst (dec_at dX2_greatest 14) ?_
    refine e_iload_n 3 (dec_at dX2_greatest 15) rfl rfl ?_
    refine e_imul (dec_at dX2_greatest 16) ?_
    refine e_iload_n 1 (dec_at dX2_greatest 17) rfl rfl ?_
    refine e_iadd (dec_at dX2_greatest 18) ?_
    refine e_iald (dec_at dX2_greatest 19) rfl (by decide) (aLk_12 _) (by omega) (fun r27 => ?_)
    refine e_max (dec_at dX2_greatest 20) mjX2_96 mj_max (by decide) (Nat.le_of_ble_eq_true rfl) (by omega) (by omega) ?_
    refine e_is2 (dec_at dX2_greatest 21) (by decide) rfl ?_
    refine e_ii3 (dec_at dX2_greatest 22) (by decide) rfl ?_
    refine e_goto 9 (dec_at dX2_greatest 23) (by decide) ?_
    rw [flo_step (by omega)]
    exact ih _ (by omega) (c + 1) _ rfl (by omega) (by omega) (by omega)

set_option maxRecDepth 100000 in
set_option maxHeartbeats 4000000 in
theorem c_greatest {μ : Mm} (l : Int) (axis : Int) (h : 1 ≤ μ 11 l 0 ∧ μ 11 l 0 ≤ capC l) (ha : 0 ≤ axis ∧ axis < 3) : Mc mX2_greatest 1 [vR 11 l, vI axis] μ (Rt (some (vI (flo (fun c a => max a (μ 12 l (3 * c + axis))) 1 (μ 11 l 0) (μ 12 l axis)))) μ) := by
  refine Mc.of (L := [some (vR 11 l), some (vI axis), none, none]) (by decide +kernel) (by simp [leL, entA, isLong, mX2_greatest]) (by simp [entA, isLong, mX2_greatest]) ?_
  have hCc := capC_in l
  have hCp := capP_in l
  have hCe := capE_in l
  refine e_aload_n 0 (dec_at dX2_greatest 0) rfl rfl ?_
  refine e_getr 3 (dec_at dX2_greatest 1) flX2_9 rfl rfl ?_
  refine e_iload_n 1 (dec_at dX2_greatest 2) rfl rfl ?_
  refine e_iald (dec_at dX2_greatest 3) rfl (by decide) (aLk_12 _) (by omega) (fun r5 => ?_)
  refine e_is2 (dec_at dX2_greatest 4) (by decide) rfl ?_
  refine e_iconst (dec_at dX2_greatest 5) ?_
  refine e_is3 (dec_at dX2_greatest 6) (by decide) rfl ?_
  exact l_greatest (by omega) ha _ _ _ rfl (by omega) (by omega) r5

set_option maxRecDepth 100000 in
set_option maxHeartbeats 4000000 in
theorem l_oddCorners {μ : Mm} {l : Int} (h : 0 ≤ μ 11 l 0 ∧ μ 11 l 0 ≤ capC l) : ∀ (q : Nat) (c : Int) (a : Int), (μ 11 l 0 - c).toNat = q → 0 ≤ c → c ≤ μ 11 l 0 → Ev mX2_oddCorners 0 4 [some (vR 11 l), some (vI a), some (vI c)] [] μ (Rt (some (vI (flo (fun c a => if μ 19 l c = 4 then a else a + 1) c (μ 11 l 0) a))) μ) := by
  intro q
  induction q using Nat.strongRecOn with
  | _ q ih =>
  intro c a hq h0 h1
  have hCc := capC_in l
  have hCp := capP_in l
  have hCe := capE_in l
  refine e_iload_n 2 (dec_at dX2_oddCorners 4) rfl rfl ?_
  refine e_aload_n 0 (dec_at dX2_oddCorners 5) rfl rfl ?_
  refine e_geti 0 0 (dec_at dX2_oddCorners 6) flX2_39 rfl rfl rfl (fun r6 => ?_)
  refine e_icmp_ge 31 (dec_at dX2_oddCorners 7) (by decide) (by omega) (by omega) (fun h9 => ?_) (fun h9 => ?_)
  · refine e_iload_n 1 (dec_at dX2_oddCorners 17) rfl rfl ?_
    refine e_ireturn (dec_at dX2_oddCorners 18) rfl ?_
    exact ⟨by rw [flo_stop (by omega)], rfl⟩
  · refine e_aload_n 0 (dec_at dX2_oddCorners 8) rfl rfl ?_
    refine e_getr 10 (dec_at dX2_oddCorners 9) flX2_33 rfl rfl ?_
    refine e_iload_n 2 (dec_at dX2_oddCorners 10) rfl rfl ?_
    refine e_iald (dec_at dX2_oddCorners 11) rfl (by decide) (aLk_19 _) (by omega) (fun r17 => ?_)
    refine e_iconst (dec_at dX2_oddCorners 12) ?_
    refine e_icmp_eq 25 (dec_at dX2_oddCorners 13) (by decide) (by omega) (by omega) (fun h19 => ?_) (fun h19 => ?_)
    · rw [flo_step (by omega), if_pos h19]
      refine e_ii2 (dec_at dX2_oddCorners 15) (by decide) rfl ?_
      refine e_goto 4 (dec_at dX2_oddCorners 16) (by decide) ?_
      exact ih _ (by omega) (c + 1) _ rfl (by omega) (by omega)
    · rw [flo_step (by omega), if_neg h19]
      refine e_ii1 (dec_at dX2_oddCorners 14) (by decide) rfl ?_
      refine e_ii2 (dec_at dX2_oddCorners 15) (by decide) rfl ?_
      refine e_goto 4 (dec_at dX2_oddCorners 16) (by decide) ?_
      exact ih _ (by omega) (c + 1) _ rfl (by omega) (by omega)

set_option maxRecDepth 100000 in
set_option maxHeartbeats 4000000 in
theorem c_oddCorners {μ : Mm} (l : Int) (h : 0 ≤ μ 11 l 0 ∧ μ 11 l 0 ≤ capC l) : Mc mX2_oddCorners 0 [vR 11 l] μ (Rt (some (vI (flo (fun c a => if μ 19 l c = 4 then a else a + 1) 0 (μ 11 l 0) 0))) μ) := by
  refine Mc.of (L := [some (vR 11 l), none, none]) (by decide +kernel) (by simp [leL, entA, isLong, mX2_oddCorners]) (by simp [entA, isLong, mX2_oddCorners]) ?_
  have hCc := capC_in l
  have hCp := capP_in l
  have hCe := capE_in l
  refine e_iconst (dec_at dX2_oddCorners 0) ?_
  refine e_is1 (dec_at dX2_oddCorners 1) (by decide) rfl ?_
  refine e_iconst (dec_at dX2_oddCorners 2) ?_
  refine e_is2 (dec_at dX2_oddCorners 3) (by decide) rfl ?_
  exact l_oddCorners h _ _ _ rfl (by omega) (by omega)

set_option maxRecDepth 100000 in
set_option maxHeartbeats 4000000 in
theorem l_oddPlates {μ : Mm} {l : Int} (h : NB1 μ l) : ∀ (q : Nat) (f : Int) (a : Int), (μ 11 l 1 - f).toNat = q → 0 ≤ f → f ≤ μ 11 l 1 → Ev mX2_oddPlates 1 4 [some (vR 11 l), some (vI a), some (vI f)] [] μ (Rt (some (vI (flo (fun f a => if μ 13 l (f + 1) - μ 13 l f = 4 then a else a + 1) f (μ 11 l 1) a))) μ) := by
  intro q
  induction q using Nat.strongRecOn with
  | _ q ih =>
  intro f a hq h0 h1
  have hCc := capC_in l
  have hCp := capP_in l
  have hCe := capE_in l
  have hn := h.2.2.1
  have hP := h.2.1
  refine e_iload_n 2 (dec_at dX2_oddPlates 4) rfl rfl ?_
  refine e_aload_n 0 (dec_at dX2_oddPlates 5) rfl rfl ?_
  refine e_geti 1 1 (dec_at dX2_oddPlates 6) flX2_43 rfl rfl rfl (fun r6 => ?_)
  refine e_icmp_ge 30 (dec_at dX2_oddPlates 7) (by decide) (by omega) (by omega) (fun h9 => ?_) (fun h9 => ?_)
  · refine e_iload_n 1 (dec_at dX2_oddPlates 16) rfl rfl ?_
    refine e_ireturn (dec_at dX2_oddPlates 17) rfl ?_
    exact ⟨by rw [flo_stop (by omega)], rfl⟩
  · have hf := h.2.2.2.1 f h0 (by omega)
    refine e_aload_n 0 (dec_at dX2_oddPlates 8) rfl rfl ?_
    refine e_iload_n 2 (dec_at dX2_oddPlates 9) rfl rfl ?_
    refine e_callVr (M' := mX2_sizeOf) (dec_at dX2_oddPlates 10) mlX2_87 (c_sizeOf l f (by omega)) oX2_sizeOf iX2_sizeOf rfl rfl rfl rfl (by decide) (by decide) (Nat.le_of_ble_eq_true rfl) ?_
    refine e_iconst (dec_at dX2_oddPlates 11) ?_
    refine e_icmp_eq 24 (dec_at dX2_oddPlates 12) (by decide) (by omega) (by omega) (fun h18 => ?_) (fun h18 => ?_)
    · rw [flo_step (by omega), if_pos h18]
      refine e_ii2 (dec_at dX2_oddPlates 14) (by decide) rfl ?_
      refine e_goto 4 (dec_at dX2_oddPlates 15) (by decide) ?_
      exact ih _ (by omega) (f + 1) _ rfl (by omega) (by omega)
    · rw [flo_step (by omega), if_neg h18]
      refine e_ii1 (dec_at dX2_oddPlates 13) (by decide) rfl ?_
      refine e_ii2 (dec_at dX2_oddPlates 14) (by decide) rfl ?_
      refine e_goto 4 (dec_at dX2_oddPlates 15) (by decide) ?_
      exact ih _ (by omega) (f + 1) _ rfl (by omega) (by omega)

set_option maxRecDepth 100000 in
set_option maxHeartbeats 4000000 in
theorem c_oddPlates {μ : Mm} (l : Int) (h : NB1 μ l) : Mc mX2_oddPlates 1 [vR 11 l] μ (Rt (some (vI (flo (fun f a => if μ 13 l (f + 1) - μ 13 l f = 4 then a else a + 1) 0 (μ 11 l 1) 0))) μ) := by
  refine Mc.of (L := [some (vR 11 l), none, none]) (by decide +kernel) (by simp [leL, entA, isLong, mX2_oddPlates]) (by simp [entA, isLong, mX2_oddPlates]) ?_
  have hCc := capC_in l
  have hCp := capP_in l
  have hCe := capE_in l
  have hP := h.2.1
  refine e_iconst (dec_at dX2_oddPlates 0) ?_
  refine e_is1 (dec_at dX2_oddPlates 1) (by decide) rfl ?_
  refine e_iconst (dec_at dX2_oddPlates 2) ?_
  refine e_is2 (dec_at dX2_oddPlates 3) (by decide) rfl ?_
  exact l_oddPlates h _ _ _ rfl (by omega) (by omega)
end
section
set_option maxRecDepth 100000 in
set_option maxHeartbeats 4000000 in
theorem l_crossings {μ : Mm} {l axis v : Int} (h : NB1 μ l) (h2 : NB2 μ l) (ha : 0 ≤ axis ∧ axis < 3) (hv : inR v) : ∀ (q : Nat) (e : Int) (a : Int), (μ 11 l 2 - e).toNat = q → 0 ≤ e → e ≤ μ 11 l 2 → Ev mX2_crossings 3 5 [some (vR 11 l), some (vI axis), some (vI v), some (vI a), some (vI e), none, none] [] μ (Rt (some (vI (flo (fun e a => if (μ 12 l (3 * μ 14 l (μ 18 l e) + axis) < v ↔ μ 12 l (3 * μ 14 l (nxF (μ 13 l) (μ 15 l) (μ 18 l e)) + axis) < v) then a else a + 1) e (μ 11 l 2) a))) μ) := by
  intro q
  induction q using Nat.strongRecOn with
  | _ q ih =>
  intro e a hq h0 h1
  have hCc := capC_in l
  have hCp := capP_in l
  have hCe := capE_in l
  have hE := h2.1
  have hn := h.2.2.1
  have hC := h.1
  refine e_iload (dec_at dX2_crossings 4) rfl ?_
  refine e_aload_n 0 (dec_at dX2_crossings 5) rfl rfl ?_
  refine e_geti 2 2 (dec_at dX2_crossings 6) flX2_61 rfl rfl rfl (fun r8 => ?_)
  refine e_icmp_ge 82 (dec_at dX2_crossings 7) (by decide) (by omega) (by omega) (fun h11 => ?_) (fun h11 => ?_)
  · refine e_iload_n 3 (dec_at dX2_crossings 46) rfl rfl ?_
    refine e_ireturn (dec_at dX2_crossings 47) rfl ?_
    exact ⟨by rw [flo_stop (by omega)], rfl⟩
  · have he := h2.2 e h0 (by omega)
    have hs := h.2.2.2.2 _ he.1 he.2
    have hx := h.nx he.1 he.2
    have ht := h.2.2.2.2 _ hx.1 hx.2
    refine e_aload_n 0 (dec_at dX2_crossings 8) rfl rfl ?_
    refine e_getr 3 (dec_at dX2_crossings 9) flX2_9 rfl rfl ?_
    refine e_iconst (dec_at dX2_crossings 10) ?_
    refine e_aload_n 0 (dec_at dX2_crossings 11) rfl rfl ?_
    refine e_iload (dec_at dX2_crossings 12) rfl ?_
    refine e_callVr (M' := mX2_whence) (dec_at dX2_crossings 13) mlX2_81 (c_whence l e h h2 h0 (by omega)) oX2_whence iX2_whence rfl rfl rfl rfl (by decide) (by decide) (Nat.le_of_ble_eq_true rfl) ?_
    refine e_imul (dec_at dX2_crossings 14) ?_
    refine e_iload_n 1 (dec_at dX2_crossings 15) rfl rfl ?_
    refine e_iadd (dec_at dX2_crossings 16) ?_
    refine e_iald (dec_at dX2_crossings 17) rfl (by decide) (aLk_12 _) (by omega) (fun r28 => ?_)
    refine e_iload_n 2 (dec_at dX2_crossings 18) rfl rfl ?_
    refine e_icmp_ge 37 (dec_at dX2_crossings 19) (by decide) (by omega) (by omega) (fun h30 => ?_) (fun h30 => ?_)
    · refine e_iconst (dec_at dX2_crossings 22) ?_
      refine e_is5 (dec_at dX2_crossings 23) (by decide) rfl ?_
      refine e_aload_n 0 (dec_at dX2_crossings 24) rfl rfl ?_
      refine e_getr 3 (dec_at dX2_crossings 25) flX2_9 rfl rfl ?_
      refine e_iconst (dec_at dX2_crossings 26) ?_
      refine e_aload_n 0 (dec_at dX2_crossings 27) rfl rfl ?_
      refine e_iload (dec_at dX2_crossings 28) rfl ?_
      refine e_callVr (M' := mX2_whither) (dec_at dX2_crossings 29) mlX2_84 (c_whither l e h h2 h0 (by omega)) oX2_whither iX2_whither rfl rfl rfl rfl (by decide) (by decide) (Nat.le_of_ble_eq_true rfl) ?_
      refine e_imul (dec_at dX2_crossings 30) ?_
      refine e_iload_n 1 (dec_at dX2_crossings 31) rfl rfl ?_
      refine e_iadd (dec_at dX2_crossings 32) ?_
      refine e_iald (dec_at dX2_crossings 33) rfl (by decide) (aLk_12 _) (by omega) (fun r54 => ?_)
      refine e_iload_n 2 (dec_at dX2_crossings 34) rfl rfl ?_
      refine e_icmp_ge 63 (dec_at dX2_crossings 35) (by decide) (by omega) (by omega) (fun h56 => ?_) (fun h56 => ?_)
      · refine e_iconst (dec_at dX2_crossings 38) ?_
        refine e_is6 (dec_at dX2_crossings 39) (by decide) rfl ?_
        refine e_iload (dec_at dX2_crossings 40) rfl ?_
        refine e_iload (dec_at dX2_crossings 41) rfl ?_
        refine e_icmp_eq 76 (dec_at dX2_crossings 42) (by decide) (by decide) (by decide) (fun _ => ?_) (fun h => absurd h (by decide))
        first | rw [flo_step (by omega), if_pos (by omega)] | rw [flo_step (by omega), if_neg (by omega)]
        refine e_ii4 (dec_at dX2_crossings 44) (by decide) rfl ?_
        refine e_goto 5 (dec_at dX2_crossings 45) (by decide) ?_
        exact e_le [some (vR 11 l), some (vI axis), some (vI v), some (vI _), some (vI (e + 1)), none, none] (by simp [leL]) (ih _ (by omega) (e + 1) _ rfl (by omega) (by omega))
      · refine e_iconst (dec_at dX2_crossings 36) ?_
        refine e_goto 64 (dec_at dX2_crossings 37) (by decide) ?_
        refine e_is6 (dec_at dX2_crossings 39) (by decide) rfl ?_
        refine e_iload (dec_at dX2_crossings 40) rfl ?_
        refine e_iload (dec_at dX2_crossings 41) rfl ?_
        refine e_icmp_eq 76 (dec_at dX2_crossings 42) (by decide) (by decide) (by decide) (fun h => absurd h (by decide)) (fun _ => ?_)
        refine e_ii3 (dec_at dX2_crossings 43) (by decide) rfl ?_
        first | rw [flo_step (by omega), if_pos (by omega)] | rw [flo_step (by omega), if_neg (by omega)]
        refine e_ii4 (dec_at dX2_crossings 44) (by decide) rfl ?_
        refine e_goto 5 (dec_at dX2_crossings 45) (by decide) ?_
        exact e_le [some (vR 11 l), some (vI axis), some (vI v), some (vI _), some (vI (e + 1)), none, none] (by simp [leL]) (ih _ (by omega) (e + 1) _ rfl (by omega) (by omega))
    · refine e_iconst (dec_at dX2_crossings 20) ?_
      refine e_goto 38 (dec_at dX2_crossings 21) (by decide) ?_
      refine e_is5 (dec_at dX2_crossings 23) (by decide) rfl ?_
      refine e_aload_n 0 (dec_at dX2_crossings 24) rfl rfl ?_
      refine e_getr 3 (dec_at dX2_crossings 25) flX2_9 rfl rfl ?_
      refine e_iconst (dec_at dX2_crossings 26) ?_
      refine e_aload_n 0 (dec_at dX2_crossings 27) rfl rfl ?_
      refine e_iload (dec_at dX2_crossings 28) rfl ?_
      refine e_callVr (M' := mX2_whither) (dec_at dX2_crossings 29) mlX2_84 (c_whither l e h h2 h0 (by omega)) oX2_whither iX2_whither rfl rfl rfl rfl (by decide) (by decide) (Nat.le_of_ble_eq_true rfl) ?_
      refine e_imul (dec_at dX2_crossings 30) ?_
      refine e_iload_n 1 (dec_at dX2_crossings 31) rfl rfl ?_
      refine e_iadd (dec_at dX2_crossings 32) ?_
      refine e_iald (dec_at dX2_crossings 33) rfl (by decide) (aLk_12 _) (by omega) (fun r54 => ?_)
      refine e_iload_n 2 (dec_at dX2_crossings 34) rfl rfl ?_
      refine e_icmp_ge 63 (dec_at dX2_crossings 35) (by decide) (by omega) (by omega) (fun h56 => ?_) (fun h56 => ?_)
      · refine e_iconst (dec_at dX2_crossings 38) ?_
        refine e_is6 (dec_at dX2_crossings 39) (by decide) rfl ?_
        refine e_iload (dec_at dX2_crossings 40) rfl ?_
        refine e_iload (dec_at dX2_crossings 41) rfl ?_
        refine e_icmp_eq 76 (dec_at dX2_crossings 42) (by decide) (by decide) (by decide) (fun h => absurd h (by decide)) (fun _ => ?_)
        refine e_ii3 (dec_at dX2_crossings 43) (by decide) rfl ?_
        first | rw [flo_step (by omega), if_pos (by omega)] | rw [flo_step (by omega), if_neg (by omega)]
        refine e_ii4 (dec_at dX2_crossings 44) (by decide) rfl ?_
        refine e_goto 5 (dec_at dX2_crossings 45) (by decide) ?_
        exact e_le [some (vR 11 l), some (vI axis), some (vI v), some (vI _), some (vI (e + 1)), none, none] (by simp [leL]) (ih _ (by omega) (e + 1) _ rfl (by omega) (by omega))
      · refine e_iconst (dec_at dX2_crossings 36) ?_
        refine e_goto 64 (dec_at dX2_crossings 37) (by decide) ?_
        refine e_is6 (dec_at dX2_crossings 39) (by decide) rfl ?_
        refine e_iload (dec_at dX2_crossings 40) rfl ?_
        refine e_iload (dec_at dX2_crossings 41) rfl ?_
        refine e_icmp_eq 76 (dec_at dX2_crossings 42) (by decide) (by decide) (by decide) (fun _ => ?_) (fun h => absurd h (by decide))
        first | rw [flo_step (by omega), if_pos (by omega)] | rw [flo_step (by omega), if_neg (by omega)]
        refine e_ii4 (dec_at dX2_crossings 44) (by decide) rfl ?_
        refine e_goto 5 (dec_at dX2_crossings 45) (by decide) ?_
        exact e_le [some (vR 11 l), some (vI axis), some (vI v), some (vI _), some (vI (e + 1)), none, none] (by simp [leL]) (ih _ (by omega) (e + 1) _ rfl (by omega) (by omega))

set_option maxRecDepth 100000 in
set_option maxHeartbeats 4000000 in
theorem c_crossings {μ : Mm} (l : Int) (axis v : Int) (h : NB1 μ l) (h2 : NB2 μ l) (ha : 0 ≤ axis ∧ axis < 3) (hv : inR v) : Mc mX2_crossings 3 [vR 11 l, vI axis, vI v] μ (Rt (some (vI (flo (fun e a => if (μ 12 l (3 * μ 14 l (μ 18 l e) + axis) < v ↔ μ 12 l (3 * μ 14 l (nxF (μ 13 l) (μ 15 l) (μ 18 l e)) + axis) < v) then a else a + 1) 0 (μ 11 l 2) 0))) μ) := by
  refine Mc.of (L := [some (vR 11 l), some (vI axis), some (vI v), none, none, none, none]) (by decide +kernel) (by simp [leL, entA, isLong, mX2_crossings]) (by simp [entA, isLong, mX2_crossings]) ?_
  have hCc := capC_in l
  have hCp := capP_in l
  have hCe := capE_in l
  have hE := h2.1
  refine e_iconst (dec_at dX2_crossings 0) ?_
  refine e_is3 (dec_at dX2_crossings 1) (by decide) rfl ?_
  refine e_iconst (dec_at dX2_crossings 2) ?_
  refine e_is4 (dec_at dX2_crossings 3) (by decide) rfl ?_
  exact l_crossings h h2 ha hv _ _ _ rfl (by omega) (by omega)

/-- the numbers of a net's corners are small -/
def NS (μ : Mm) (l : Int) : Prop := ∀ i, 0 ≤ i → i < 3 * μ 11 l 0 → -100000000 ≤ μ 12 l i ∧ μ 12 l i ≤ 100000000
def sqF (f : Int → Int) (x y z c : Int) : Int := (f (3 * c) - x) * (f (3 * c) - x) + (f (3 * c + 1) - y) * (f (3 * c + 1) - y) + (f (3 * c + 2) - z) * (f (3 * c + 2) - z)
theorem sq_in {d : Int} (h : -200000000 ≤ d ∧ d ≤ 200000000) : 0 ≤ d * d ∧ d * d ≤ 40000000000000000 := by
  have h1 : 0 ≤ d * d := by
    rcases Int.le_total 0 d with q | q
    · exact Int.mul_nonneg q q
    · have := Int.mul_nonneg (show 0 ≤ -d by omega) (show 0 ≤ -d by omega)
      rwa [Int.neg_mul_neg] at this
  have h2 : 0 ≤ (200000000 - d) * (200000000 + d) := Int.mul_nonneg (by omega) (by omega)
  have h3 : (200000000 - d) * (200000000 + d) = 40000000000000000 - d * d := by
    rw [Int.sub_mul, Int.mul_add, Int.mul_add]
    have : d * 200000000 = 200000000 * d := Int.mul_comm _ _
    omega
  omega
theorem sqF_in {μ : Mm} {l x y z c : Int} (h : NS μ l) (hx : (-100000 ≤ x ∧ x ≤ 100000) ∧ (-100000 ≤ y ∧ y ≤ 100000) ∧ (-100000 ≤ z ∧ z ≤ 100000)) (h0 : 0 ≤ c) (h1 : c < μ 11 l 0) : inL (sqF (μ 12 l) x y z c) := by
  have a0 := h (3 * c) (by omega) (by omega)
  have a1 := h (3 * c + 1) (by omega) (by omega)
  have a2 := h (3 * c + 2) (by omega) (by omega)
  have b0 := sq_in (d := μ 12 l (3 * c) - x) (by omega)
  have b1 := sq_in (d := μ 12 l (3 * c + 1) - y) (by omega)
  have b2 := sq_in (d := μ 12 l (3 * c + 2) - z) (by omega)
  unfold sqF
  omega

set_option maxRecDepth 100000 in
set_option maxHeartbeats 4000000 in
theorem c_squareTo {μ : Mm} (l : Int) (c x y z : Int) (hC : 0 ≤ μ 11 l 0 ∧ μ 11 l 0 ≤ capC l) (h : NS μ l) (hx : (-100000 ≤ x ∧ x ≤ 100000) ∧ (-100000 ≤ y ∧ y ≤ 100000) ∧ (-100000 ≤ z ∧ z ≤ 100000)) (h0 : 0 ≤ c) (h1 : c < μ 11 l 0) : Mc mX2_squareTo 0 [vR 11 l, vI c, vI x, vI y, vI z] μ (Rt (some (vL (sqF (μ 12 l) x y z c))) μ) := by
  refine Mc.of (L := [some (vR 11 l), some (vI c), some (vI x), some (vI y), some (vI z), none, none, none, none, none, none]) (by decide +kernel) (by simp [leL, entA, isLong, mX2_squareTo]) (by simp [entA, isLong, mX2_squareTo]) ?_
  have hCc := capC_in l
  have hCp := capP_in l
  have hCe := capE_in l
  have a0 := h (3 * c) (by omega) (by omega)
  have a1 := h (3 * c + 1) (by omega) (by omega)
  have a2 := h (3 * c + 2) (by omega) (by omega)
  refine e_aload_n 0 (dec_at dX2_squareTo 0) rfl rfl ?_
  refine e_getr 3 (dec_at dX2_squareTo 1) flX2_9 rfl rfl ?_
  refine e_iconst (dec_at dX2_squareTo 2) ?_
  refine e_iload_n 1 (dec_at dX2_squareTo 3) rfl rfl ?_
  refine e_imul (dec_at dX2_squareTo 4) ?_
  refine e_iald (dec_at dX2_squareTo 5) rfl (by decide) (aLk_12 _) (by omega) (fun r7 => ?_)
  refine e_iload_n 2 (dec_at dX2_squareTo 6) rfl rfl ?_
  refine e_isub (dec_at dX2_squareTo 7) ?_
  refine e_i2l (dec_at dX2_squareTo 8) (by omega) ?_
  refine e_ls5 (dec_at dX2_squareTo 9) (by decide) rfl ?_
  refine e_aload_n 0 (dec_at dX2_squareTo 10) rfl rfl ?_
  refine e_getr 3 (dec_at dX2_squareTo 11) flX2_9 rfl rfl ?_
  refine e_iconst (dec_at dX2_squareTo 12) ?_
  refine e_iload_n 1 (dec_at dX2_squareTo 13) rfl rfl ?_
  refine e_imul (dec_at dX2_squareTo 14) ?_
  refine e_iconst (dec_at dX2_squareTo 15) ?_
  refine e_iadd (dec_at dX2_squareTo 16) ?_
  refine e_iald (dec_at dX2_squareTo 17) rfl (by decide) (aLk_12 _) (by omega) (fun r22 => ?_)
  refine e_iload_n 3 (dec_at dX2_squareTo 18) rfl rfl ?_
  refine e_isub (dec_at dX2_squareTo 19) ?_
  refine e_i2l (dec_at dX2_squareTo 20) (by omega) ?_
  refine e_ls7 (dec_at dX2_squareTo 21) (by decide) rfl ?_
  refine e_aload_n 0 (dec_at dX2_squareTo 22) rfl rfl ?_
  refine e_getr 3 (dec_at dX2_squareTo 23) flX2_9 rfl rfl ?_
  refine e_iconst (dec_at dX2_squareTo 24) ?_
  refine e_iload_n 1 (dec_at dX2_squareTo 25) rfl rfl ?_
  refine e_imul (dec_at dX2_squareTo 26) ?_
  refine e_iconst (dec_at dX2_squareTo 27) ?_
  refine e_iadd (dec_at dX2_squareTo 28) ?_
  refine e_iald (dec_at dX2_squareTo 29) rfl (by decide) (aLk_12 _) (by omega) (fun r37 => ?_)
  refine e_iload (dec_at dX2_squareTo 30) rfl ?_
  refine e_isub (dec_at dX2_squareTo 31) ?_
  refine e_i2l (dec_at dX2_squareTo 32) (by omega) ?_
  refine e_ls9 (dec_at dX2_squareTo 33) (by decide) rfl ?_
  refine e_lload (dec_at dX2_squareTo 34) rfl ?_
  refine e_lload (dec_at dX2_squareTo 35) rfl ?_
  refine e_lmul (dec_at dX2_squareTo 36) ?_
  refine e_lload (dec_at dX2_squareTo 37) rfl ?_
  refine e_lload (dec_at dX2_squareTo 38) rfl ?_
  refine e_lmul (dec_at dX2_squareTo 39) ?_
  refine e_ladd (dec_at dX2_squareTo 40) ?_
  refine e_lload (dec_at dX2_squareTo 41) rfl ?_
  refine e_lload (dec_at dX2_squareTo 42) rfl ?_
  refine e_lmul (dec_at dX2_squareTo 43) ?_
  refine e_ladd (dec_at dX2_squareTo 44) ?_
  refine e_lreturn (dec_at dX2_squareTo 45) rfl ?_
  exact ⟨rfl, rfl⟩

set_option maxRecDepth 100000 in
set_option maxHeartbeats 4000000 in
theorem l_nearest {μ : Mm} {l x y z : Int} (hC : 0 ≤ μ 11 l 0 ∧ μ 11 l 0 ≤ capC l) (h : NS μ l) (hx : (-100000 ≤ x ∧ x ≤ 100000) ∧ (-100000 ≤ y ∧ y ≤ 100000) ∧ (-100000 ≤ z ∧ z ≤ 100000)) : ∀ (q : Nat) (c : Int) (a : Int × Int), (μ 11 l 0 - c).toNat = q → 0 ≤ c → c ≤ capC l → inL a.2 → Ev mX2_nearest 1 16 [some (vR 11 l), some (vI x), some (vI y), some (vI z), some (vI a.1), some (vL a.2), none, some (vI c), none, none] [] μ (Rt (some (vI (flo (fun c a => if sqF (μ 12 l) x y z c < a.2 then (c, sqF (μ 12 l) x y z c) else a) c (μ 11 l 0) a).1)) μ) := by
  intro q
  induction q using Nat.strongRecOn with
  | _ q ih =>
  intro c a hq h0 h1 hr
  have hCc := capC_in l
  have hCp := capP_in l
  have hCe := capE_in l
  refine e_iload (dec_at dX2_nearest 11) rfl ?_
  refine e_aload_n 0 (dec_at dX2_nearest 12) rfl rfl ?_
  refine e_geti 0 0 (dec_at dX2_nearest 13) flX2_39 rfl rfl rfl (fun r19 => ?_)
  refine e_icmp_ge 58 (dec_at dX2_nearest 14) (by decide) (by omega) (by omega) (fun h22 => ?_) (fun h22 => ?_)
  · refine e_iload (dec_at dX2_nearest 32) rfl ?_
    refine e_ireturn (dec_at dX2_nearest 33) rfl ?_
    exact ⟨by rw [flo_stop (by omega)], rfl⟩
  · refine e_aload_n 0 (dec_at dX2_nearest 15) rfl rfl ?_
    refine e_iload (dec_at dX2_nearest 16) rfl ?_
    refine e_iload_n 1 (dec_at dX2_nearest 17) rfl rfl ?_
    refine e_iload_n 2 (dec_at dX2_nearest 18) rfl rfl ?_
    refine e_iload_n 3 (dec_at dX2_nearest 19) rfl rfl ?_
    refine e_callVr (M' := mX2_squareTo) (dec_at dX2_nearest 20) mlX2_107 (c_squareTo l c x y z hC h hx h0 (by omega)) oX2_squareTo iX2_squareTo rfl rfl rfl rfl (by decide) (by decide) (Nat.le_of_ble_eq_true rfl) ?_
    refine e_ls8 (dec_at dX2_nearest 21) (by decide) rfl ?_
    refine e_lload (dec_at dX2_nearest 22) rfl ?_
    refine e_lload (dec_at dX2_nearest 23) rfl ?_
    refine e_lcmp (dec_at dX2_nearest 24) (by exact sqF_in h hx h0 (by omega)) (by exact hr) ?_
    refine e_cge 52 (dec_at dX2_nearest 25) (by decide) (fun h41 => ?_) (fun h41 => ?_)
    · rw [flo_step (by omega), if_neg (by omega)]
      refine e_ii7 (dec_at dX2_nearest 30) (by decide) rfl ?_
      refine e_goto 16 (dec_at dX2_nearest 31) (by decide) ?_
      first | exact e_le [some (vR 11 l), some (vI x), some (vI y), some (vI z), some (vI a.1), some (vL a.2), none, some (vI (c + 1)), none, none] (by simp [leL]) (ih _ (by omega) (c + 1) a rfl (by omega) (by omega) hr) | exact e_le [some (vR 11 l), some (vI x), some (vI y), some (vI z), some (vI c), some (vL (sqF (μ 12 l) x y z c)), none, some (vI (c + 1)), none, none] (by simp [leL]) (ih _ (by omega) (c + 1) (c, sqF (μ 12 l) x y z c) rfl (by omega) (by omega) hs)
    · rw [flo_step (by omega), if_pos (by omega)]
      have hs := sqF_in h hx h0 (show c < μ 11 l 0 by omega)
      refine e_lload (dec_at dX2_nearest 26) rfl ?_
      refine e_ls5 (dec_at dX2_nearest 27) (by decide) rfl ?_
      refine e_iload (dec_at dX2_nearest 28) rfl ?_
      refine e_is4 (dec_at dX2_nearest 29) (by decide) rfl ?_
      refine e_ii7 (dec_at dX2_nearest 30) (by decide) rfl ?_
      refine e_goto 16 (dec_at dX2_nearest 31) (by decide) ?_
      first | exact e_le [some (vR 11 l), some (vI x), some (vI y), some (vI z), some (vI a.1), some (vL a.2), none, some (vI (c + 1)), none, none] (by simp [leL]) (ih _ (by omega) (c + 1) a rfl (by omega) (by omega) hr) | exact e_le [some (vR 11 l), some (vI x), some (vI y), some (vI z), some (vI c), some (vL (sqF (μ 12 l) x y z c)), none, some (vI (c + 1)), none, none] (by simp [leL]) (ih _ (by omega) (c + 1) (c, sqF (μ 12 l) x y z c) rfl (by omega) (by omega) hs)

set_option maxRecDepth 100000 in
set_option maxHeartbeats 4000000 in
theorem c_nearest {μ : Mm} (l : Int) (x y z : Int) (hC : 1 ≤ μ 11 l 0 ∧ μ 11 l 0 ≤ capC l) (h : NS μ l) (hx : (-100000 ≤ x ∧ x ≤ 100000) ∧ (-100000 ≤ y ∧ y ≤ 100000) ∧ (-100000 ≤ z ∧ z ≤ 100000)) : Mc mX2_nearest 1 [vR 11 l, vI x, vI y, vI z] μ (Rt (some (vI (flo (fun c a => if sqF (μ 12 l) x y z c < a.2 then (c, sqF (μ 12 l) x y z c) else a) 1 (μ 11 l 0) (0, sqF (μ 12 l) x y z 0)).1)) μ) := by
  refine Mc.of (L := [some (vR 11 l), some (vI x), some (vI y), some (vI z), none, none, none, none, none, none]) (by decide +kernel) (by simp [leL, entA, isLong, mX2_nearest]) (by simp [entA, isLong, mX2_nearest]) ?_
  have hCc := capC_in l
  have hCp := capP_in l
  have hCe := capE_in l
  refine e_iconst (dec_at dX2_nearest 0) ?_
  refine e_is4 (dec_at dX2_nearest 1) (by decide) rfl ?_
  refine e_aload_n 0 (dec_at dX2_nearest 2) rfl rfl ?_
  refine e_iconst (dec_at dX2_nearest 3) ?_
  refine e_iload_n 1 (dec_at dX2_nearest 4) rfl rfl ?_
  refine e_iload_n 2 (dec_at dX2_nearest 5) rfl rfl ?_
  refine e_iload_n 3 (dec_at dX2_nearest 6) rfl rfl ?_
  refine e_callVr (M' := mX2_squareTo) (dec_at dX2_nearest 7) mlX2_107 (c_squareTo l 0 x y z (by omega) h hx (by omega) (by omega)) oX2_squareTo iX2_squareTo rfl rfl rfl rfl (by decide) (by decide) (Nat.le_of_ble_eq_true rfl) ?_
  refine e_ls5 (dec_at dX2_nearest 8) (by decide) rfl ?_
  refine e_iconst (dec_at dX2_nearest 9) ?_
  refine e_is7 (dec_at dX2_nearest 10) (by decide) rfl ?_
  exact l_nearest (by omega) h hx _ 1 (0, sqF (μ 12 l) x y z 0) rfl (by omega) (by omega) (sqF_in h hx (by omega) (by omega))

set_option maxRecDepth 100000 in
set_option maxHeartbeats 4000000 in
theorem l_mixNumbers {μ : Mm} {l : Int} (hC : 0 ≤ μ 11 l 0 ∧ μ 11 l 0 ≤ capC l) : ∀ (q : Nat) (i : Int) (a : Int), (3 * μ 11 l 0 - i).toNat = q → 0 ≤ i → i ≤ 3 * μ 11 l 0 → Ev mX2_mixNumbers 1 2 [some (vR 11 l), some (vL a), none, some (vI i)] [] μ (Rt (some (vL (flo (fun i a => 31 * a + μ 12 l i) i (3 * μ 11 l 0) a))) μ) := by
  intro q
  induction q using Nat.strongRecOn with
  | _ q ih =>
  intro i a hq h0 h1
  have hCc := capC_in l
  have hCp := capP_in l
  have hCe := capE_in l
  refine e_iload_n 3 (dec_at dX2_mixNumbers 2) rfl rfl ?_
  refine e_iconst (dec_at dX2_mixNumbers 3) ?_
  refine e_aload_n 0 (dec_at dX2_mixNumbers 4) rfl rfl ?_
  refine e_geti 0 0 (dec_at dX2_mixNumbers 5) flX2_39 rfl rfl rfl (fun r5 => ?_)
  refine e_imul (dec_at dX2_mixNumbers 6) ?_
  refine e_icmp_ge 29 (dec_at dX2_mixNumbers 7) (by decide) (by omega) (by omega) (fun h9 => ?_) (fun h9 => ?_)
  · refine e_lload_n 1 (dec_at dX2_mixNumbers 17) rfl rfl ?_
    refine e_lreturn (dec_at dX2_mixNumbers 18) rfl ?_
    exact ⟨by rw [flo_stop (by omega)], rfl⟩
  · refine e_lload_n 1 (dec_at dX2_mixNumbers 8) rfl rfl ?_
    refine e_aload_n 0 (dec_at dX2_mixNumbers 9) rfl rfl ?_
    refine e_getr 3 (dec_at dX2_mixNumbers 10) flX2_9 rfl rfl ?_
    refine e_iload_n 3 (dec_at dX2_mixNumbers 11) rfl rfl ?_
    refine e_iald (dec_at dX2_mixNumbers 12) rfl (by decide) (aLk_12 _) (by omega) (fun r18 => ?_)
    refine e_callNr (M' := mX5_mix) (dec_at dX2_mixNumbers 13) (fun s h => h.1) (c_mix a (μ 12 l i) r18) oX5_mix sX5_mix rfl rfl (by decide) (by decide) (Nat.le_of_ble_eq_true rfl) ?_
    refine e_ls1 (dec_at dX2_mixNumbers 14) (by decide) rfl ?_
    refine e_ii3 (dec_at dX2_mixNumbers 15) (by decide) rfl ?_
    refine e_goto 2 (dec_at dX2_mixNumbers 16) (by decide) ?_
    rw [flo_step (by omega)]
    exact ih _ (by omega) (i + 1) _ rfl (by omega) (by omega)

set_option maxRecDepth 100000 in
set_option maxHeartbeats 4000000 in
theorem c_mixNumbers {μ : Mm} (l : Int) (a : Int) (hC : 0 ≤ μ 11 l 0 ∧ μ 11 l 0 ≤ capC l) : Mc mX2_mixNumbers 1 [vR 11 l, vL a] μ (Rt (some (vL (flo (fun i a => 31 * a + μ 12 l i) 0 (3 * μ 11 l 0) a))) μ) := by
  refine Mc.of (L := [some (vR 11 l), some (vL a), none, none]) (by decide +kernel) (by simp [leL, entA, isLong, mX2_mixNumbers]) (by simp [entA, isLong, mX2_mixNumbers]) ?_
  have hCc := capC_in l
  have hCp := capP_in l
  have hCe := capE_in l
  refine e_iconst (dec_at dX2_mixNumbers 0) ?_
  refine e_is3 (dec_at dX2_mixNumbers 1) (by decide) rfl ?_
  exact l_mixNumbers hC _ _ _ rfl (by omega) (by omega)

set_option maxRecDepth 100000 in
set_option maxHeartbeats 4000000 in
theorem l_mixPlates1 {μ : Mm} {l f : Int} {Q : Option Vv → Mm → Prop} (h : NB1 μ l) (hf0 : 0 ≤ f) (hf1 : f < μ 11 l 1) : ∀ (q : Nat) (s : Int) (a : Int), (μ 13 l (f + 1) - s).toNat = q → 0 ≤ s → s ≤ μ 13 l (f + 1) → Ev mX2_mixPlates 1 59 [some (vR 11 l), some (vL (flo (fun s a => 31 * a + μ 14 l s) s (μ 13 l (f + 1)) a)), none, some (vI f), none] [] μ Q → Ev mX2_mixPlates 1 28 [some (vR 11 l), some (vL a), none, some (vI f), some (vI s)] [] μ (Q) := by
  intro q
  induction q using Nat.strongRecOn with
  | _ q ih =>
  intro s a hq h0 h1 K
  have hCc := capC_in l
  have hCp := capP_in l
  have hCe := capE_in l
  have hf := h.2.2.2.1 f hf0 hf1
  have hn := h.2.2.1
  have hP := h.2.1
  refine e_iload (dec_at dX2_mixPlates 17) rfl ?_
  refine e_aload_n 0 (dec_at dX2_mixPlates 18) rfl rfl ?_
  refine e_getr 4 (dec_at dX2_mixPlates 19) flX2_15 rfl rfl ?_
  refine e_iload_n 3 (dec_at dX2_mixPlates 20) rfl rfl ?_
  refine e_iconst (dec_at dX2_mixPlates 21) ?_
  refine e_iadd (dec_at dX2_mixPlates 22) ?_
  refine e_iald (dec_at dX2_mixPlates 23) rfl (by decide) (aLk_13 _) (by omega) (fun r37 => ?_)
  refine e_icmp_ge 59 (dec_at dX2_mixPlates 24) (by decide) (by omega) (by omega) (fun h38 => ?_) (fun h38 => ?_)
  · rw [flo_stop (by omega)] at K
    exact e_le [some (vR 11 l), some (vL a), none, some (vI f), none] (by simp [leL]) K
  · refine e_lload_n 1 (dec_at dX2_mixPlates 25) rfl rfl ?_
    refine e_aload_n 0 (dec_at dX2_mixPlates 26) rfl rfl ?_
    refine e_getr 5 (dec_at dX2_mixPlates 27) flX2_18 rfl rfl ?_
    refine e_iload (dec_at dX2_mixPlates 28) rfl ?_
    refine e_iald (dec_at dX2_mixPlates 29) rfl (by decide) (aLk_14 _) (by omega) (fun r48 => ?_)
    refine e_callNr (M' := mX5_mix) (dec_at dX2_mixPlates 30) (fun s h => h.1) (c_mix a (μ 14 l s) r48) oX5_mix sX5_mix rfl rfl (by decide) (by decide) (Nat.le_of_ble_eq_true rfl) ?_
    refine e_ls1 (dec_at dX2_mixPlates 31) (by decide) rfl ?_
    refine e_ii4 (dec_at dX2_mixPlates 32) (by decide) rfl ?_
    refine e_goto 28 (dec_at dX2_mixPlates 33) (by decide) ?_
    rw [flo_step (by omega)] at K
    exact ih _ (by omega) (s + 1) _ rfl (by omega) (by omega) K

set_option maxRecDepth 100000 in
set_option maxHeartbeats 4000000 in
theorem l_mixPlates {μ : Mm} {l : Int} (h : NB1 μ l) : ∀ (q : Nat) (f : Int) (a : Int), (μ 11 l 1 - f).toNat = q → 0 ≤ f → f ≤ μ 11 l 1 → Ev mX2_mixPlates 1 2 [some (vR 11 l), some (vL a), none, some (vI f), none] [] μ (Rt (some (vL (flo (fun f a => flo (fun s a => 31 * a + μ 14 l s) (μ 13 l f) (μ 13 l (f + 1)) (31 * a + (μ 13 l (f + 1) - μ 13 l f))) f (μ 11 l 1) a))) μ) := by
  intro q
  induction q using Nat.strongRecOn with
  | _ q ih =>
  intro f a hq h0 h1
  have hCc := capC_in l
  have hCp := capP_in l
  have hCe := capE_in l
  have hn := h.2.2.1
  have hP := h.2.1
  refine e_iload_n 3 (dec_at dX2_mixPlates 2) rfl rfl ?_
  refine e_aload_n 0 (dec_at dX2_mixPlates 3) rfl rfl ?_
  refine e_geti 1 1 (dec_at dX2_mixPlates 4) flX2_43 rfl rfl rfl (fun r4 => ?_)
  refine e_icmp_ge 65 (dec_at dX2_mixPlates 5) (by decide) (by omega) (by omega) (fun h7 => ?_) (fun h7 => ?_)
  · refine e_lload_n 1 (dec_at dX2_mixPlates 36) rfl rfl ?_
    refine e_lreturn (dec_at dX2_mixPlates 37) rfl ?_
    exact ⟨by rw [flo_stop (by omega)], rfl⟩
  · have hf := h.2.2.2.1 f h0 (by omega)
    refine e_lload_n 1 (dec_at dX2_mixPlates 6) rfl rfl ?_
    refine e_aload_n 0 (dec_at dX2_mixPlates 7) rfl rfl ?_
    refine e_iload_n 3 (dec_at dX2_mixPlates 8) rfl rfl ?_
    refine e_callVr (M' := mX2_sizeOf) (dec_at dX2_mixPlates 9) mlX2_87 (c_sizeOf l f (by omega)) oX2_sizeOf iX2_sizeOf rfl rfl rfl rfl (by decide) (by decide) (Nat.le_of_ble_eq_true rfl) ?_
    refine e_callNr (M' := mX5_mix) (dec_at dX2_mixPlates 10) (fun s h => h.1) (c_mix a _ (by omega)) oX5_mix sX5_mix rfl rfl (by decide) (by decide) (Nat.le_of_ble_eq_true rfl) ?_
    refine e_ls1 (dec_at dX2_mixPlates 11) (by decide) rfl ?_
    refine e_aload_n 0 (dec_at dX2_mixPlates 12) rfl rfl ?_
    refine e_getr 4 (dec_at dX2_mixPlates 13) flX2_15 rfl rfl ?_
    refine e_iload_n 3 (dec_at dX2_mixPlates 14) rfl rfl ?_
    refine e_iald (dec_at dX2_mixPlates 15) rfl (by decide) (aLk_13 _) (by omega) (fun r25 => ?_)
    refine e_is4 (dec_at dX2_mixPlates 16) (by decide) rfl ?_
    refine l_mixPlates1 h h0 (by omega) _ _ _ rfl (by omega) (by omega) ?_
    refine e_ii3 (dec_at dX2_mixPlates 34) (by decide) rfl ?_
    refine e_goto 2 (dec_at dX2_mixPlates 35) (by decide) ?_
    rw [flo_step (i := f) (e := μ 11 l 1) (by omega)]
    exact ih _ (by omega) (f + 1) _ rfl (by omega) (by omega)

set_option maxRecDepth 100000 in
set_option maxHeartbeats 4000000 in
theorem c_mixPlates {μ : Mm} (l : Int) (a : Int) (h : NB1 μ l) : Mc mX2_mixPlates 1 [vR 11 l, vL a] μ (Rt (some (vL (flo (fun f a => flo (fun s a => 31 * a + μ 14 l s) (μ 13 l f) (μ 13 l (f + 1)) (31 * a + (μ 13 l (f + 1) - μ 13 l f))) 0 (μ 11 l 1) a))) μ) := by
  refine Mc.of (L := [some (vR 11 l), some (vL a), none, none, none]) (by decide +kernel) (by simp [leL, entA, isLong, mX2_mixPlates]) (by simp [entA, isLong, mX2_mixPlates]) ?_
  have hCc := capC_in l
  have hCp := capP_in l
  have hCe := capE_in l
  have hP := h.2.1
  refine e_iconst (dec_at dX2_mixPlates 0) ?_
  refine e_is3 (dec_at dX2_mixPlates 1) (by decide) rfl ?_
  exact l_mixPlates h _ _ _ rfl (by omega) (by omega)

def wdF (f : Int → Int) (p q r : Int) : Int := f p * (f (q + 1) * f (r + 2) - f (q + 2) * f (r + 1)) + f (p + 1) * (f (q + 2) * f r - f q * f (r + 2)) + f (p + 2) * (f q * f (r + 1) - f (q + 1) * f r)

set_option maxRecDepth 100000 in
set_option maxHeartbeats 4000000 in
theorem c_crossed {μ : Mm} (l : Int) (a b c e : Int) (ha : 0 ≤ a ∧ a < 3 * capC l) (hb : 0 ≤ b ∧ b < 3 * capC l) (hc : 0 ≤ c ∧ c < 3 * capC l) (he : 0 ≤ e ∧ e < 3 * capC l) : Mc mX2_crossed 0 [vR 11 l, vI a, vI b, vI c, vI e] μ (Rt (some (vL (μ 12 l a * μ 12 l b - μ 12 l c * μ 12 l e))) μ) := by
  refine Mc.of (L := [some (vR 11 l), some (vI a), some (vI b), some (vI c), some (vI e)]) (by decide +kernel) (by simp [leL, entA, isLong, mX2_crossed]) (by simp [entA, isLong, mX2_crossed]) ?_
  have hCc := capC_in l
  have hCp := capP_in l
  have hCe := capE_in l
  refine e_aload_n 0 (dec_at dX2_crossed 0) rfl rfl ?_
  refine e_getr 3 (dec_at dX2_crossed 1) flX2_9 rfl rfl ?_
  refine e_iload_n 1 (dec_at dX2_crossed 2) rfl rfl ?_
  refine e_iald (dec_at dX2_crossed 3) rfl (by decide) (aLk_12 _) (by omega) (fun r5 => ?_)
  refine e_i2l (dec_at dX2_crossed 4) (by omega) ?_
  refine e_aload_n 0 (dec_at dX2_crossed 5) rfl rfl ?_
  refine e_getr 3 (dec_at dX2_crossed 6) flX2_9 rfl rfl ?_
  refine e_iload_n 2 (dec_at dX2_crossed 7) rfl rfl ?_
  refine e_iald (dec_at dX2_crossed 8) rfl (by decide) (aLk_12 _) (by omega) (fun r12 => ?_)
  refine e_i2l (dec_at dX2_crossed 9) (by omega) ?_
  refine e_lmul (dec_at dX2_crossed 10) ?_
  refine e_aload_n 0 (dec_at dX2_crossed 11) rfl rfl ?_
  refine e_getr 3 (dec_at dX2_crossed 12) flX2_9 rfl rfl ?_
  refine e_iload_n 3 (dec_at dX2_crossed 13) rfl rfl ?_
  refine e_iald (dec_at dX2_crossed 14) rfl (by decide) (aLk_12 _) (by omega) (fun r20 => ?_)
  refine e_i2l (dec_at dX2_crossed 15) (by omega) ?_
  refine e_aload_n 0 (dec_at dX2_crossed 16) rfl rfl ?_
  refine e_getr 3 (dec_at dX2_crossed 17) flX2_9 rfl rfl ?_
  refine e_iload (dec_at dX2_crossed 18) rfl ?_
  refine e_iald (dec_at dX2_crossed 19) rfl (by decide) (aLk_12 _) (by omega) (fun r28 => ?_)
  refine e_i2l (dec_at dX2_crossed 20) (by omega) ?_
  refine e_lmul (dec_at dX2_crossed 21) ?_
  refine e_lsub (dec_at dX2_crossed 22) ?_
  refine e_lreturn (dec_at dX2_crossed 23) rfl ?_
  exact ⟨rfl, rfl⟩

set_option maxRecDepth 100000 in
set_option maxHeartbeats 4000000 in
theorem c_sixfoldWedge {μ : Mm} (l : Int) (p q r : Int) (hp : 0 ≤ p ∧ p + 2 < 3 * capC l) (hq : 0 ≤ q ∧ q + 2 < 3 * capC l) (hr : 0 ≤ r ∧ r + 2 < 3 * capC l) : Mc mX2_sixfoldWedge 1 [vR 11 l, vI p, vI q, vI r] μ (Rt (some (vL (wdF (μ 12 l) p q r))) μ) := by
  refine Mc.of (L := [some (vR 11 l), some (vI p), some (vI q), some (vI r)]) (by decide +kernel) (by simp [leL, entA, isLong, mX2_sixfoldWedge]) (by simp [entA, isLong, mX2_sixfoldWedge]) ?_
  have hCc := capC_in l
  have hCp := capP_in l
  have hCe := capE_in l
  refine e_aload_n 0 (dec_at dX2_sixfoldWedge 0) rfl rfl ?_
  refine e_getr 3 (dec_at dX2_sixfoldWedge 1) flX2_9 rfl rfl ?_
  refine e_iload_n 1 (dec_at dX2_sixfoldWedge 2) rfl rfl ?_
  refine e_iald (dec_at dX2_sixfoldWedge 3) rfl (by decide) (aLk_12 _) (by omega) (fun r5 => ?_)
  refine e_i2l (dec_at dX2_sixfoldWedge 4) (by omega) ?_
  refine e_aload_n 0 (dec_at dX2_sixfoldWedge 5) rfl rfl ?_
  refine e_iload_n 2 (dec_at dX2_sixfoldWedge 6) rfl rfl ?_
  refine e_iconst (dec_at dX2_sixfoldWedge 7) ?_
  refine e_iadd (dec_at dX2_sixfoldWedge 8) ?_
  refine e_iload_n 3 (dec_at dX2_sixfoldWedge 9) rfl rfl ?_
  refine e_iconst (dec_at dX2_sixfoldWedge 10) ?_
  refine e_iadd (dec_at dX2_sixfoldWedge 11) ?_
  refine e_iload_n 2 (dec_at dX2_sixfoldWedge 12) rfl rfl ?_
  refine e_iconst (dec_at dX2_sixfoldWedge 13) ?_
  refine e_iadd (dec_at dX2_sixfoldWedge 14) ?_
  refine e_iload_n 3 (dec_at dX2_sixfoldWedge 15) rfl rfl ?_
  refine e_iconst (dec_at dX2_sixfoldWedge 16) ?_
  refine e_iadd (dec_at dX2_sixfoldWedge 17) ?_
  refine e_callVr (M' := mX2_crossed) (dec_at dX2_sixfoldWedge 18) mlX2_103 (c_crossed l (q + 1) (r + 2) (q + 2) (r + 1) (by omega) (by omega) (by omega) (by omega)) oX2_crossed iX2_crossed rfl rfl rfl rfl (by decide) (by decide) (Nat.le_of_ble_eq_true rfl) ?_
  refine e_lmul (dec_at dX2_sixfoldWedge 19) ?_
  refine e_aload_n 0 (dec_at dX2_sixfoldWedge 20) rfl rfl ?_
  refine e_getr 3 (dec_at dX2_sixfoldWedge 21) flX2_9 rfl rfl ?_
  refine e_iload_n 1 (dec_at dX2_sixfoldWedge 22) rfl rfl ?_
  refine e_iconst (dec_at dX2_sixfoldWedge 23) ?_
  refine e_iadd (dec_at dX2_sixfoldWedge 24) ?_
  refine e_iald (dec_at dX2_sixfoldWedge 25) rfl (by decide) (aLk_12 _) (by omega) (fun r31 => ?_)
  refine e_i2l (dec_at dX2_sixfoldWedge 26) (by omega) ?_
  refine e_aload_n 0 (dec_at dX2_sixfoldWedge 27) rfl rfl ?_
  refine e_iload_n 2 (dec_at dX2_sixfoldWedge 28) rfl rfl ?_
  refine e_iconst (dec_at dX2_sixfoldWedge 29) ?_
  refine e_iadd (dec_at dX2_sixfoldWedge 30) ?_
  refine e_iload_n 3 (dec_at dX2_sixfoldWedge 31) rfl rfl ?_
  refine e_iload_n 2 (dec_at dX2_sixfoldWedge 32) rfl rfl ?_
  refine e_iload_n 3 (dec_at dX2_sixfoldWedge 33) rfl rfl ?_
  refine e_iconst (dec_at dX2_sixfoldWedge 34) ?_
  refine e_iadd (dec_at dX2_sixfoldWedge 35) ?_
  refine e_callVr (M' := mX2_crossed) (dec_at dX2_sixfoldWedge 36) mlX2_103 (c_crossed l (q + 2) r q (r + 2) (by omega) (by omega) (by omega) (by omega)) oX2_crossed iX2_crossed rfl rfl rfl rfl (by decide) (by decide) (Nat.le_of_ble_eq_true rfl) ?_
  refine e_lmul (dec_at dX2_sixfoldWedge 37) ?_
  refine e_ladd (dec_at dX2_sixfoldWedge 38) ?_
  refine e_aload_n 0 (dec_at dX2_sixfoldWedge 39) rfl rfl ?_
  refine e_getr 3 (dec_at dX2_sixfoldWedge 40) flX2_9 rfl rfl ?_
  refine e_iload_n 1 (dec_at dX2_sixfoldWedge 41) rfl rfl ?_
  refine e_iconst (dec_at dX2_sixfoldWedge 42) ?_
  refine e_iadd (dec_at dX2_sixfoldWedge 43) ?_
  refine e_iald (dec_at dX2_sixfoldWedge 44) rfl (by decide) (aLk_12 _) (by omega) (fun r54 => ?_)
  refine e_i2l (dec_at dX2_sixfoldWedge 45) (by omega) ?_
  refine e_aload_n 0 (dec_at dX2_sixfoldWedge 46) rfl rfl ?_
  refine e_iload_n 2 (dec_at dX2_sixfoldWedge 47) rfl rfl ?_
  refine e_iload_n 3 (dec_at dX2_sixfoldWedge 48) rfl rfl ?_
  refine e_iconst (dec_at dX2_sixfoldWedge 49) ?_
  refine e_iadd (dec_at dX2_sixfoldWedge 50) ?_
  refine e_iload_n 2 (dec_at dX2_sixfoldWedge 51) rfl rfl ?_
  refine e_iconst (dec_at dX2_sixfoldWedge 52) ?_
  refine e_iadd (dec_at dX2_sixfoldWedge 53) ?_
  refine e_iload_n 3 (dec_at dX2_sixfoldWedge 54) rfl rfl ?_
  refine e_callVr (M' := mX2_crossed) (dec_at dX2_sixfoldWedge 55) mlX2_103 (c_crossed l q (r + 1) (q + 1) r (by omega) (by omega) (by omega) (by omega)) oX2_crossed iX2_crossed rfl rfl rfl rfl (by decide) (by decide) (Nat.le_of_ble_eq_true rfl) ?_
  refine e_lmul (dec_at dX2_sixfoldWedge 56) ?_
  refine e_ladd (dec_at dX2_sixfoldWedge 57) ?_
  refine e_lreturn (dec_at dX2_sixfoldWedge 58) rfl ?_
  exact ⟨rfl, rfl⟩

set_option maxRecDepth 100000 in
set_option maxHeartbeats 4000000 in
theorem l_sixfoldRoom1 {μ : Mm} {l f p : Int} {Q : Option Vv → Mm → Prop} (h : NB1 μ l) (hf0 : 0 ≤ f) (hf1 : f < μ 11 l 1) (hp : 0 ≤ p ∧ p < μ 11 l 0) : ∀ (q : Nat) (s : Int) (a : Int), (μ 13 l (f + 1) - s).toNat = q → 0 ≤ s → s ≤ μ 13 l (f + 1) → Ev mX2_sixfoldRoom 2 87 [some (vR 11 l), some (vL (flo (fun s a => a + wdF (μ 12 l) (3 * p) (3 * μ 14 l s) (3 * μ 14 l (s + 1))) s (μ 13 l (f + 1) - 1) a)), none, some (vI f), none, none] [] μ Q → Ev mX2_sixfoldRoom 2 35 [some (vR 11 l), some (vL a), none, some (vI f), some (vI p), some (vI s)] [] μ (Q) := by
  intro q
  induction q using Nat.strongRecOn with
  | _ q ih =>
  intro s a hq h0 h1 K
  have hCc := capC_in l
  have hCp := capP_in l
  have hCe := capE_in l
  have hf := h.2.2.2.1 f hf0 hf1
  have hn := h.2.2.1
  have hP := h.2.1
  have hC := h.1
  refine e_iload (dec_at dX2_sixfoldRoom 23) rfl ?_
  refine e_iconst (dec_at dX2_sixfoldRoom 24) ?_
  refine e_iadd (dec_at dX2_sixfoldRoom 25) ?_
  refine e_aload_n 0 (dec_at dX2_sixfoldRoom 26) rfl rfl ?_
  refine e_getr 4 (dec_at dX2_sixfoldRoom 27) flX2_15 rfl rfl ?_
  refine e_iload_n 3 (dec_at dX2_sixfoldRoom 28) rfl rfl ?_
  refine e_iconst (dec_at dX2_sixfoldRoom 29) ?_
  refine e_iadd (dec_at dX2_sixfoldRoom 30) ?_
  refine e_iald (dec_at dX2_sixfoldRoom 31) rfl (by decide) (aLk_13 _) (by omega) (fun r46 => ?_)
  refine e_icmp_ge 87 (dec_at dX2_sixfoldRoom 32) (by decide) (by omega) (by omega) (fun h47 => ?_) (fun h47 => ?_)
  · rw [flo_stop (by omega)] at K
    exact e_le [some (vR 11 l), some (vL a), none, some (vI f), none, none] (by simp [leL]) K
  · have hs := h.2.2.2.2 s h0 (by omega)
    have hs2 := h.2.2.2.2 (s + 1) (by omega) (by omega)
    refine e_lload_n 1 (dec_at dX2_sixfoldRoom 33) rfl rfl ?_
    refine e_aload_n 0 (dec_at dX2_sixfoldRoom 34) rfl rfl ?_
    refine e_iconst (dec_at dX2_sixfoldRoom 35) ?_
    refine e_iload (dec_at dX2_sixfoldRoom 36) rfl ?_
    refine e_imul (dec_at dX2_sixfoldRoom 37) ?_
    refine e_iconst (dec_at dX2_sixfoldRoom 38) ?_
    refine e_aload_n 0 (dec_at dX2_sixfoldRoom 39) rfl rfl ?_
    refine e_getr 5 (dec_at dX2_sixfoldRoom 40) flX2_18 rfl rfl ?_
    refine e_iload (dec_at dX2_sixfoldRoom 41) rfl ?_
    refine e_iald (dec_at dX2_sixfoldRoom 42) rfl (by decide) (aLk_14 _) (by omega) (fun r63 => ?_)
    refine e_imul (dec_at dX2_sixfoldRoom 43) ?_
    refine e_iconst (dec_at dX2_sixfoldRoom 44) ?_
    refine e_aload_n 0 (dec_at dX2_sixfoldRoom 45) rfl rfl ?_
    refine e_getr 5 (dec_at dX2_sixfoldRoom 46) flX2_18 rfl rfl ?_
    refine e_iload (dec_at dX2_sixfoldRoom 47) rfl ?_
    refine e_iconst (dec_at dX2_sixfoldRoom 48) ?_
    refine e_iadd (dec_at dX2_sixfoldRoom 49) ?_
    refine e_iald (dec_at dX2_sixfoldRoom 50) rfl (by decide) (aLk_14 _) (by omega) (fun r74 => ?_)
    refine e_imul (dec_at dX2_sixfoldRoom 51) ?_
    refine e_callVr (M' := mX2_sixfoldWedge) (dec_at dX2_sixfoldRoom 52) mlX2_99 (c_sixfoldWedge l (3 * p) (3 * μ 14 l s) (3 * μ 14 l (s + 1)) (by omega) (by omega) (by omega)) oX2_sixfoldWedge iX2_sixfoldWedge rfl rfl rfl rfl (by decide) (by decide) (Nat.le_of_ble_eq_true rfl) ?_
    refine e_ladd (dec_at dX2_sixfoldRoom 53) ?_
    refine e_ls1 (dec_at dX2_sixfoldRoom 54) (by decide) rfl ?_
    refine e_ii5 (dec_at dX2_sixfoldRoom 55) (by decide) rfl ?_
    refine e_goto 35 (dec_at dX2_sixfoldRoom 56) (by decide) ?_
    rw [flo_step (by omega)] at K
    exact ih _ (by omega) (s + 1) _ rfl (by omega) (by omega) K

set_option maxRecDepth 100000 in
set_option maxHeartbeats 4000000 in
theorem l_sixfoldRoom {μ : Mm} {l : Int} (h : NB1 μ l) : ∀ (q : Nat) (f : Int) (a : Int), (μ 11 l 1 - f).toNat = q → 0 ≤ f → f ≤ μ 11 l 1 → Ev mX2_sixfoldRoom 2 4 [some (vR 11 l), some (vL a), none, some (vI f), none, none] [] μ (Rt (some (vL (flo (fun f a => flo (fun s a => a + wdF (μ 12 l) (3 * μ 14 l (μ 13 l f)) (3 * μ 14 l s) (3 * μ 14 l (s + 1))) (μ 13 l f + 1) (μ 13 l (f + 1) - 1) a) f (μ 11 l 1) a))) μ) := by
  intro q
  induction q using Nat.strongRecOn with
  | _ q ih =>
  intro f a hq h0 h1
  have hCc := capC_in l
  have hCp := capP_in l
  have hCe := capE_in l
  have hn := h.2.2.1
  have hP := h.2.1
  refine e_iload_n 3 (dec_at dX2_sixfoldRoom 4) rfl rfl ?_
  refine e_aload_n 0 (dec_at dX2_sixfoldRoom 5) rfl rfl ?_
  refine e_geti 1 1 (dec_at dX2_sixfoldRoom 6) flX2_43 rfl rfl rfl (fun r6 => ?_)
  refine e_icmp_ge 93 (dec_at dX2_sixfoldRoom 7) (by decide) (by omega) (by omega) (fun h9 => ?_) (fun h9 => ?_)
  · refine e_lload_n 1 (dec_at dX2_sixfoldRoom 59) rfl rfl ?_
    refine e_lreturn (dec_at dX2_sixfoldRoom 60) rfl ?_
    exact ⟨by rw [flo_stop (by omega)], rfl⟩
  · have hf := h.2.2.2.1 f h0 (by omega)
    have hs := h.2.2.2.2 (μ 13 l f) (by omega) (by omega)
    refine e_aload_n 0 (dec_at dX2_sixfoldRoom 8) rfl rfl ?_
    refine e_getr 5 (dec_at dX2_sixfoldRoom 9) flX2_18 rfl rfl ?_
    refine e_aload_n 0 (dec_at dX2_sixfoldRoom 10) rfl rfl ?_
    refine e_getr 4 (dec_at dX2_sixfoldRoom 11) flX2_15 rfl rfl ?_
    refine e_iload_n 3 (dec_at dX2_sixfoldRoom 12) rfl rfl ?_
    refine e_iald (dec_at dX2_sixfoldRoom 13) rfl (by decide) (aLk_13 _) (by omega) (fun r21 => ?_)
    refine e_iald (dec_at dX2_sixfoldRoom 14) rfl (by decide) (aLk_14 _) (by omega) (fun r22 => ?_)
    refine e_is4 (dec_at dX2_sixfoldRoom 15) (by decide) rfl ?_
    refine e_aload_n 0 (dec_at dX2_sixfoldRoom 16) rfl rfl ?_
    refine e_getr 4 (dec_at dX2_sixfoldRoom 17) flX2_15 rfl rfl ?_
    refine e_iload_n 3 (dec_at dX2_sixfoldRoom 18) rfl rfl ?_
    refine e_iald (dec_at dX2_sixfoldRoom 19) rfl (by decide) (aLk_13 _) (by omega) (fun r30 => ?_)
    refine e_iconst (dec_at dX2_sixfoldRoom 20) ?_
    refine e_iadd (dec_at dX2_sixfoldRoom 21) ?_
    refine e_is5 (dec_at dX2_sixfoldRoom 22) (by decide) rfl ?_
    refine l_sixfoldRoom1 h h0 (by omega) (by omega) _ _ _ rfl (by omega) (by omega) ?_
    refine e_ii3 (dec_at dX2_sixfoldRoom 57) (by decide) rfl ?_
    refine e_goto 4 (dec_at dX2_sixfoldRoom 58) (by decide) ?_
    rw [flo_step (i := f) (e := μ 11 l 1) (by omega)]
    exact ih _ (by omega) (f + 1) _ rfl (by omega) (by omega)

set_option maxRecDepth 100000 in
set_option maxHeartbeats 4000000 in
theorem c_sixfoldRoom {μ : Mm} (l : Int) (h : NB1 μ l) : Mc mX2_sixfoldRoom 2 [vR 11 l] μ (Rt (some (vL (flo (fun f a => flo (fun s a => a + wdF (μ 12 l) (3 * μ 14 l (μ 13 l f)) (3 * μ 14 l s) (3 * μ 14 l (s + 1))) (μ 13 l f + 1) (μ 13 l (f + 1) - 1) a) 0 (μ 11 l 1) 0))) μ) := by
  refine Mc.of (L := [some (vR 11 l), none, none, none, none, none]) (by decide +kernel) (by simp [leL, entA, isLong, mX2_sixfoldRoom]) (by simp [entA, isLong, mX2_sixfoldRoom]) ?_
  have hCc := capC_in l
  have hCp := capP_in l
  have hCe := capE_in l
  have hP := h.2.1
  refine e_lconst 0 (dec_at dX2_sixfoldRoom 0) rfl ?_
  refine e_ls1 (dec_at dX2_sixfoldRoom 1) (by decide) rfl ?_
  refine e_iconst (dec_at dX2_sixfoldRoom 2) ?_
  refine e_is3 (dec_at dX2_sixfoldRoom 3) (by decide) rfl ?_
  exact l_sixfoldRoom h _ _ _ rfl (by omega) (by omega)
end
section
/-! NETS, without a machine. A net by its arrays: 0: how many corners, plates, edges; 2: first; 3: rings; 4: plateOf; 5: back; 6: edgeOf; 7: met; 8: degree; 9: door. -/
abbrev Net : Type := Nat → Int → Int
def nN (A : Net) : Int := A 2 (A 0 1)
def nx (A : Net) (s : Int) : Int := nxF (A 2) (A 4) s
def pv (A : Net) (s : Int) : Int := pvF (A 2) (A 4) s
/-- plates: rows of at least three, one behind the other; each step's plate -/
def GP (A : Net) : Prop := 0 ≤ A 0 1 ∧ A 2 0 = 0 ∧ (∀ f, 0 ≤ f → f < A 0 1 → A 2 f + 3 ≤ A 2 (f + 1)) ∧ (∀ s, 0 ≤ s → s < nN A → (0 ≤ A 4 s ∧ A 4 s < A 0 1) ∧ A 2 (A 4 s) ≤ s ∧ s < A 2 (A 4 s + 1))
theorem mono_fst {P : Int} {fst : Int → Int} (h : ∀ f, 0 ≤ f → f < P → fst f + 3 ≤ fst (f + 1)) : ∀ (n : Nat) (f g : Int), 0 ≤ f → (g - f).toNat = n → f ≤ g → g ≤ P → fst f + 3 * (g - f) ≤ fst g := by
  intro n
  induction n with
  | zero =>
    intro f g h0 hn h1 h2
    obtain rfl : f = g := by omega
    omega
  | succ n ih =>
    intro f g h0 hn h1 h2
    have a := h f h0 (by omega)
    have b := ih (f + 1) g (by omega) (by omega) (by omega) h2
    omega
theorem GP.mono {A : Net} (h : GP A) {f g : Int} (h0 : 0 ≤ f) (h1 : f ≤ g) (h2 : g ≤ A 0 1) : A 2 f + 3 * (g - f) ≤ A 2 g := mono_fst h.2.2.1 _ f g h0 rfl h1 h2
theorem GP.n0 {A : Net} (h : GP A) : 0 ≤ nN A := by
  have h0 := h.1
  have := h.mono (f := 0) (g := A 0 1) (by omega) h.1 (by omega)
  have := h.2.1
  unfold nN
  omega
theorem GP.le {A : Net} (h : GP A) {f : Int} (h0 : 0 ≤ f) (h1 : f ≤ A 0 1) : 0 ≤ A 2 f ∧ A 2 f ≤ nN A := by
  have a := h.mono (f := 0) (g := f) (by omega) h0 h1
  have b := h.mono (f := f) (g := A 0 1) h0 h1 (by omega)
  have := h.2.1
  unfold nN
  omega
/-- a step lies in one plate alone -/
theorem GP.pl {A : Net} (h : GP A) {f s : Int} (h0 : 0 ≤ f) (h1 : f < A 0 1) (h2 : A 2 f ≤ s) (h3 : s < A 2 (f + 1)) : A 4 s = f := by
  have a := h.le h0 (by omega)
  have b := h.le (f := f + 1) (by omega) (by omega)
  have c := h.2.2.2 s (by omega) (by omega)
  rcases Int.lt_trichotomy (A 4 s) f with q | q | q
  · have := h.mono (f := A 4 s + 1) (g := f) (by omega) (by omega) (by omega)
    omega
  · exact q
  · have := h.mono (f := f + 1) (g := A 4 s) (by omega) (by omega) (by omega)
    omega
theorem GP.nxr {A : Net} (h : GP A) {s : Int} (h0 : 0 ≤ s) (h1 : s < nN A) : (0 ≤ nx A s ∧ nx A s < nN A) ∧ A 4 (nx A s) = A 4 s ∧ nx A s ≠ s ∧ A 2 (A 4 s) ≤ nx A s ∧ nx A s < A 2 (A 4 s + 1) := by
  have c := h.2.2.2 s h0 h1
  have d := h.2.2.1 (A 4 s) c.1.1 c.1.2
  have a := h.le (f := A 4 s) c.1.1 (by omega)
  have b := h.le (f := A 4 s + 1) (by omega) (by omega)
  have key : A 2 (A 4 s) ≤ nx A s ∧ nx A s < A 2 (A 4 s + 1) ∧ nx A s ≠ s := by
    unfold nx nxF
    split <;> omega
  exact ⟨by omega, h.pl c.1.1 c.1.2 key.1 key.2.1, key.2.2, key.1, key.2.1⟩
theorem GP.pvr {A : Net} (h : GP A) {s : Int} (h0 : 0 ≤ s) (h1 : s < nN A) : (0 ≤ pv A s ∧ pv A s < nN A) ∧ A 4 (pv A s) = A 4 s ∧ A 2 (A 4 s) ≤ pv A s ∧ pv A s < A 2 (A 4 s + 1) := by
  have c := h.2.2.2 s h0 h1
  have d := h.2.2.1 (A 4 s) c.1.1 c.1.2
  have a := h.le (f := A 4 s) c.1.1 (by omega)
  have b := h.le (f := A 4 s + 1) (by omega) (by omega)
  have key : A 2 (A 4 s) ≤ pv A s ∧ pv A s < A 2 (A 4 s + 1) := by
    unfold pv pvF
    split <;> omega
  exact ⟨by omega, h.pl c.1.1 c.1.2 key.1 key.2, key.1, key.2⟩
theorem GP.nxpv {A : Net} (h : GP A) {s : Int} (h0 : 0 ≤ s) (h1 : s < nN A) : nx A (pv A s) = s := by
  have c := h.2.2.2 s h0 h1
  have d := h.2.2.1 (A 4 s) c.1.1 c.1.2
  have e := h.pvr h0 h1
  unfold nx nxF
  rw [e.2.1]
  generalize hp : pv A s = p at *
  unfold pv pvF at hp
  split at hp <;> split <;> omega
theorem GP.pvnx {A : Net} (h : GP A) {s : Int} (h0 : 0 ≤ s) (h1 : s < nN A) : pv A (nx A s) = s := by
  have c := h.2.2.2 s h0 h1
  have d := h.2.2.1 (A 4 s) c.1.1 c.1.2
  have e := h.nxr h0 h1
  unfold pv pvF
  rw [e.2.1]
  generalize hp : nx A s = p at *
  unfold nx nxF at hp
  split at hp <;> split <;> omega
theorem GP.nx2 {A : Net} (h : GP A) {s : Int} (h0 : 0 ≤ s) (h1 : s < nN A) : nx A (nx A s) ≠ s := by
  have c := h.2.2.2 s h0 h1
  have d := h.2.2.1 (A 4 s) c.1.1 c.1.2
  have e := h.nxr h0 h1
  intro q
  unfold nx nxF at q
  have e2 : A 4 (nxF (A 2) (A 4) s) = A 4 s := e.2.1
  unfold nxF at e2
  rw [e2] at q
  split at q
  · split at q <;> omega
  · split at q <;> omega
/-- counting -/
noncomputable def ct (p : Int → Prop) : Nat → Nat
  | 0 => 0
  | n + 1 => ct p n + @ite Nat (p (n : Int)) (Classical.propDecidable _) 1 0
theorem ct_t {p : Int → Prop} {n : Nat} (h : p (n : Int)) : ct p (n + 1) = ct p n + 1 := by rw [ct, if_pos h]
theorem ct_f {p : Int → Prop} {n : Nat} (h : ¬ p (n : Int)) : ct p (n + 1) = ct p n := by rw [ct, if_neg h, Nat.add_zero]
theorem ct_cg {p q : Int → Prop} : ∀ (n : Nat), (∀ i : Int, 0 ≤ i → i < n → (p i ↔ q i)) → ct p n = ct q n
  | 0, _ => rfl
  | n + 1, h => by
    have ih := ct_cg n (fun i a b => h i a (by omega))
    by_cases hp : p (n : Int)
    · rw [ct_t hp, ct_t ((h n (by omega) (by omega)).mp hp), ih]
    · rw [ct_f hp, ct_f (fun q => hp ((h n (by omega) (by omega)).mpr q)), ih]
theorem ct_mono {p : Int → Prop} : ∀ (n k : Nat), n ≤ k → ct p n ≤ ct p k
  | n, 0, h => by obtain rfl : n = 0 := by omega
                  omega
  | n, k + 1, h => by
    by_cases hk : n = k + 1
    · subst hk; omega
    · have ih := ct_mono (p := p) n k (by omega)
      rw [ct]
      omega
theorem ct_lt {p : Int → Prop} {n k : Nat} (h : n < k) (hp : p (n : Int)) : ct p n < ct p k := by
  have := ct_mono (p := p) (n + 1) k (by omega)
  rw [ct_t hp] at this
  omega
theorem ct_zero {p : Int → Prop} : ∀ (n : Nat), ct p n = 0 ↔ ∀ i : Int, 0 ≤ i → i < n → ¬ p i
  | 0 => by
    constructor
    · intro _ i a b; omega
    · intro _; rfl
  | n + 1 => by
    have ih := ct_zero (p := p) n
    constructor
    · intro h i a b
      by_cases hp : p (n : Int)
      · rw [ct_t hp] at h; omega
      · rw [ct_f hp] at h
        by_cases hi : i = n
        · subst hi; exact hp
        · exact ih.mp h i a (by omega)
    · intro h
      rw [ct_f (h n (by omega) (by omega))]
      exact ih.mpr (fun i a b => h i a (by omega))
theorem ct_le {p : Int → Prop} : ∀ (n : Nat), ct p n ≤ n
  | 0 => Nat.le_refl 0
  | n + 1 => by
    have := ct_le (p := p) n
    rw [ct]
    split <;> omega
/-- what is put apart into the places that count is at most so many -/
theorem ct_inj {p : Int → Prop} : ∀ (n m : Nat) (u : Nat → Int), (∀ i, i < m → (0 ≤ u i ∧ u i < n) ∧ p (u i)) → (∀ i j, i < m → j < m → u i = u j → i = j) → m ≤ ct p n
  | 0, m, u, h, _ => by
    cases m with
    | zero => omega
    | succ m => have := (h 0 (by omega)).1; omega
  | n + 1, m, u, h, hi => by
    by_cases hx : ∃ i, i < m ∧ u i = n
    · obtain ⟨i, him, hui⟩ := hx
      have hp : p (n : Int) := hui ▸ (h i him).2
      rw [ct_t hp]
      have hne : ∀ j, j < m → j ≠ i → u j < n := by
        intro j hj hji
        have h1 := (h j hj).1
        have h2 : u j ≠ n := fun q => hji (hi j i hj him (q.trans hui.symm))
        omega
      have := ct_inj n (m - 1) (fun j => if j = i then u (m - 1) else u j) (fun j hj => by
        show (0 ≤ (if j = i then u (m - 1) else u j) ∧ (if j = i then u (m - 1) else u j) < n) ∧ p (if j = i then u (m - 1) else u j)
        by_cases hji : j = i
        · rw [if_pos hji]
          have h1 := h (m - 1) (by omega)
          exact ⟨⟨h1.1.1, hne (m - 1) (by omega) (by omega)⟩, h1.2⟩
        · rw [if_neg hji]
          have h1 := h j (by omega)
          exact ⟨⟨h1.1.1, hne j (by omega) hji⟩, h1.2⟩) (fun a b ha hb hab => by
        have hab : (if a = i then u (m - 1) else u a) = (if b = i then u (m - 1) else u b) := hab
        by_cases h1 : a = i
        · by_cases h2 : b = i
          · omega
          · rw [if_pos h1, if_neg h2] at hab
            have := hi (m - 1) b (by omega) (by omega) hab
            omega
        · by_cases h2 : b = i
          · rw [if_neg h1, if_pos h2] at hab
            have := hi a (m - 1) (by omega) (by omega) hab
            omega
          · rw [if_neg h1, if_neg h2] at hab
            exact hi a b (by omega) (by omega) hab)
      omega
    · have := ct_inj (p := p) n m u (fun i hm => by
        have h1 := h i hm
        have h2 : u i ≠ n := fun q => hx ⟨i, hm, q⟩
        exact ⟨⟨h1.1.1, by omega⟩, h1.2⟩) hi
      have := ct_mono (p := p) n (n + 1) (by omega)
      omega
/-- as many put apart as there are: each is met -/
theorem ct_all {p : Int → Prop} {n m : Nat} {u : Nat → Int} (h : ∀ i, i < m → (0 ≤ u i ∧ u i < n) ∧ p (u i)) (hi : ∀ i j, i < m → j < m → u i = u j → i = j) (hm : ct p n ≤ m) {s : Int} (h0 : 0 ≤ s) (h1 : s < n) (hs : p s) : ∃ i, i < m ∧ u i = s := by
  apply Classical.byContradiction
  intro hx
  have := ct_inj (p := p) n (m + 1) (fun i => if i = m then s else u i) (fun i him => by
    show (0 ≤ (if i = m then s else u i) ∧ (if i = m then s else u i) < n) ∧ p (if i = m then s else u i)
    by_cases q : i = m
    · rw [if_pos q]; exact ⟨⟨h0, h1⟩, hs⟩
    · rw [if_neg q]; exact h i (by omega)) (fun a b ha hb hab => by
    have hab : (if a = m then s else u a) = (if b = m then s else u b) := hab
    by_cases q1 : a = m
    · by_cases q2 : b = m
      · omega
      · rw [if_pos q1, if_neg q2] at hab
        exact absurd ⟨b, by omega, hab.symm⟩ hx
    · by_cases q2 : b = m
      · rw [if_neg q1, if_pos q2] at hab
        exact absurd ⟨a, by omega, hab⟩ hx
      · rw [if_neg q1, if_neg q2] at hab
        exact hi a b (by omega) (by omega) hab)
  omega
/-- again and again -/
def it (f : Int → Int) : Nat → Int → Int
  | 0, x => x
  | n + 1, x => f (it f n x)
theorem it_s (f : Int → Int) : ∀ (n : Nat) (x : Int), it f (n + 1) x = it f n (f x)
  | 0, _ => rfl
  | n + 1, x => by
    show f (it f (n + 1) x) = f (it f n (f x))
    rw [it_s f n x]
theorem it_add (f : Int → Int) (a : Nat) (x : Int) : ∀ b : Nat, it f (b + a) x = it f b (it f a x)
  | 0 => by simp [it]
  | b + 1 => by
    rw [show b + 1 + a = (b + a) + 1 by omega]
    show f (it f (b + a) x) = f (it f b (it f a x))
    rw [it_add f a x b]
/-- first return: without it before m, all below m are apart -/
theorem it_apart {f : Int → Int} {D : Int → Prop} (hD : ∀ x, D x → D (f x)) (hf : ∀ x y, D x → D y → f x = f y → x = y) {x : Int} (hx : D x) {m : Nat} (hm : ∀ k, 0 < k → k < m → it f k x ≠ x) : ∀ i j, i < m → j < m → it f i x = it f j x → i = j := by
  have hd : ∀ k, D (it f k x) := by
    intro k
    induction k with
    | zero => exact hx
    | succ k ih => exact hD _ ih
  have key : ∀ i k, it f (i + k) x = it f i x → it f k x = x := by
    intro i
    induction i with
    | zero => intro k h; simpa [it] using h
    | succ i ih =>
      intro k h
      rw [show i + 1 + k = (i + k) + 1 by omega] at h
      exact ih k (hf _ _ (hd _) (hd _) h)
  intro i j hi hj h
  rcases Nat.lt_trichotomy i j with q | q | q
  · exfalso
    have := key i (j - i) (by rw [show i + (j - i) = j by omega]; exact h.symm)
    exact hm (j - i) (by omega) (by omega) this
  · exact q
  · exfalso
    have := key j (i - j) (by rw [show j + (i - j) = i by omega]; exact h)
    exact hm (i - j) (by omega) (by omega) this
/-- every number below the count is met -/
theorem ct_surj {p : Int → Prop} : ∀ (n e : Nat), e < ct p n → ∃ s : Nat, s < n ∧ p (s : Int) ∧ ct p s = e
  | 0, e, h => by simp [ct] at h
  | n + 1, e, h => by
    by_cases hp : p (n : Int)
    · rw [ct_t hp] at h
      by_cases he : e = ct p n
      · exact ⟨n, by omega, hp, he.symm⟩
      · obtain ⟨s, h1, h2, h3⟩ := ct_surj (p := p) n e (by omega)
        exact ⟨s, by omega, h2, h3⟩
    · rw [ct_f hp] at h
      obtain ⟨s, h1, h2, h3⟩ := ct_surj n e h
      exact ⟨s, by omega, h2, h3⟩
/-- what is listed is at least so many -/
theorem ct_cov {p : Int → Prop} : ∀ (n m : Nat) (u : Nat → Int), (∀ s : Int, 0 ≤ s → s < n → p s → ∃ i, i < m ∧ u i = s) → ct p n ≤ m
  | 0, m, u, _ => by simp [ct]
  | n + 1, m, u, h => by
    by_cases hp : p (n : Int)
    · rw [ct_t hp]
      obtain ⟨i, him, hui⟩ := h n (by omega) (by omega) hp
      have := ct_cov (p := p) n (m - 1) (fun j => if j = i then u (m - 1) else u j) (fun s a b hs => by
        obtain ⟨j, hj, hju⟩ := h s a (by omega) hs
        have hji : j ≠ i := fun q => by subst q; omega
        by_cases hjm : j = m - 1
        · exact ⟨i, by omega, by show (if i = i then u (m - 1) else u i) = s; rw [if_pos rfl, ← hjm]; exact hju⟩
        · exact ⟨j, by omega, by show (if j = i then u (m - 1) else u j) = s; rw [if_neg hji]; exact hju⟩)
      omega
    · rw [ct_f hp]
      exact ct_cov n m u (fun s a b hs => h s a (by omega) hs)
theorem ct_add {p q r : Int → Prop} : ∀ (n : Nat), (∀ i : Int, 0 ≤ i → i < n → (r i ↔ p i ∨ q i) ∧ ¬ (p i ∧ q i)) → ct r n = ct p n + ct q n
  | 0, _ => rfl
  | n + 1, h => by
    have ih := ct_add n (fun i a b => h i a (by omega))
    have hn := h n (by omega) (by omega)
    by_cases hp : p (n : Int)
    · have hq : ¬ q (n : Int) := fun z => hn.2 ⟨hp, z⟩
      rw [ct_t hp, ct_f hq, ct_t (hn.1.mpr (Or.inl hp)), ih]
      omega
    · by_cases hq : q (n : Int)
      · rw [ct_f hp, ct_t hq, ct_t (hn.1.mpr (Or.inr hq)), ih]
        omega
      · rw [ct_f hp, ct_f hq, ct_f (fun z => (hn.1.mp z).elim hp hq), ih]
theorem ct_full {p : Int → Prop} : ∀ (n : Nat), (∀ i : Int, 0 ≤ i → i < n → p i) → ct p n = n
  | 0, _ => rfl
  | n + 1, h => by rw [ct_t (h n (by omega) (by omega)), ct_full n (fun i a b => h i a (by omega))]
end
section
/-- steps and their steps back: no two alike, none that stays -/
def GB (A : Net) : Prop := (∀ s, 0 ≤ s → s < nN A → (0 ≤ A 3 s ∧ A 3 s < A 0 0) ∧ (0 ≤ A 5 s ∧ A 5 s < nN A) ∧ A 5 (A 5 s) = s ∧ A 3 (A 5 s) = A 3 (nx A s)) ∧ (∀ s t, 0 ≤ s → s < nN A → 0 ≤ t → t < nN A → A 3 s = A 3 t → A 3 (nx A s) = A 3 (nx A t) → s = t) ∧ (∀ s, 0 ≤ s → s < nN A → A 3 (nx A s) ≠ A 3 s)
/-- round a corner: from a step to the next one from the same corner -/
def rho (A : Net) (s : Int) : Int := A 5 (pv A s)
/-- how many steps go from a corner -/
noncomputable def deg (A : Net) (c : Int) : Nat := ct (fun s => A 3 s = c) (nN A).toNat
/-- every corner has at least three steps, and they make one ring -/
def GR (A : Net) : Prop := ∀ c, 0 ≤ c → c < A 0 0 → 3 ≤ deg A c ∧ ∃ x, (0 ≤ x ∧ x < nN A) ∧ A 3 x = c ∧ ∀ k, 0 < k → k < deg A c → it (rho A) k x ≠ x
def GC (A : Net) : Prop := 0 ≤ A 0 0 ∧ GP A ∧ GB A ∧ GR A
/-- edges as they are met first -/
def fm (bk : Int → Int) : Int → Prop := fun t => ¬ bk t < t
noncomputable def cE (bk : Int → Int) (s : Int) : Int := (ct (fm bk) s.toNat : Int)
def DE (A : Net) : Prop := A 0 2 = cE (A 5) (nN A) ∧ (∀ s, 0 ≤ s → s < nN A → A 6 s = if A 5 s < s then cE (A 5) (A 5 s) else cE (A 5) s) ∧ (∀ s, 0 ≤ s → s < nN A → fm (A 5) s → A 7 (cE (A 5) s) = s)
def DD (A : Net) : Prop := ∀ c, 0 ≤ c → c < A 0 0 → A 8 c = (deg A c : Int) ∧ (0 ≤ A 9 c ∧ A 9 c < nN A) ∧ A 3 (A 9 c) = c ∧ ∀ s, 0 ≤ s → s < nN A → A 3 s = c → A 6 (A 9 c) ≤ A 6 s
def Good (A : Net) : Prop := GC A ∧ DE A ∧ DD A
theorem cE_lt {bk : Int → Int} {s t : Int} (h0 : 0 ≤ s) (h : s < t) (hs : fm bk s) : cE bk s < cE bk t := by
  unfold cE
  have := ct_lt (p := fm bk) (n := s.toNat) (k := t.toNat) (by omega) (by rw [Int.toNat_of_nonneg h0]; exact hs)
  omega
theorem cE_inj {bk : Int → Int} {s t : Int} (h0 : 0 ≤ s) (h1 : 0 ≤ t) (hs : fm bk s) (ht : fm bk t) (h : cE bk s = cE bk t) : s = t := by
  rcases Int.lt_trichotomy s t with q | q | q
  · have := cE_lt h0 q hs; omega
  · exact q
  · have := cE_lt h1 q ht; omega
theorem cE_0 (bk : Int → Int) (s : Int) : 0 ≤ cE bk s := by unfold cE; omega
section GOOD
variable {A : Net}
theorem GC.b1 (h : GC A) {s : Int} (h0 : 0 ≤ s) (h1 : s < nN A) : (0 ≤ A 3 s ∧ A 3 s < A 0 0) ∧ (0 ≤ A 5 s ∧ A 5 s < nN A) ∧ A 5 (A 5 s) = s ∧ A 3 (A 5 s) = A 3 (nx A s) := h.2.2.1.1 s h0 h1
theorem GC.u (h : GC A) {s t : Int} (h0 : 0 ≤ s) (h1 : s < nN A) (h2 : 0 ≤ t) (h3 : t < nN A) (h4 : A 3 s = A 3 t) (h5 : A 3 (nx A s) = A 3 (nx A t)) : s = t := h.2.2.1.2.1 s t h0 h1 h2 h3 h4 h5
theorem GC.nl (h : GC A) {s : Int} (h0 : 0 ≤ s) (h1 : s < nN A) : A 3 (nx A s) ≠ A 3 s := h.2.2.1.2.2 s h0 h1
theorem GC.bne (h : GC A) {s : Int} (h0 : 0 ≤ s) (h1 : s < nN A) : A 5 s ≠ s := fun q => by
  have a := h.b1 h0 h1
  rw [q] at a
  exact h.nl h0 h1 a.2.2.2.symm
theorem GC.tgt (h : GC A) {s : Int} (h0 : 0 ≤ s) (h1 : s < nN A) : A 3 (nx A (A 5 s)) = A 3 s := by
  have a := h.b1 h0 h1
  have b := h.b1 a.2.1.1 a.2.1.2
  rw [a.2.2.1] at b
  exact b.2.2.2.symm
theorem GC.pvi (h : GC A) {s t : Int} (h0 : 0 ≤ s) (h1 : s < nN A) (h2 : 0 ≤ t) (h3 : t < nN A) (q : pv A s = pv A t) : s = t := by
  have a := h.2.1.nxpv h0 h1
  have b := h.2.1.nxpv h2 h3
  rw [q] at a
  exact a.symm.trans b
theorem GC.rh (h : GC A) {s : Int} (h0 : 0 ≤ s) (h1 : s < nN A) : (0 ≤ rho A s ∧ rho A s < nN A) ∧ A 3 (rho A s) = A 3 s := by
  have a := h.2.1.pvr h0 h1
  have b := h.b1 a.1.1 a.1.2
  refine ⟨b.2.1, ?_⟩
  have c := b.2.2.2
  rw [h.2.1.nxpv h0 h1] at c
  exact c
theorem GC.rhi (h : GC A) {s t : Int} (h0 : 0 ≤ s) (h1 : s < nN A) (h2 : 0 ≤ t) (h3 : t < nN A) (q : rho A s = rho A t) : s = t := by
  have a := h.2.1.pvr h0 h1
  have b := h.2.1.pvr h2 h3
  have c := (h.b1 a.1.1 a.1.2).2.2.1
  have d := (h.b1 b.1.1 b.1.2).2.2.1
  unfold rho at q
  rw [q] at c
  exact h.pvi h0 h1 h2 h3 (c.symm.trans d)
theorem GC.itr (h : GC A) {s : Int} (h0 : 0 ≤ s) (h1 : s < nN A) (k : Nat) : (0 ≤ it (rho A) k s ∧ it (rho A) k s < nN A) ∧ A 3 (it (rho A) k s) = A 3 s := by
  induction k with
  | zero => exact ⟨⟨h0, h1⟩, rfl⟩
  | succ k ih =>
    have a := h.rh ih.1.1 ih.1.2
    exact ⟨a.1, a.2.trans ih.2⟩
end GOOD
end
section
section RING
variable {A : Net}
/-- a step whose ring doesn't close early: its ring has all steps of its corner, and closes then -/
theorem GC.apart (h : GC A) {x : Int} (h0 : 0 ≤ x) (h1 : x < nN A) {m : Nat} (hn : ∀ k, 0 < k → k < m → it (rho A) k x ≠ x) : ∀ i j, i < m → j < m → it (rho A) i x = it (rho A) j x → i = j :=
  it_apart (D := fun s => 0 ≤ s ∧ s < nN A) (fun s hs => (h.rh hs.1 hs.2).1) (fun s t hs ht q => h.rhi hs.1 hs.2 ht.1 ht.2 q) ⟨h0, h1⟩ hn
theorem GC.cov (h : GC A) {x c : Int} (h0 : 0 ≤ x) (h1 : x < nN A) (hc : A 3 x = c) (hn : ∀ k, 0 < k → k < deg A c → it (rho A) k x ≠ x) {s : Int} (g0 : 0 ≤ s) (g1 : s < nN A) (gc : A 3 s = c) : ∃ k, k < deg A c ∧ it (rho A) k x = s := by
  refine ct_all (p := fun s => A 3 s = c) (n := (nN A).toNat) (u := fun k => it (rho A) k x) (fun i _ => ?_) (h.apart h0 h1 hn) (Nat.le_refl _) g0 (by omega) gc
  have := h.itr h0 h1 i
  exact ⟨by omega, this.2.trans hc⟩
theorem GC.ret (h : GC A) {x c : Int} (h0 : 0 ≤ x) (h1 : x < nN A) (hc : A 3 x = c) (hd : 0 < deg A c) (hn : ∀ k, 0 < k → k < deg A c → it (rho A) k x ≠ x) : it (rho A) (deg A c) x = x := by
  have a := h.itr h0 h1 (deg A c)
  obtain ⟨k, hk, e⟩ := h.cov h0 h1 hc hn a.1.1 a.1.2 (a.2.trans hc)
  by_cases k0 : k = 0
  · subst k0; exact e.symm
  · exfalso
    obtain ⟨k', rfl⟩ : ∃ k', k = k' + 1 := ⟨k - 1, by omega⟩
    obtain ⟨d', hd'⟩ : ∃ d', deg A c = d' + 1 := ⟨deg A c - 1, by omega⟩
    rw [hd'] at e
    have b := h.itr h0 h1 k'
    have b2 := h.itr h0 h1 d'
    have e2 : it (rho A) k' x = it (rho A) d' x := h.rhi b.1.1 b.1.2 b2.1.1 b2.1.2 e
    have := h.apart h0 h1 hn k' d' (by omega) (by omega) e2
    omega
/-- then no step of the corner closes early -/
theorem GC.nr (h : GC A) {x c : Int} (h0 : 0 ≤ x) (h1 : x < nN A) (hc : A 3 x = c) (hn : ∀ k, 0 < k → k < deg A c → it (rho A) k x ≠ x) {s : Int} (g0 : 0 ≤ s) (g1 : s < nN A) (gc : A 3 s = c) : ∀ k, 0 < k → k < deg A c → it (rho A) k s ≠ s := by
  intro k k0 k1 e
  obtain ⟨j, hj, rfl⟩ := h.cov h0 h1 hc hn g0 g1 gc
  rw [← it_add] at e
  have key : ∀ j, it (rho A) (k + j) x = it (rho A) j x → it (rho A) k x = x := by
    intro j
    induction j with
    | zero => intro e; exact e
    | succ j ih =>
      intro e
      have b := h.itr h0 h1 (k + j)
      have b2 := h.itr h0 h1 j
      exact ih (h.rhi b.1.1 b.1.2 b2.1.1 b2.1.2 e)
  exact hn k k0 k1 (key j e)
theorem GC.all (h : GC A) {s : Int} (g0 : 0 ≤ s) (g1 : s < nN A) : 3 ≤ deg A (A 3 s) ∧ ∀ k, 0 < k → k < deg A (A 3 s) → it (rho A) k s ≠ s := by
  have a := h.b1 g0 g1
  obtain ⟨b, x, hx, hc, hn⟩ := h.2.2.2 (A 3 s) a.1.1 a.1.2
  exact ⟨b, h.nr hx.1 hx.2 hc hn g0 g1 rfl⟩
/-- the least of a step and its step back -/
def lo (A : Net) (s : Int) : Int := if A 5 s < s then A 5 s else s
theorem GC.lor (h : GC A) {s : Int} (h0 : 0 ≤ s) (h1 : s < nN A) : (0 ≤ lo A s ∧ lo A s < nN A) ∧ fm (A 5) (lo A s) ∧ (s = lo A s ∨ s = A 5 (lo A s)) ∧ lo A (A 5 s) = lo A s := by
  have a := h.b1 h0 h1
  have b := h.bne h0 h1
  unfold lo fm
  by_cases q : A 5 s < s
  · rw [if_pos q, a.2.2.1]
    refine ⟨a.2.1, by omega, Or.inr rfl, ?_⟩
    rw [if_neg (by omega)]
  · rw [if_neg q, a.2.2.1]
    refine ⟨⟨h0, h1⟩, q, Or.inl rfl, ?_⟩
    rw [if_pos (by omega)]
end RING
section EDGES
variable {A : Net}
theorem Good.eo (h : Good A) {s : Int} (h0 : 0 ≤ s) (h1 : s < nN A) : A 6 s = cE (A 5) (lo A s) := by
  rw [h.2.1.2.1 s h0 h1]
  unfold lo
  split <;> rfl
theorem Good.eob (h : Good A) {s : Int} (h0 : 0 ≤ s) (h1 : s < nN A) : A 6 (A 5 s) = A 6 s := by
  have a := h.1.b1 h0 h1
  rw [h.eo h0 h1, h.eo a.2.1.1 a.2.1.2, (h.1.lor h0 h1).2.2.2]
theorem Good.eor (h : Good A) {s : Int} (h0 : 0 ≤ s) (h1 : s < nN A) : 0 ≤ A 6 s ∧ A 6 s < A 0 2 := by
  have a := h.1.lor h0 h1
  rw [h.eo h0 h1, h.2.1.1]
  exact ⟨cE_0 _ _, cE_lt a.1.1 a.1.2 a.2.1⟩
theorem Good.eoe (h : Good A) {s t : Int} (h0 : 0 ≤ s) (h1 : s < nN A) (h2 : 0 ≤ t) (h3 : t < nN A) (e : A 6 s = A 6 t) : t = s ∨ t = A 5 s := by
  have a := h.1.lor h0 h1
  have b := h.1.lor h2 h3
  rw [h.eo h0 h1, h.eo h2 h3] at e
  have c := cE_inj a.1.1 b.1.1 a.2.1 b.2.1 e
  rw [← c] at b
  have d := h.1.b1 h0 h1
  rcases a.2.2.1 with p | p <;> rcases b.2.2.1 with q | q
  · left; rw [q, ← p]
  · right; rw [q, ← p]
  · right
    rw [q]
    have f := (h.1.b1 a.1.1 a.1.2).2.2.1
    rw [← p] at f
    exact f.symm
  · left; rw [q, ← p]
theorem Good.mt (h : Good A) {e : Int} (h0 : 0 ≤ e) (h1 : e < A 0 2) : (0 ≤ A 7 e ∧ A 7 e < nN A) ∧ fm (A 5) (A 7 e) ∧ A 6 (A 7 e) = e ∧ cE (A 5) (A 7 e) = e := by
  have hE := h.2.1.1
  have hn := h.1.2.1.n0
  unfold cE at hE
  obtain ⟨s, a, b, c⟩ := ct_surj (p := fm (A 5)) (nN A).toNat e.toNat (by omega)
  have d := h.2.1.2.2 (s : Int) (by omega) (by omega) b
  have e1 : cE (A 5) (s : Int) = e := by unfold cE; rw [Int.toNat_natCast, c]; omega
  rw [e1] at d
  rw [d]
  refine ⟨⟨by omega, by omega⟩, b, ?_, e1⟩
  rw [h.2.1.2.1 s (by omega) (by omega), if_neg b]
  exact e1
/-- the door's ring -/
theorem Good.door (h : Good A) {c : Int} (h0 : 0 ≤ c) (h1 : c < A 0 0) : (0 ≤ A 9 c ∧ A 9 c < nN A) ∧ A 3 (A 9 c) = c ∧ 3 ≤ deg A c ∧ A 8 c = (deg A c : Int) ∧ (∀ k, 0 < k → k < deg A c → it (rho A) k (A 9 c) ≠ A 9 c) ∧ it (rho A) (deg A c) (A 9 c) = A 9 c ∧ (∀ s, 0 ≤ s → s < nN A → A 3 s = c → ∃ k, k < deg A c ∧ it (rho A) k (A 9 c) = s) := by
  have a := h.2.2 c h0 h1
  have b := h.1.all a.2.1.1 a.2.1.2
  rw [a.2.2.1] at b
  exact ⟨a.2.1, a.2.2.1, b.1, a.1, b.2, h.1.ret a.2.1.1 a.2.1.2 a.2.2.1 (by omega) b.2, fun s g0 g1 gc => h.1.cov a.2.1.1 a.2.1.2 a.2.2.1 b.2 g0 g1 gc⟩
end EDGES
/-- two nets with the same corners, plates and rings -/
def SC (A B : Net) : Prop := A 0 0 = B 0 0 ∧ A 0 1 = B 0 1 ∧ (∀ f, 0 ≤ f → f ≤ A 0 1 → A 2 f = B 2 f) ∧ (∀ s, 0 ≤ s → s < nN A → A 3 s = B 3 s)
def Agr (A B : Net) : Prop := SC A B ∧ A 0 2 = B 0 2 ∧ (∀ s, 0 ≤ s → s < nN A → A 4 s = B 4 s ∧ A 5 s = B 5 s ∧ A 6 s = B 6 s) ∧ (∀ e, 0 ≤ e → e < A 0 2 → A 7 e = B 7 e) ∧ (∀ c, 0 ≤ c → c < A 0 0 → A 8 c = B 8 c ∧ A 9 c = B 9 c)
section UNIQ
variable {A B : Net}
theorem SC.n (h : SC A B) (hP : 0 ≤ A 0 1) : nN A = nN B := by
  unfold nN
  rw [← h.2.1]
  exact h.2.2.1 _ hP (by omega)
theorem SC.pl (h : SC A B) (ga : GP A) (gb : GP B) {s : Int} (h0 : 0 ≤ s) (h1 : s < nN A) : A 4 s = B 4 s := by
  have a := ga.2.2.2 s h0 h1
  have hn := h.n ga.1
  refine (gb.pl a.1.1 (by rw [← h.2.1]; exact a.1.2) ?_ ?_).symm
  · rw [← h.2.2.1 _ a.1.1 (by omega)]; exact a.2.1
  · rw [← h.2.2.1 _ (by omega) (by omega)]; exact a.2.2
theorem SC.nxe (h : SC A B) (ga : GP A) (gb : GP B) {s : Int} (h0 : 0 ≤ s) (h1 : s < nN A) : nx A s = nx B s := by
  have a := ga.2.2.2 s h0 h1
  have b := h.pl ga gb h0 h1
  unfold nx nxF
  rw [← b, ← h.2.2.1 _ a.1.1 (by omega), ← h.2.2.1 (A 4 s + 1) (by omega) (by omega)]
theorem SC.pve (h : SC A B) (ga : GP A) (gb : GP B) {s : Int} (h0 : 0 ≤ s) (h1 : s < nN A) : pv A s = pv B s := by
  have a := ga.2.2.2 s h0 h1
  have b := h.pl ga gb h0 h1
  unfold pv pvF
  rw [← b, ← h.2.2.1 _ a.1.1 (by omega), ← h.2.2.1 (A 4 s + 1) (by omega) (by omega)]
theorem SC.bk (h : SC A B) (ga : GC A) (gb : GC B) {s : Int} (h0 : 0 ≤ s) (h1 : s < nN A) : A 5 s = B 5 s := by
  have hn := h.n ga.2.1.1
  have a := ga.b1 h0 h1
  have b := gb.b1 h0 (by omega)
  have e1 := h.nxe ga.2.1 gb.2.1 h0 h1
  have c := ga.2.1.nxr h0 h1
  have cb := gb.2.1.nxr (s := B 5 s) b.2.1.1 b.2.1.2
  refine ga.u a.2.1.1 a.2.1.2 b.2.1.1 (by omega) ?_ ?_
  · rw [a.2.2.2, h.2.2.2 _ b.2.1.1 (by omega), b.2.2.2, ← e1, h.2.2.2 _ c.1.1 c.1.2]
  · rw [ga.tgt h0 h1, h.nxe ga.2.1 gb.2.1 b.2.1.1 (by omega), h.2.2.2 _ cb.1.1 (by omega), gb.tgt h0 (by omega), h.2.2.2 s h0 h1]
theorem cE_cg {bk bk' : Int → Int} {n : Int} (h : ∀ s, 0 ≤ s → s < n → bk s = bk' s) {s : Int} (h1 : s ≤ n) : cE bk s = cE bk' s := by
  unfold cE
  rw [ct_cg s.toNat (q := fm bk') (fun i a b => by unfold fm; rw [h i a (by omega)])]
theorem SC.dge (h : SC A B) (hP : 0 ≤ A 0 1) (c : Int) : deg A c = deg B c := by
  have hn := h.n hP
  unfold deg
  rw [hn]
  exact ct_cg _ (fun i a b => by rw [h.2.2.2 i a (by omega)])
/-- what is derived is the same where the steps back are -/
theorem Agr.of (h : SC A B) (ga : GC A) (da : DE A ∧ DD A) (db : DE B ∧ DD B) (h4 : ∀ s, 0 ≤ s → s < nN A → A 4 s = B 4 s) (h5 : ∀ s, 0 ≤ s → s < nN A → A 5 s = B 5 s) : Agr A B := by
  have hn := h.n ga.2.1.1
  have hE : A 0 2 = B 0 2 := by rw [da.1.1, db.1.1, ← hn]; exact cE_cg h5 (by omega)
  have h6 : ∀ s, 0 ≤ s → s < nN A → A 6 s = B 6 s := by
    intro s h0 h1
    have a := ga.b1 h0 h1
    rw [da.1.2.1 s h0 h1, db.1.2.1 s h0 (by omega), ← h5 s h0 h1, cE_cg h5 (s := A 5 s) (by omega), cE_cg h5 (s := s) (by omega)]
  refine ⟨h, hE, fun s h0 h1 => ⟨h4 s h0 h1, h5 s h0 h1, h6 s h0 h1⟩, fun e h0 h1 => ?_, fun c h0 h1 => ?_⟩
  · have a := Good.mt ⟨ga, da⟩ h0 h1
    have b := db.1.2.2 (A 7 e) a.1.1 (by omega) (by unfold fm; rw [← h5 _ a.1.1 a.1.2]; exact a.2.1)
    rw [← cE_cg h5 (s := A 7 e) (by omega), a.2.2.2] at b
    exact b.symm
  · have a := da.2 c h0 h1
    have b := db.2 c h0 (by rw [← h.1]; exact h1)
    refine ⟨by rw [a.1, b.1, h.dge ga.2.1.1], ?_⟩
    have a2 := a.2.2.2 (B 9 c) b.2.1.1 (by omega) (by rw [h.2.2.2 _ b.2.1.1 (by omega)]; exact b.2.2.1)
    have b2 := b.2.2.2 (A 9 c) a.2.1.1 (by omega) (by rw [← h.2.2.2 _ a.2.1.1 (by omega)]; exact a.2.2.1)
    rw [← h6 _ b.2.1.1 (by omega), ← h6 _ a.2.1.1 a.2.1.2] at b2
    rcases Good.eoe ⟨ga, da⟩ a.2.1.1 a.2.1.2 b.2.1.1 (by omega) (show A 6 (A 9 c) = A 6 (B 9 c) by omega) with q | q
    · exact q.symm
    · exfalso
      have e1 := (ga.b1 a.2.1.1 a.2.1.2).2.2.2
      rw [← q, h.2.2.2 _ b.2.1.1 (by omega), b.2.2.1] at e1
      exact ga.nl a.2.1.1 a.2.1.2 (e1.symm.trans a.2.2.1.symm)
theorem Good.uniq (h : SC A B) (ga : Good A) (gb : Good B) : Agr A B := Agr.of h ga.1 ga.2 gb.2 (fun _ h0 h1 => h.pl ga.1.2.1 gb.1.2.1 h0 h1) (fun _ h0 h1 => h.bk ga.1 gb.1 h0 h1)
end UNIQ
end
section
/-- a net out of corners, plates, rings, and each step's plate and step back -/
noncomputable def fin (C P : Int) (fst rg pl bk : Int → Int) : Net := fun j i => match j with
  | 0 => if i = 0 then C else if i = 1 then P else cE bk (fst P)
  | 2 => fst i
  | 3 => rg i
  | 4 => pl i
  | 5 => bk i
  | 6 => if bk i < i then cE bk (bk i) else cE bk i
  | 7 => Classical.epsilon (fun s => (0 ≤ s ∧ s < fst P) ∧ fm bk s ∧ cE bk s = i)
  | 8 => (ct (fun s => rg s = i) (fst P).toNat : Int)
  | 9 => Classical.epsilon (fun s => (0 ≤ s ∧ s < fst P) ∧ rg s = i ∧ ∀ t, 0 ≤ t → t < fst P → rg t = i → (if bk s < s then cE bk (bk s) else cE bk s) ≤ (if bk t < t then cE bk (bk t) else cE bk t))
  | _ => 0
theorem least_of {p : Int → Prop} {f : Int → Int} (hf : ∀ s, p s → 0 ≤ f s) : ∀ (n : Nat) (s : Int), p s → (f s).toNat = n → ∃ s, p s ∧ ∀ t, p t → f s ≤ f t := by
  intro n
  induction n using Nat.strongRecOn with
  | _ n ih =>
  intro s hs hn
  by_cases h : ∃ t, p t ∧ f t < f s
  · obtain ⟨t, ht, hlt⟩ := h
    have := hf t ht
    have := hf s hs
    exact ih (f t).toNat (by omega) t ht rfl
  · refine ⟨s, hs, fun t ht => ?_⟩
    have : ¬ f t < f s := fun q => h ⟨t, ht, q⟩
    omega
theorem fin_good {C P : Int} {fst rg pl bk : Int → Int} (h : GC (fin C P fst rg pl bk)) : Good (fin C P fst rg pl bk) := by
  have hn : nN (fin C P fst rg pl bk) = fst P := rfl
  have e5 : (fin C P fst rg pl bk) 5 = bk := rfl
  refine ⟨h, ⟨rfl, fun s _ _ => rfl, fun s h0 h1 hs => ?_⟩, fun c h0 h1 => ?_⟩
  · have hx : ∃ t, (0 ≤ t ∧ t < fst P) ∧ fm bk t ∧ cE bk t = cE bk s := ⟨s, ⟨h0, h1⟩, hs, rfl⟩
    have a := Classical.epsilon_spec hx
    show Classical.epsilon (fun t => (0 ≤ t ∧ t < fst P) ∧ fm bk t ∧ cE bk t = cE bk s) = s
    exact cE_inj a.1.1 h0 a.2.1 hs a.2.2
  · obtain ⟨d3, x, hx, hxc, -⟩ := h.2.2.2 c h0 h1
    obtain ⟨s, hs, hmin⟩ := least_of (p := fun s => (0 ≤ s ∧ s < fst P) ∧ rg s = c) (f := fun s => if bk s < s then cE bk (bk s) else cE bk s) (fun s _ => by split <;> exact cE_0 _ _) _ x ⟨hx, hxc⟩ rfl
    have hx : ∃ s, (0 ≤ s ∧ s < fst P) ∧ rg s = c ∧ ∀ t, 0 ≤ t → t < fst P → rg t = c → (if bk s < s then cE bk (bk s) else cE bk s) ≤ (if bk t < t then cE bk (bk t) else cE bk t) := ⟨s, hs.1, hs.2, fun t a b q => hmin t ⟨⟨a, b⟩, q⟩⟩
    have a := Classical.epsilon_spec hx
    exact ⟨rfl, a.1, a.2.1, a.2.2⟩
section REF
variable {A : Net}
/-- where the plate of a corner begins -/
noncomputable def st (A : Net) (c : Int) : Int := nN A + (ct (fun s => A 3 s < c) (nN A).toNat : Int)
theorem st_0 (h : GC A) : st A 0 = nN A := by
  have hn := h.2.1.n0
  unfold st
  rw [(ct_zero (p := fun s => A 3 s < 0) _).mpr (fun i a b => by have := (h.b1 a (by omega)).1; omega)]
  omega
theorem st_s (h : GC A) (c : Int) : st A (c + 1) = st A c + (deg A c : Int) := by
  unfold st deg
  rw [ct_add (p := fun s => A 3 s < c) (q := fun s => A 3 s = c) (r := fun s => A 3 s < c + 1) _ (fun i _ _ => by constructor <;> omega)]
  omega
theorem st_C (h : GC A) : st A (A 0 0) = 2 * nN A := by
  have hn := h.2.1.n0
  unfold st
  rw [ct_full (p := fun s => A 3 s < A 0 0) _ (fun i a b => ((h.b1 a (by omega)).1).2)]
  omega
theorem st_mono (h : GC A) : ∀ (n : Nat) (c e : Int), (e - c).toNat = n → c ≤ e → st A c ≤ st A e := by
  intro n
  induction n with
  | zero => intro c e hn hc; obtain rfl : c = e := by omega
            omega
  | succ n ih =>
    intro c e hn hc
    have a := ih (c + 1) e (by omega) (by omega)
    have b := st_s h c
    omega
noncomputable def crn (A : Net) (s : Int) : Int := Classical.epsilon (fun c => (0 ≤ c ∧ c < A 0 0) ∧ st A c ≤ s ∧ s < st A (c + 1))
noncomputable def un (A : Net) (s : Int) : Int := it (rho A) (s - st A (crn A s)).toNat (A 9 (crn A s))
noncomputable def ps (A : Net) (u : Int) : Int := Classical.epsilon (fun t => ∃ k : Nat, k < deg A (A 3 u) ∧ it (rho A) k (A 9 (A 3 u)) = u ∧ t = st A (A 3 u) + k)
theorem crn_ex (h : GC A) : ∀ (n : Nat) (c s : Int), (A 0 0 - c).toNat = n → 0 ≤ c → c ≤ A 0 0 → st A c ≤ s → s < 2 * nN A → ∃ c, (0 ≤ c ∧ c < A 0 0) ∧ st A c ≤ s ∧ s < st A (c + 1) := by
  intro n
  induction n with
  | zero =>
    intro c s hn h0 hc h1 h2
    obtain rfl : c = A 0 0 := by omega
    rw [st_C h] at h1
    omega
  | succ n ih =>
    intro c s hn h0 hc h1 h2
    by_cases q : s < st A (c + 1)
    · exact ⟨c, by omega, h1, q⟩
    · exact ih (c + 1) s (by omega) (by omega) (by omega) (by omega) h2
theorem crn_s (h : GC A) {s : Int} (h0 : nN A ≤ s) (h1 : s < 2 * nN A) : (0 ≤ crn A s ∧ crn A s < A 0 0) ∧ st A (crn A s) ≤ s ∧ s < st A (crn A s + 1) :=
  Classical.epsilon_spec (crn_ex h _ 0 s rfl (by omega) h.1 (by rw [st_0 h]; exact h0) h1)
theorem crn_u (h : GC A) {c s : Int} (h0 : 0 ≤ c) (h1 : c < A 0 0) (h2 : st A c ≤ s) (h3 : s < st A (c + 1)) : crn A s = c := by
  have a : (0 ≤ crn A s ∧ crn A s < A 0 0) ∧ st A (crn A s) ≤ s ∧ s < st A (crn A s + 1) := Classical.epsilon_spec (p := fun c => (0 ≤ c ∧ c < A 0 0) ∧ st A c ≤ s ∧ s < st A (c + 1)) ⟨c, ⟨h0, h1⟩, h2, h3⟩
  rcases Int.lt_trichotomy (crn A s) c with q | q | q
  · have := st_mono h _ (crn A s + 1) c rfl (by omega); omega
  · exact q
  · have := st_mono h _ (c + 1) (crn A s) rfl (by omega); omega
/-- the k-th place of a corner's plate -/
theorem un_at (h : Good A) {c : Int} (h0 : 0 ≤ c) (h1 : c < A 0 0) {k : Nat} (hk : k < deg A c) : (nN A ≤ st A c + k ∧ st A c + k < 2 * nN A) ∧ crn A (st A c + k) = c ∧ un A (st A c + k) = it (rho A) k (A 9 c) := by
  have a := st_s h.1 c
  have b := st_mono h.1 _ 0 c rfl h0
  have d := st_mono h.1 _ (c + 1) (A 0 0) rfl (by omega)
  rw [st_0 h.1] at b
  rw [st_C h.1] at d
  have e := crn_u h.1 (s := st A c + k) h0 h1 (by omega) (by omega)
  refine ⟨by omega, e, ?_⟩
  unfold un
  rw [e, show (st A c + (k : Int) - st A c).toNat = k by omega]
theorem un_ex (h : Good A) {s : Int} (h0 : nN A ≤ s) (h1 : s < 2 * nN A) : ∃ (c : Int) (k : Nat), (0 ≤ c ∧ c < A 0 0) ∧ k < deg A c ∧ s = st A c + k ∧ un A s = it (rho A) k (A 9 c) := by
  have a := crn_s h.1 h0 h1
  have b := st_s h.1 (crn A s)
  exact ⟨crn A s, (s - st A (crn A s)).toNat, a.1, by omega, by omega, rfl⟩
theorem un_r (h : Good A) {s : Int} (h0 : nN A ≤ s) (h1 : s < 2 * nN A) : (0 ≤ un A s ∧ un A s < nN A) ∧ A 3 (un A s) = crn A s := by
  have a := crn_s h.1 h0 h1
  have b := h.door a.1.1 a.1.2
  have c := h.1.itr b.1.1 b.1.2 (s - st A (crn A s)).toNat
  exact ⟨c.1, c.2.trans b.2.1⟩
theorem ps_at (h : Good A) {u : Int} (h0 : 0 ≤ u) (h1 : u < nN A) : ∃ k : Nat, k < deg A (A 3 u) ∧ it (rho A) k (A 9 (A 3 u)) = u ∧ ps A u = st A (A 3 u) + k := by
  have a := h.1.b1 h0 h1
  have b := h.door a.1.1 a.1.2
  obtain ⟨k, hk, e⟩ := b.2.2.2.2.2.2 u h0 h1 rfl
  exact Classical.epsilon_spec (p := fun t => ∃ k : Nat, k < deg A (A 3 u) ∧ it (rho A) k (A 9 (A 3 u)) = u ∧ t = st A (A 3 u) + k) ⟨_, k, hk, e, rfl⟩
theorem un_ps (h : Good A) {u : Int} (h0 : 0 ≤ u) (h1 : u < nN A) : (nN A ≤ ps A u ∧ ps A u < 2 * nN A) ∧ un A (ps A u) = u := by
  have a := h.1.b1 h0 h1
  obtain ⟨k, hk, e, hp⟩ := ps_at h h0 h1
  have b := un_at h a.1.1 a.1.2 hk
  rw [hp]
  exact ⟨b.1, b.2.2.trans e⟩
theorem ps_un (h : Good A) {s : Int} (h0 : nN A ≤ s) (h1 : s < 2 * nN A) : ps A (un A s) = s := by
  obtain ⟨c, k, hc, hk, hs, hu⟩ := un_ex h h0 h1
  have a := un_r h h0 h1
  have b := h.door hc.1 hc.2
  have d := h.1.itr b.1.1 b.1.2 k
  have e3 : A 3 (un A s) = c := by rw [hu]; exact d.2.trans b.2.1
  obtain ⟨k', hk', e, hp⟩ := ps_at h a.1.1 a.1.2
  rw [e3] at hk' e hp
  rw [hu] at e
  have := h.1.apart b.1.1 b.1.2 b.2.2.2.2.1 k' k hk' hk e
  rw [hp, hs, this]
theorem rho_bk (h : GC A) {s : Int} (h0 : 0 ≤ s) (h1 : s < nN A) : rho A (nx A s) = A 5 s := by
  unfold rho
  rw [h.2.1.pvnx h0 h1]
end REF
end
section
/-- the next level -/
noncomputable def rfA (A : Net) : Net := fin (A 0 2) (A 0 1 + A 0 0) (fun i => if i < A 0 1 then A 2 i else st A (i - A 0 1)) (fun i => if i < nN A then A 6 i else A 6 (un A i)) (fun i => if i < nN A then A 4 i else A 0 1 + crn A i) (fun i => if i < nN A then ps A (nx A i) else pv A (un A i))
section RFA
variable {A : Net}
theorem rf_fst (h : GC A) {f : Int} (hf : f ≤ A 0 1) : rfA A 2 f = A 2 f := by
  show (if f < A 0 1 then A 2 f else st A (f - A 0 1)) = A 2 f
  by_cases q : f < A 0 1
  · rw [if_pos q]
  · rw [if_neg q]
    obtain rfl : f = A 0 1 := by omega
    rw [Int.sub_self, st_0 h]
    rfl
theorem rf_st (h : GC A) {c : Int} (hc : 0 ≤ c) : rfA A 2 (A 0 1 + c) = st A c := by
  show (if A 0 1 + c < A 0 1 then A 2 (A 0 1 + c) else st A (A 0 1 + c - A 0 1)) = st A c
  rw [if_neg (by omega)]
  congr 1
  omega
theorem rf_n (h : GC A) : nN (rfA A) = 2 * nN A := by
  show rfA A 2 (A 0 1 + A 0 0) = _
  rw [rf_st h h.1, st_C h]
theorem rf_3l {s : Int} (hs : s < nN A) : rfA A 3 s = A 6 s := if_pos hs
theorem rf_3h {s : Int} (hs : nN A ≤ s) : rfA A 3 s = A 6 (un A s) := if_neg (by omega)
theorem rf_4l {s : Int} (hs : s < nN A) : rfA A 4 s = A 4 s := if_pos hs
theorem rf_4h {s : Int} (hs : nN A ≤ s) : rfA A 4 s = A 0 1 + crn A s := if_neg (by omega)
theorem rf_5l {s : Int} (hs : s < nN A) : rfA A 5 s = ps A (nx A s) := if_pos hs
theorem rf_5h {s : Int} (hs : nN A ≤ s) : rfA A 5 s = pv A (un A s) := if_neg (by omega)
theorem rf_GP (h : Good A) : GP (rfA A) := by
  have hg := h.1.2.1
  have hC := h.1.1
  refine ⟨show 0 ≤ A 0 1 + A 0 0 by have := hg.1; omega, ?_, ?_, ?_⟩
  · rw [rf_fst h.1 hg.1]; exact hg.2.1
  · intro f h0 h1
    have h1 : f < A 0 1 + A 0 0 := h1
    by_cases q : f < A 0 1
    · rw [rf_fst h.1 (by omega), rf_fst h.1 (by omega)]
      exact hg.2.2.1 f h0 q
    · have e1 := rf_st h.1 (c := f - A 0 1) (by omega)
      have e2 := rf_st h.1 (c := f - A 0 1 + 1) (by omega)
      rw [show A 0 1 + (f - A 0 1) = f by omega] at e1
      rw [show A 0 1 + (f - A 0 1 + 1) = f + 1 by omega] at e2
      rw [e1, e2, st_s h.1]
      have := (h.door (c := f - A 0 1) (by omega) (by omega)).2.2.1
      omega
  · intro s h0 h1
    rw [rf_n h.1] at h1
    by_cases q : s < nN A
    · have a := hg.2.2.2 s h0 q
      rw [rf_4l q, rf_fst h.1 (by omega), rf_fst h.1 (by omega)]
      exact ⟨⟨a.1.1, show A 4 s < A 0 1 + A 0 0 by omega⟩, a.2⟩
    · have a := crn_s h.1 (s := s) (by omega) h1
      have hP := hg.1
      rw [rf_4h (by omega), rf_st h.1 a.1.1, show A 0 1 + crn A s + 1 = A 0 1 + (crn A s + 1) by omega, rf_st h.1 (by omega)]
      exact ⟨⟨by omega, show A 0 1 + crn A s < A 0 1 + A 0 0 by omega⟩, a.2⟩
theorem rf_nxl (h : Good A) {s : Int} (h0 : 0 ≤ s) (h1 : s < nN A) : nx (rfA A) s = nx A s := by
  have a := h.1.2.1.2.2.2 s h0 h1
  unfold nx nxF
  rw [rf_4l h1, rf_fst h.1 (by omega), rf_fst h.1 (by omega)]
theorem rf_pvl (h : Good A) {s : Int} (h0 : 0 ≤ s) (h1 : s < nN A) : pv (rfA A) s = pv A s := by
  have a := h.1.2.1.2.2.2 s h0 h1
  unfold pv pvF
  rw [rf_4l h1, rf_fst h.1 (by omega), rf_fst h.1 (by omega)]
/-- in a corner's plate the next step is the next one round it -/
theorem rf_nxh (h : Good A) {s : Int} (h0 : nN A ≤ s) (h1 : s < 2 * nN A) : (nN A ≤ nx (rfA A) s ∧ nx (rfA A) s < 2 * nN A) ∧ un A (nx (rfA A) s) = rho A (un A s) := by
  obtain ⟨c, k, hc, hk, hs, hu⟩ := un_ex h h0 h1
  have d := h.door hc.1 hc.2
  have e := un_at h hc.1 hc.2 hk
  have ec : crn A s = c := by rw [hs]; exact e.2.1
  have ss := st_s h.1 c
  have key : nx (rfA A) s = if s + 1 < st A (c + 1) then s + 1 else st A c := by
    unfold nx nxF
    rw [rf_4h h0, ec, rf_st h.1 hc.1, show A 0 1 + c + 1 = A 0 1 + (c + 1) by omega, rf_st h.1 (by omega)]
  rw [key]
  by_cases q : s + 1 < st A (c + 1)
  · rw [if_pos q]
    have e2 := un_at h hc.1 hc.2 (k := k + 1) (by omega)
    rw [hs, show st A c + (k : Int) + 1 = st A c + ((k + 1 : Nat) : Int) by omega]
    refine ⟨e2.1, ?_⟩
    rw [e2.2.2, e.2.2]
    rfl
  · rw [if_neg q]
    have e2 := un_at h hc.1 hc.2 (k := 0) (by omega)
    rw [show st A c = st A c + ((0 : Nat) : Int) by omega]
    refine ⟨e2.1, ?_⟩
    rw [e2.2.2, hu]
    have hkd : deg A c = k + 1 := by omega
    have r := d.2.2.2.2.2.1
    rw [hkd] at r
    exact r.symm
theorem rho_ne (h : GC A) {s : Int} (h0 : 0 ≤ s) (h1 : s < nN A) : rho A s ≠ s ∧ rho A (rho A s) ≠ s := by
  have a := h.all h0 h1
  exact ⟨a.2 1 (by omega) (by omega), a.2 2 (by omega) (by omega)⟩
theorem nx_ne_bk (h : GC A) {s : Int} (h0 : 0 ≤ s) (h1 : s < nN A) : nx A s ≠ A 5 s := by
  intro q
  have a := h.2.1.nxr h0 h1
  have b := (rho_ne h a.1.1 a.1.2).1
  rw [rho_bk h h0 h1] at b
  exact b q.symm
theorem Good.ll (h : Good A) {s t : Int} (h0 : 0 ≤ s) (h1 : s < nN A) (g0 : 0 ≤ t) (g1 : t < nN A) (e1 : A 6 s = A 6 t) (e2 : A 6 (nx A s) = A 6 (nx A t)) : s = t := by
  rcases h.eoe h0 h1 g0 g1 e1 with rfl | rfl
  · rfl
  · exfalso
    have b := h.1.b1 h0 h1
    have n1 := h.1.2.1.nxr h0 h1
    have n2 := h.1.2.1.nxr b.2.1.1 b.2.1.2
    rcases h.eoe n1.1.1 n1.1.2 n2.1.1 n2.1.2 e2 with q | q
    · have := h.1.2.1.pvnx h0 h1
      rw [← q, h.1.2.1.pvnx b.2.1.1 b.2.1.2] at this
      exact h.1.bne h0 h1 this
    · have c := h.1.b1 n1.1.1 n1.1.2
      have o1 := h.1.tgt h0 h1
      rw [q, c.2.2.2] at o1
      exact nx_ne_bk h.1 h0 h1 (h.1.u n1.1.1 n1.1.2 b.2.1.1 b.2.1.2 b.2.2.2.symm (o1.trans (h.1.tgt h0 h1).symm))
theorem Good.hh (h : Good A) {u v : Int} (h0 : 0 ≤ u) (h1 : u < nN A) (g0 : 0 ≤ v) (g1 : v < nN A) (e1 : A 6 u = A 6 v) (e2 : A 6 (rho A u) = A 6 (rho A v)) : u = v := by
  rcases h.eoe h0 h1 g0 g1 e1 with rfl | rfl
  · rfl
  · exfalso
    have b := h.1.b1 h0 h1
    have n1 := h.1.rh h0 h1
    have n2 := h.1.rh b.2.1.1 b.2.1.2
    rcases h.eoe n1.1.1 n1.1.2 n2.1.1 n2.1.2 e2 with q | q
    · exact h.1.bne h0 h1 (h.1.rhi b.2.1.1 b.2.1.2 h0 h1 q)
    · have c := h.1.b1 n1.1.1 n1.1.2
      have o1 := n2.2
      rw [q, c.2.2.2, b.2.2.2] at o1
      exact (rho_ne h.1 h0 h1).1 (h.1.u n1.1.1 n1.1.2 h0 h1 n1.2 o1)
theorem Good.lh (h : Good A) {s v : Int} (h0 : 0 ≤ s) (h1 : s < nN A) (g0 : 0 ≤ v) (g1 : v < nN A) (e1 : A 6 s = A 6 v) (e2 : A 6 (nx A s) = A 6 (rho A v)) : False := by
  have b := h.1.b1 h0 h1
  have n1 := h.1.2.1.nxr h0 h1
  have nb := h.1.b1 n1.1.1 n1.1.2
  have nl := h.1.nl h0 h1
  rcases h.eoe h0 h1 g0 g1 e1 with rfl | rfl
  · have n2 := h.1.rh g0 g1
    rcases h.eoe n1.1.1 n1.1.2 n2.1.1 n2.1.2 e2 with q | q
    · rw [q] at n2; exact nl n2.2
    · have t1 := h.1.tgt n1.1.1 n1.1.2
      rw [← q] at t1
      exact (rho_ne h.1 g0 g1).1 (h.1.u n2.1.1 n2.1.2 g0 g1 n2.2 t1)
  · have n2 := h.1.rh g0 g1
    rcases h.eoe n1.1.1 n1.1.2 n2.1.1 n2.1.2 e2 with q | q
    · have r := rho_bk h.1 h0 h1
      rw [← q] at r
      exact (rho_ne h.1 g0 g1).2 r
    · have o := n2.2
      rw [q, nb.2.2.2, b.2.2.2] at o
      exact h.1.nl n1.1.1 n1.1.2 o
theorem rf_GB (h : Good A) : GB (rfA A) := by
  have hn := rf_n h.1
  have g := h.1
  have side : ∀ s, 0 ≤ s → s < nN A → rfA A 3 (nx (rfA A) s) = A 6 (nx A s) := fun s h0 h1 => by
    rw [rf_nxl h h0 h1, rf_3l (g.2.1.nxr h0 h1).1.2]
  have sideh : ∀ s, nN A ≤ s → s < 2 * nN A → rfA A 3 (nx (rfA A) s) = A 6 (rho A (un A s)) := fun s h0 h1 => by
    have a := rf_nxh h h0 h1
    rw [rf_3h a.1.1, a.2]
  refine ⟨fun s h0 h1 => ?_, fun s t h0 h1 g0 g1 e1 e2 => ?_, fun s h0 h1 => ?_⟩
  · rw [hn] at h1
    show (0 ≤ rfA A 3 s ∧ rfA A 3 s < A 0 2) ∧ (0 ≤ rfA A 5 s ∧ rfA A 5 s < nN (rfA A)) ∧ rfA A 5 (rfA A 5 s) = s ∧ rfA A 3 (rfA A 5 s) = rfA A 3 (nx (rfA A) s)
    rw [hn]
    by_cases q : s < nN A
    · have a := g.2.1.nxr h0 q
      have b := un_ps h a.1.1 a.1.2
      rw [rf_5l q, rf_3l q, rf_5h b.1.1, b.2, rf_3h b.1.1, b.2, side s h0 q, g.2.1.pvnx h0 q]
      exact ⟨h.eor h0 q, by omega, rfl, rfl⟩
    · have a := un_r h (s := s) (by omega) h1
      have b := g.2.1.pvr a.1.1 a.1.2
      rw [rf_5h (by omega), rf_3h (by omega), rf_5l b.1.2, g.2.1.nxpv a.1.1 a.1.2, ps_un h (by omega) h1, rf_3l b.1.2, sideh s (by omega) h1]
      refine ⟨h.eor a.1.1 a.1.2, by omega, rfl, ?_⟩
      show A 6 (pv A (un A s)) = A 6 (A 5 (pv A (un A s)))
      rw [h.eob b.1.1 b.1.2]
  · rw [hn] at h1 g1
    by_cases q : s < nN A
    · by_cases r : t < nN A
      · rw [rf_3l q, rf_3l r] at e1
        rw [side s h0 q, side t g0 r] at e2
        exact h.ll h0 q g0 r e1 e2
      · exfalso
        have a := un_r h (s := t) (by omega) g1
        rw [rf_3l q, rf_3h (by omega)] at e1
        rw [side s h0 q, sideh t (by omega) g1] at e2
        exact h.lh h0 q a.1.1 a.1.2 e1 e2
    · have a := un_r h (s := s) (by omega) h1
      by_cases r : t < nN A
      · exfalso
        rw [rf_3h (by omega), rf_3l r] at e1
        rw [sideh s (by omega) h1, side t g0 r] at e2
        exact h.lh g0 r a.1.1 a.1.2 e1.symm e2.symm
      · have b := un_r h (s := t) (by omega) g1
        rw [rf_3h (by omega), rf_3h (by omega)] at e1
        rw [sideh s (by omega) h1, sideh t (by omega) g1] at e2
        have e := h.hh a.1.1 a.1.2 b.1.1 b.1.2 e1 e2
        rw [← ps_un h (s := s) (by omega) h1, ← ps_un h (s := t) (by omega) g1, e]
  · rw [hn] at h1
    by_cases q : s < nN A
    · rw [side s h0 q, rf_3l q]
      intro e
      have a := g.2.1.nxr h0 q
      rcases h.eoe a.1.1 a.1.2 h0 q e with z | z
      · exact a.2.2.1 z.symm
      · have b := (g.b1 a.1.1 a.1.2).2.2.1
        rw [← z] at b
        exact nx_ne_bk g h0 q b.symm
    · have a := un_r h (s := s) (by omega) h1
      rw [sideh s (by omega) h1, rf_3h (by omega)]
      intro e
      have b := g.rh a.1.1 a.1.2
      rcases h.eoe a.1.1 a.1.2 b.1.1 b.1.2 e.symm with z | z
      · exact (rho_ne g a.1.1 a.1.2).1 z
      · have c := b.2
        rw [z, (g.b1 a.1.1 a.1.2).2.2.2] at c
        exact g.nl a.1.1 a.1.2 c
/-- round a corner of the next level: four steps -/
theorem rf_rho (h : Good A) {s : Int} (h0 : 0 ≤ s) (h1 : s < nN A) : rho (rfA A) s = ps A s ∧ rho (rfA A) (ps A s) = A 5 s := by
  have g := h.1
  have a := g.2.1.pvr h0 h1
  have b := un_ps h h0 h1
  have G := rf_GP h
  have hn := rf_n g
  constructor
  · unfold rho
    rw [rf_pvl h h0 h1, rf_5l a.1.2, g.2.1.nxpv h0 h1]
  · unfold rho
    have c := G.pvr (s := ps A s) (by omega) (by omega)
    have d := G.nxpv (s := ps A s) (by omega) (by omega)
    have hw : nN A ≤ pv (rfA A) (ps A s) := by
      apply Classical.byContradiction
      intro q
      have e := rf_nxl h c.1.1 (show pv (rfA A) (ps A s) < nN A by omega)
      have e2 := g.2.1.nxr c.1.1 (show pv (rfA A) (ps A s) < nN A by omega)
      rw [d] at e
      omega
    have e := rf_nxh h hw (by omega)
    rw [d, b.2] at e
    have f := un_r h hw (by omega)
    rw [rf_5h hw]
    have k := g.2.1.pvr f.1.1 f.1.2
    have k2 := (g.b1 k.1.1 k.1.2).2.2.1
    have e3 : s = A 5 (pv A (un A (pv (rfA A) (ps A s)))) := e.2
    rw [← e3] at k2
    exact k2.symm
theorem rf_GR (h : Good A) : GR (rfA A) := by
  intro e e0 e1
  have e1 : e < A 0 2 := e1
  have g := h.1
  have m := h.mt e0 e1
  have hn := rf_n g
  generalize hs : A 7 e = s at m
  have b := g.b1 m.1.1 m.1.2
  have p1 := un_ps h m.1.1 m.1.2
  have p2 := un_ps h b.2.1.1 b.2.1.2
  have bne := g.bne m.1.1 m.1.2
  have eb := h.eob m.1.1 m.1.2
  have pne : ps A s ≠ ps A (A 5 s) := fun q => by rw [q, p2.2] at p1; exact bne p1.2
  have hle : deg (rfA A) e ≤ 4 := by
    refine ct_cov _ 4 (fun i => match i with | 0 => s | 1 => A 5 s | 2 => ps A s | _ => ps A (A 5 s)) (fun t t0 t1 ht => ?_)
    by_cases q : t < nN A
    · rw [rf_3l q] at ht
      rcases h.eoe m.1.1 m.1.2 t0 q (by rw [ht]; exact m.2.2.1) with z | z
      · exact ⟨0, by omega, z.symm⟩
      · exact ⟨1, by omega, z.symm⟩
    · have a := un_r h (s := t) (by omega) (by omega)
      rw [rf_3h (by omega)] at ht
      rcases h.eoe m.1.1 m.1.2 a.1.1 a.1.2 (by rw [ht]; exact m.2.2.1) with z | z
      · exact ⟨2, by omega, by show ps A s = t; rw [← z, ps_un h (by omega) (by omega)]⟩
      · exact ⟨3, by omega, by show ps A (A 5 s) = t; rw [← z, ps_un h (by omega) (by omega)]⟩
  have hge : 3 ≤ deg (rfA A) e := by
    refine ct_inj _ 3 (fun i => match i with | 0 => s | 1 => A 5 s | _ => ps A s) (fun i hi => ?_) (fun i j hi hj q => ?_)
    · match i, hi with
      | 0, _ => exact ⟨by show 0 ≤ s ∧ s < _; omega, by show rfA A 3 s = e; rw [rf_3l m.1.2]; exact m.2.2.1⟩
      | 1, _ => exact ⟨by show 0 ≤ A 5 s ∧ A 5 s < _; omega, by show rfA A 3 (A 5 s) = e; rw [rf_3l b.2.1.2, eb]; exact m.2.2.1⟩
      | 2, _ => exact ⟨by show 0 ≤ ps A s ∧ ps A s < _; omega, by show rfA A 3 (ps A s) = e; rw [rf_3h p1.1.1, p1.2]; exact m.2.2.1⟩
    · match i, j, hi, hj, q with
      | 0, 0, _, _, _ => rfl
      | 0, 1, _, _, q => exact absurd (show s = A 5 s from q).symm bne
      | 0, 2, _, _, q => have : s = ps A s := q
                         omega
      | 1, 0, _, _, q => exact absurd (show A 5 s = s from q) bne
      | 1, 1, _, _, _ => rfl
      | 1, 2, _, _, q => have : A 5 s = ps A s := q
                         omega
      | 2, 0, _, _, q => have : ps A s = s := q
                         omega
      | 2, 1, _, _, q => have : ps A s = A 5 s := q
                         omega
      | 2, 2, _, _, _ => rfl
  have r1 := rf_rho h m.1.1 m.1.2
  have r2 := rf_rho h b.2.1.1 b.2.1.2
  refine ⟨hge, s, ⟨m.1.1, by omega⟩, by rw [rf_3l m.1.2]; exact m.2.2.1, fun k k0 k1 => ?_⟩
  have e1 : it (rho (rfA A)) 1 s = ps A s := r1.1
  have e2 : it (rho (rfA A)) 2 s = A 5 s := by show rho (rfA A) (it (rho (rfA A)) 1 s) = _; rw [e1]; exact r1.2
  have e3 : it (rho (rfA A)) 3 s = ps A (A 5 s) := by show rho (rfA A) (it (rho (rfA A)) 2 s) = _; rw [e2]; exact r2.1
  rcases (show k = 1 ∨ k = 2 ∨ k = 3 by omega) with rfl | rfl | rfl
  · rw [e1]; omega
  · rw [e2]; exact bne
  · rw [e3]; omega
theorem rf_good (h : Good A) : Good (rfA A) := by
  refine fin_good ⟨?_, rf_GP h, rf_GB h, rf_GR h⟩
  show 0 ≤ A 0 2
  rw [h.2.1.1]
  exact cE_0 _ _
end RFA
end
section
/-! WHAT IS WRONG WITH A NET -/
def sst (A : Net) (s t : Int) : Prop := A 3 s = A 3 t ∧ A 3 (nx A s) = A 3 (nx A t)
def bks (A : Net) (s t : Int) : Prop := A 3 t = A 3 (nx A s) ∧ A 3 (nx A t) = A 3 s
def fTw (A : Net) (f : Int) : Prop := ∃ s t, A 2 f ≤ t ∧ t < s ∧ s < A 2 (f + 1) ∧ A 3 s = A 3 t
def fDb (A : Net) (f : Int) : Prop := ∃ s t, 0 ≤ t ∧ t < s ∧ s < nN A ∧ A 4 s = f ∧ sst A s t
def fOp (A : Net) (f : Int) : Prop := ∃ s, 0 ≤ s ∧ s < nN A ∧ A 4 s = f ∧ ∀ t, 0 ≤ t → t < nN A → ¬ bks A s t
def fLo (A : Net) (c : Int) : Prop := deg A c = 0
/-- the step back, where there is one -/
noncomputable def bkr (A : Net) (s : Int) : Int := Classical.epsilon (fun t => (0 ≤ t ∧ t < nN A) ∧ bks A s t)
/-- the net of a base -/
noncomputable def bN (A : Net) : Net := fin (A 0 0) (A 0 1) (A 2) (A 3) (A 4) (bkr A)
def fPi (A : Net) (c : Int) : Prop := ¬ ∃ x, (0 ≤ x ∧ x < nN A) ∧ A 3 x = c ∧ ∀ k, 0 < k → k < deg A c → it (rho (bN A)) k x ≠ x
def fTh (A : Net) (c : Int) : Prop := deg A c = 2
/-- the first place with a property -/
def Fi (p : Int → Prop) (n r : Int) : Prop := (0 ≤ r ∧ r < n) ∧ p r ∧ ∀ i, 0 ≤ i → i < r → ¬ p i
def No (p : Int → Prop) (n : Int) : Prop := ∀ i, 0 ≤ i → i < n → ¬ p i
theorem Fi.no {p : Int → Prop} {n r : Int} (h : Fi p n r) (g : No p n) : False := g r h.1.1 h.1.2 h.2.1
theorem Fi.uq {p : Int → Prop} {n r q : Int} (h : Fi p n r) (g : Fi p n q) : r = q := by
  rcases Int.lt_trichotomy r q with z | z | z
  · exact absurd h.2.1 (g.2.2 r h.1.1 z)
  · exact z
  · exact absurd g.2.1 (h.2.2 q g.1.1 z)
def IsF (A : Net) (k p : Int) : Prop :=
  (A 0 1 = 0 ∧ k = 1 ∧ p = -1) ∨ (A 0 1 ≠ 0 ∧ ((k = 2 ∧ Fi (fTw A) (A 0 1) p) ∨ (No (fTw A) (A 0 1) ∧ ((k = 3 ∧ Fi (fDb A) (A 0 1) p) ∨ (No (fDb A) (A 0 1) ∧ ((k = 4 ∧ Fi (fOp A) (A 0 1) p) ∨ (No (fOp A) (A 0 1) ∧ ((k = 5 ∧ Fi (fLo A) (A 0 0) p) ∨ (No (fLo A) (A 0 0) ∧ ((k = 6 ∧ Fi (fPi A) (A 0 0) p) ∨ (No (fPi A) (A 0 0) ∧ ((k = 7 ∧ Fi (fTh A) (A 0 0) p) ∨ (No (fTh A) (A 0 0) ∧ k = 0 ∧ p = -1)))))))))))))
theorem IsF.uq {A : Net} {k p k' p' : Int} (h : IsF A k p) (g : IsF A k' p') : k = k' ∧ p = p' := by
  rcases h with ⟨a, b, c⟩ | ⟨a, h⟩ <;> rcases g with ⟨a', b', c'⟩ | ⟨a', g⟩
  · omega
  · exact absurd a a'
  · exact absurd a' a
  rcases h with ⟨b, c⟩ | ⟨a, h⟩ <;> rcases g with ⟨b', c'⟩ | ⟨a', g⟩
  · exact ⟨b.trans b'.symm, c.uq c'⟩
  · exact (c.no a').elim
  · exact (c'.no a).elim
  rcases h with ⟨b, c⟩ | ⟨a, h⟩ <;> rcases g with ⟨b', c'⟩ | ⟨a', g⟩
  · exact ⟨b.trans b'.symm, c.uq c'⟩
  · exact (c.no a').elim
  · exact (c'.no a).elim
  rcases h with ⟨b, c⟩ | ⟨a, h⟩ <;> rcases g with ⟨b', c'⟩ | ⟨a', g⟩
  · exact ⟨b.trans b'.symm, c.uq c'⟩
  · exact (c.no a').elim
  · exact (c'.no a).elim
  rcases h with ⟨b, c⟩ | ⟨a, h⟩ <;> rcases g with ⟨b', c'⟩ | ⟨a', g⟩
  · exact ⟨b.trans b'.symm, c.uq c'⟩
  · exact (c.no a').elim
  · exact (c'.no a).elim
  rcases h with ⟨b, c⟩ | ⟨a, h⟩ <;> rcases g with ⟨b', c'⟩ | ⟨a', g⟩
  · exact ⟨b.trans b'.symm, c.uq c'⟩
  · exact (c.no a').elim
  · exact (c'.no a).elim
  rcases h with ⟨b, c⟩ | ⟨a, h⟩ <;> rcases g with ⟨b', c'⟩ | ⟨a', g⟩
  · exact ⟨b.trans b'.symm, c.uq c'⟩
  · exact (c.no a').elim
  · exact (c'.no a).elim
  · exact ⟨h.1.trans g.1.symm, h.2.trans g.2.symm⟩
/-- a base: plates in order, rings of corners -/
def Bas (A : Net) : Prop := 0 ≤ A 0 0 ∧ GP A ∧ ∀ s, 0 ≤ s → s < nN A → 0 ≤ A 3 s ∧ A 3 s < A 0 0
section BASE
variable {A : Net}
theorem bN_n : nN (bN A) = nN A := rfl
theorem bN_nx (s : Int) : nx (bN A) s = nx A s := rfl
theorem bN_pv (s : Int) : pv (bN A) s = pv A s := rfl
theorem bN_deg (c : Int) : deg (bN A) c = deg A c := rfl
theorem no_tw (h : Bas A) (n2 : No (fTw A) (A 0 1)) {s t : Int} (h0 : 0 ≤ s) (h1 : s < nN A) (g0 : 0 ≤ t) (g1 : t < nN A) (e : A 4 s = A 4 t) (e3 : A 3 s = A 3 t) : s = t := by
  have a := h.2.1.2.2.2 s h0 h1
  have b := h.2.1.2.2.2 t g0 g1
  rw [← e] at b
  rcases Int.lt_trichotomy s t with q | q | q
  · exact absurd ⟨t, s, a.2.1, q, b.2.2, e3.symm⟩ (n2 (A 4 s) a.1.1 a.1.2)
  · exact q
  · exact absurd ⟨s, t, b.2.1, q, a.2.2, e3⟩ (n2 (A 4 s) a.1.1 a.1.2)
theorem no_db (h : Bas A) (n3 : No (fDb A) (A 0 1)) {s t : Int} (h0 : 0 ≤ s) (h1 : s < nN A) (g0 : 0 ≤ t) (g1 : t < nN A) (e : sst A s t) : s = t := by
  have a := h.2.1.2.2.2 s h0 h1
  have b := h.2.1.2.2.2 t g0 g1
  rcases Int.lt_trichotomy s t with q | q | q
  · exact absurd ⟨t, s, h0, q, g1, rfl, e.1.symm, e.2.symm⟩ (n3 (A 4 t) b.1.1 b.1.2)
  · exact q
  · exact absurd ⟨s, t, g0, q, h1, rfl, e⟩ (n3 (A 4 s) a.1.1 a.1.2)
theorem bkr_s (h : Bas A) (n4 : No (fOp A) (A 0 1)) {s : Int} (h0 : 0 ≤ s) (h1 : s < nN A) : (0 ≤ bkr A s ∧ bkr A s < nN A) ∧ bks A s (bkr A s) := by
  have a := h.2.1.2.2.2 s h0 h1
  apply Classical.epsilon_spec (p := fun t => (0 ≤ t ∧ t < nN A) ∧ bks A s t)
  apply Classical.byContradiction
  intro q
  exact n4 (A 4 s) a.1.1 a.1.2 ⟨s, h0, h1, rfl, fun t t0 t1 z => q ⟨t, ⟨t0, t1⟩, z⟩⟩
theorem bkr_u (h : Bas A) (n3 : No (fDb A) (A 0 1)) (n4 : No (fOp A) (A 0 1)) {s t : Int} (h0 : 0 ≤ s) (h1 : s < nN A) (g0 : 0 ≤ t) (g1 : t < nN A) (e : bks A s t) : bkr A s = t := by
  have a := bkr_s h n4 h0 h1
  exact no_db h n3 a.1.1 a.1.2 g0 g1 ⟨a.2.1.trans e.1.symm, a.2.2.trans e.2.symm⟩
theorem bN_GB (h : Bas A) (n2 : No (fTw A) (A 0 1)) (n3 : No (fDb A) (A 0 1)) (n4 : No (fOp A) (A 0 1)) : GB (bN A) := by
  refine ⟨fun s h0 h1 => ?_, fun s t h0 h1 g0 g1 e1 e2 => no_db h n3 h0 h1 g0 g1 ⟨e1, e2⟩, fun s h0 h1 e => ?_⟩
  · have a := bkr_s h n4 h0 h1
    exact ⟨h.2.2 s h0 h1, a.1, bkr_u h n3 n4 a.1.1 a.1.2 h0 h1 ⟨a.2.2.symm, a.2.1.symm⟩, a.2.1⟩
  · have a := h.2.1.nxr h0 h1
    exact a.2.2.1 (no_tw h n2 a.1.1 a.1.2 h0 h1 a.2.1 e)
theorem bN_good (h : Bas A) (n2 : No (fTw A) (A 0 1)) (n3 : No (fDb A) (A 0 1)) (n4 : No (fOp A) (A 0 1)) (n5 : No (fLo A) (A 0 0)) (n6 : No (fPi A) (A 0 0)) (n7 : No (fTh A) (A 0 0)) : Good (bN A) := by
  have gb := bN_GB h n2 n3 n4
  refine fin_good ⟨h.1, h.2.1, gb, fun c h0 h1 => ?_⟩
  have a := n5 c h0 h1
  have b := n7 c h0 h1
  have d := n6 c h0 h1
  have hx := Classical.not_not.mp d
  refine ⟨?_, hx⟩
  apply Classical.byContradiction
  intro q
  have d1 : deg A c = 1 := by
    have q : ¬ 3 ≤ deg A c := q
    have a : ¬ deg A c = 0 := a
    have b : ¬ deg A c = 2 := b
    omega
  obtain ⟨s, hs, hc, -⟩ := hx
  have p := h.2.1.pvr hs.1 hs.2
  have n := h.2.1.nxr hs.1 hs.2
  have bp := bkr_s h n4 p.1.1 p.1.2
  have b1 := bp.2.1
  rw [h.2.1.nxpv hs.1 hs.2, hc] at b1
  have e : bkr A (pv A s) = s := by
    apply Classical.byContradiction
    intro z
    have := ct_inj (p := fun s => A 3 s = c) (nN A).toNat 2 (fun i => if i = 0 then s else bkr A (pv A s)) (fun i hi => by
      show (0 ≤ (if i = 0 then s else bkr A (pv A s)) ∧ (if i = 0 then s else bkr A (pv A s)) < _) ∧ A 3 (if i = 0 then s else bkr A (pv A s)) = c
      split
      · exact ⟨by omega, hc⟩
      · exact ⟨by omega, b1⟩) (fun i j hi hj r => by
      have r : (if i = 0 then s else bkr A (pv A s)) = (if j = 0 then s else bkr A (pv A s)) := r
      by_cases i0 : i = 0
      · by_cases j0 : j = 0
        · omega
        · rw [if_pos i0, if_neg j0] at r; exact absurd r.symm z
      · by_cases j0 : j = 0
        · rw [if_neg i0, if_pos j0] at r; exact absurd r z
        · omega)
    have d1 : ct (fun s => A 3 s = c) (nN A).toNat = 1 := d1
    omega
  have t := bp.2.2
  rw [e] at t
  have e4 := no_tw h n2 n.1.1 n.1.2 p.1.1 p.1.2 (n.2.1.trans p.2.1.symm) t
  have x := h.2.1.nx2 p.1.1 p.1.2
  rw [h.2.1.nxpv hs.1 hs.2] at x
  exact x e4
/-- no fault: a good net -/
theorem IsF.good (h : Bas A) {p : Int} (f : IsF A 0 p) : Good (bN A) ∧ A 0 1 ≠ 0 := by
  rcases f with ⟨a, b, c⟩ | ⟨a, f⟩
  · omega
  rcases f with ⟨b, c⟩ | ⟨n2, f⟩
  · omega
  rcases f with ⟨b, c⟩ | ⟨n3, f⟩
  · omega
  rcases f with ⟨b, c⟩ | ⟨n4, f⟩
  · omega
  rcases f with ⟨b, c⟩ | ⟨n5, f⟩
  · omega
  rcases f with ⟨b, c⟩ | ⟨n6, f⟩
  · omega
  rcases f with ⟨b, c⟩ | ⟨n7, f⟩
  · omega
  exact ⟨bN_good h n2 n3 n4 n5 n6 n7, a⟩
end BASE
/-- the levels of a base -/
noncomputable def lev (A : Net) : Nat → Net
  | 0 => bN A
  | l + 1 => rfA (lev A l)
theorem lev_good {A : Net} (h : Good (bN A)) : ∀ l, Good (lev A l)
  | 0 => h
  | l + 1 => rf_good (lev_good h l)
end
section
theorem cE_s {bk : Int → Int} {s : Int} (h0 : 0 ≤ s) : (fm bk s → cE bk (s + 1) = cE bk s + 1) ∧ (¬ fm bk s → cE bk (s + 1) = cE bk s) := by
  unfold cE
  rw [show (s + 1).toNat = s.toNat + 1 by omega]
  constructor
  · intro h
    rw [ct_t (by rw [Int.toNat_of_nonneg h0]; exact h)]
    omega
  · intro h
    rw [ct_f (by rw [Int.toNat_of_nonneg h0]; exact h)]
/-- the edge of a step, by its step back -/
noncomputable def eoF (bk : Int → Int) (s : Int) : Int := if bk s < s then cE bk (bk s) else cE bk s
theorem fr_set {P : Nat → Int → Int → Prop} {μ ν : Mm} {k0 : Nat} {l0 i0 v : Int} (h : ∀ k l i, ¬ P k l i → ν k l i = μ k l i) (hp : P k0 l0 i0) : ∀ k l i, ¬ P k l i → mset ν k0 l0 i0 v k l i = μ k l i := by
  intro k l i hn
  rw [mset_ne (fun q => hn (by rw [q.1, q.2.1, q.2.2]; exact hp))]
  exact h k l i hn

set_option maxRecDepth 100000 in
set_option maxHeartbeats 4000000 in
theorem l_numberEdges {μ : Mm} {l : Int} (hP : 0 ≤ μ 11 l 1 ∧ μ 11 l 1 ≤ capP l) (hn : 0 ≤ μ 13 l (μ 11 l 1) ∧ μ 13 l (μ 11 l 1) ≤ 2 * capE l) (hb : ∀ s, 0 ≤ s → s < μ 13 l (μ 11 l 1) → (0 ≤ μ 16 l s ∧ μ 16 l s < μ 13 l (μ 11 l 1)) ∧ μ 16 l (μ 16 l s) = s ∧ μ 16 l s ≠ s) (hcap : cE (μ 16 l) (μ 13 l (μ 11 l 1)) ≤ capE l) : ∀ (q : Nat) (s : Int) (ν : Mm), (μ 13 l (μ 11 l 1) - s).toNat = q → 0 ≤ s → s ≤ μ 13 l (μ 11 l 1) → (∀ k l1 i, ¬ (l1 = l ∧ (k = 17 ∨ k = 18 ∨ k = 11 ∧ i = 2)) → ν k l1 i = μ k l1 i) → ν 11 l 2 = cE (μ 16 l) s → (∀ t, 0 ≤ t → t < s → ν 17 l t = eoF (μ 16 l) t) → (∀ t, 0 ≤ t → t < s → fm (μ 16 l) t → ν 18 l (cE (μ 16 l) t) = t) → Ev mX2_numberEdges 1 7 [some (vR 11 l), some (vI s)] [] ν (fun r μ' => r = none ∧ (∀ k l1 i, ¬ (l1 = l ∧ (k = 17 ∨ k = 18 ∨ k = 11 ∧ i = 2)) → μ' k l1 i = μ k l1 i) ∧ μ' 11 l 2 = cE (μ 16 l) (μ 13 l (μ 11 l 1)) ∧ (∀ t, 0 ≤ t → t < μ 13 l (μ 11 l 1) → μ' 17 l t = eoF (μ 16 l) t) ∧ (∀ t, 0 ≤ t → t < μ 13 l (μ 11 l 1) → fm (μ 16 l) t → μ' 18 l (cE (μ 16 l) t) = t)) := by
  intro q
  induction q using Nat.strongRecOn with
  | _ q ih =>
  intro s ν hq h0 h1 fr hE h6 h7
  have hCc := capC_in l
  have hCp := capP_in l
  have hCe := capE_in l
  refine e_iload_n 1 (dec_at dX2_numberEdges 5) rfl rfl ?_
  refine e_aload_n 0 (dec_at dX2_numberEdges 6) rfl rfl ?_
  refine e_callVr (M' := mX2_steps) (dec_at dX2_numberEdges 7) mlX2_53 ((c_steps (μ := ν) l (by rw [fr 11 l 1 (by omega)]; exact hP)).rt (r' := some (vI (μ 13 l (μ 11 l 1)))) (by rw [fr 11 l 1 (by omega), fr 13 l _ (by omega)]) rfl) oX2_steps iX2_steps rfl rfl rfl rfl (by decide) (by decide) (Nat.le_of_ble_eq_true rfl) ?_
  refine e_icmp_ge 81 (dec_at dX2_numberEdges 8) (by decide) (by omega) (by omega) (fun h12 => ?_) (fun h12 => ?_)
  · refine e_return (dec_at dX2_numberEdges 47) rfl ?_
    obtain rfl : s = μ 13 l (μ 11 l 1) := by omega
    exact ⟨rfl, fr, hE, h6, h7⟩
  · have hbs := hb s h0 (by omega)
    have hs1 := cE_s (bk := μ 16 l) h0
    refine e_aload_n 0 (dec_at dX2_numberEdges 9) rfl rfl ?_
    refine e_getr 7 (dec_at dX2_numberEdges 10) flX2_24 rfl rfl ?_
    refine e_iload_n 1 (dec_at dX2_numberEdges 11) rfl rfl ?_
    refine e_ialdv (μ 16 l s) (dec_at dX2_numberEdges 12) rfl (by decide) (aLk_16 _) (by omega) (by exact fr 16 l s (by omega)) (fun r20 => ?_)
    refine e_iload_n 1 (dec_at dX2_numberEdges 13) rfl rfl ?_
    refine e_icmp_ge 45 (dec_at dX2_numberEdges 14) (by decide) (by omega) (by omega) (fun h22 => ?_) (fun h22 => ?_)
    · have hfm : fm (μ 16 l) s := by unfold fm; omega
      have hlt := cE_lt (bk := μ 16 l) h0 (show s < μ 13 l (μ 11 l 1) by omega) hfm
      have hc0 := cE_0 (μ 16 l) s
      have hs2 := hs1.1 hfm
      refine e_aload_n 0 (dec_at dX2_numberEdges 27) rfl rfl ?_
      refine e_getr 8 (dec_at dX2_numberEdges 28) flX2_27 rfl rfl ?_
      refine e_iload_n 1 (dec_at dX2_numberEdges 29) rfl rfl ?_
      refine e_aload_n 0 (dec_at dX2_numberEdges 30) rfl rfl ?_
      refine e_getiv 2 2 (cE (μ 16 l) s) (dec_at dX2_numberEdges 31) flX2_61 rfl rfl rfl (by exact hE) (fun r51 => ?_)
      refine e_iast (dec_at dX2_numberEdges 32) rfl (by decide) (aLk_17 _) (by omega) (by omega) ?_
      refine e_aload_n 0 (dec_at dX2_numberEdges 33) rfl rfl ?_
      refine e_getr 9 (dec_at dX2_numberEdges 34) flX2_30 rfl rfl ?_
      refine e_aload_n 0 (dec_at dX2_numberEdges 35) rfl rfl ?_
      refine e_getiv 2 2 (cE (μ 16 l) s) (dec_at dX2_numberEdges 36) flX2_61 rfl rfl rfl (by rw [mset_k (by decide)]; exact hE) (fun r60 => ?_)
      refine e_iload_n 1 (dec_at dX2_numberEdges 37) rfl rfl ?_
      refine e_iast (dec_at dX2_numberEdges 38) rfl (by decide) (aLk_18 _) (by omega) (by omega) ?_
      refine e_aload_n 0 (dec_at dX2_numberEdges 39) rfl rfl ?_
      refine e_dup (dec_at dX2_numberEdges 40) rfl ?_
      refine e_getiv 2 2 (cE (μ 16 l) s) (dec_at dX2_numberEdges 41) flX2_61 rfl rfl rfl (by rw [mset_k (by decide), mset_k (by decide)]; exact hE) (fun r67 => ?_)
      refine e_iconst (dec_at dX2_numberEdges 42) ?_
      refine e_iadd (dec_at dX2_numberEdges 43) ?_
      refine e_put 2 2 (dec_at dX2_numberEdges 44) flX2_61 fpX2_2 rfl rfl rfl (by omega) (fit_int _) ?_
      refine e_ii1 (dec_at dX2_numberEdges 45) (by decide) rfl ?_
      refine e_goto 7 (dec_at dX2_numberEdges 46) (by decide) ?_
      first
      | refine ih _ (by omega) (s + 1) _ rfl (by omega) (by omega) (fr_set fr (by omega)) (by rw [mset_k (by decide), hE, hs2]) (fun t a b => ?_) (fun t a b c => ?_)
        · by_cases q : t = s
          · subst q; rw [mset_eq]; unfold eoF; rw [if_pos (by omega)]
          · rw [mset_i q]; exact h6 t a (by omega)
        · by_cases q : t = s
          · subst q; exact absurd c hfm
          · rw [mset_k (by decide)]; exact h7 t a (by omega) c
      | refine ih _ (by omega) (s + 1) _ rfl (by omega) (by omega) (fr_set (fr_set (fr_set fr (by omega)) (by omega)) (by omega)) (by rw [mset_eq, hs2]) (fun t a b => ?_) (fun t a b c => ?_)
        · rw [mset_k (by decide), mset_k (by decide)]
          by_cases q : t = s
          · subst q; rw [mset_eq]; unfold eoF; rw [if_neg (by omega)]
          · rw [mset_i q]; exact h6 t a (by omega)
        · rw [mset_k (by decide)]
          by_cases q : t = s
          · subst q; rw [mset_eq]
          · rw [mset_i (fun z => q (cE_inj a h0 c hfm z)), mset_k (by decide)]
            exact h7 t a (by omega) c
    · have hfm : ¬ fm (μ 16 l) s := by unfold fm; omega
      have hs2 := hs1.2 hfm
      refine e_aload_n 0 (dec_at dX2_numberEdges 15) rfl rfl ?_
      refine e_getr 8 (dec_at dX2_numberEdges 16) flX2_27 rfl rfl ?_
      refine e_iload_n 1 (dec_at dX2_numberEdges 17) rfl rfl ?_
      refine e_aload_n 0 (dec_at dX2_numberEdges 18) rfl rfl ?_
      refine e_getr 8 (dec_at dX2_numberEdges 19) flX2_27 rfl rfl ?_
      refine e_aload_n 0 (dec_at dX2_numberEdges 20) rfl rfl ?_
      refine e_getr 7 (dec_at dX2_numberEdges 21) flX2_24 rfl rfl ?_
      refine e_iload_n 1 (dec_at dX2_numberEdges 22) rfl rfl ?_
      refine e_ialdv (μ 16 l s) (dec_at dX2_numberEdges 23) rfl (by decide) (aLk_16 _) (by omega) (by exact fr 16 l s (by omega)) (fun r39 => ?_)
      refine e_ialdv (cE (μ 16 l) (μ 16 l s)) (dec_at dX2_numberEdges 24) rfl (by decide) (aLk_17 _) (by omega) (by rw [h6 _ hbs.1.1 (by omega)]; unfold eoF; rw [if_neg (by omega)]) (fun r40 => ?_)
      refine e_iast (dec_at dX2_numberEdges 25) rfl (by decide) (aLk_17 _) (by omega) (by omega) ?_
      refine e_goto 75 (dec_at dX2_numberEdges 26) (by decide) ?_
      refine e_ii1 (dec_at dX2_numberEdges 45) (by decide) rfl ?_
      refine e_goto 7 (dec_at dX2_numberEdges 46) (by decide) ?_
      first
      | refine ih _ (by omega) (s + 1) _ rfl (by omega) (by omega) (fr_set fr (by omega)) (by rw [mset_k (by decide), hE, hs2]) (fun t a b => ?_) (fun t a b c => ?_)
        · by_cases q : t = s
          · subst q; rw [mset_eq]; unfold eoF; rw [if_pos (by omega)]
          · rw [mset_i q]; exact h6 t a (by omega)
        · by_cases q : t = s
          · subst q; exact absurd c hfm
          · rw [mset_k (by decide)]; exact h7 t a (by omega) c
      | refine ih _ (by omega) (s + 1) _ rfl (by omega) (by omega) (fr_set (fr_set (fr_set fr (by omega)) (by omega)) (by omega)) (by rw [mset_eq, hs2]) (fun t a b => ?_) (fun t a b c => ?_)
        · rw [mset_k (by decide), mset_k (by decide)]
          by_cases q : t = s
          · subst q; rw [mset_eq]; unfold eoF; rw [if_neg (by omega)]
          · rw [mset_i q]; exact h6 t a (by omega)
        · rw [mset_k (by decide)]
          by_cases q : t = s
          · subst q; rw [mset_eq]
          · rw [mset_i (fun z => q (cE_inj a h0 c hfm z)), mset_k (by decide)]
            exact h7 t a (by omega) c

set_option maxRecDepth 100000 in
set_option maxHeartbeats 4000000 in
theorem c_numberEdges {μ : Mm} (l : Int) (hP : 0 ≤ μ 11 l 1 ∧ μ 11 l 1 ≤ capP l) (hn : 0 ≤ μ 13 l (μ 11 l 1) ∧ μ 13 l (μ 11 l 1) ≤ 2 * capE l) (hb : ∀ s, 0 ≤ s → s < μ 13 l (μ 11 l 1) → (0 ≤ μ 16 l s ∧ μ 16 l s < μ 13 l (μ 11 l 1)) ∧ μ 16 l (μ 16 l s) = s ∧ μ 16 l s ≠ s) (hcap : cE (μ 16 l) (μ 13 l (μ 11 l 1)) ≤ capE l) : Mc mX2_numberEdges 1 [vR 11 l] μ (fun r μ' => r = none ∧ (∀ k l1 i, ¬ (l1 = l ∧ (k = 17 ∨ k = 18 ∨ k = 11 ∧ i = 2)) → μ' k l1 i = μ k l1 i) ∧ μ' 11 l 2 = cE (μ 16 l) (μ 13 l (μ 11 l 1)) ∧ (∀ t, 0 ≤ t → t < μ 13 l (μ 11 l 1) → μ' 17 l t = eoF (μ 16 l) t) ∧ (∀ t, 0 ≤ t → t < μ 13 l (μ 11 l 1) → fm (μ 16 l) t → μ' 18 l (cE (μ 16 l) t) = t)) := by
  refine Mc.of (L := [some (vR 11 l), none]) (by decide +kernel) (by simp [leL, entA, isLong, mX2_numberEdges]) (by simp [entA, isLong, mX2_numberEdges]) ?_
  have hCc := capC_in l
  have hCp := capP_in l
  have hCe := capE_in l
  refine e_aload_n 0 (dec_at dX2_numberEdges 0) rfl rfl ?_
  refine e_iconst (dec_at dX2_numberEdges 1) ?_
  refine e_put 2 2 (dec_at dX2_numberEdges 2) flX2_61 fpX2_2 rfl rfl rfl (by omega) (fit_int _) ?_
  refine e_iconst (dec_at dX2_numberEdges 3) ?_
  refine e_is1 (dec_at dX2_numberEdges 4) (by decide) rfl ?_
  refine l_numberEdges hP hn hb hcap _ 0 _ rfl (by omega) (by omega) (fr_set (fun _ _ _ _ => rfl) (by omega)) (by rw [mset_eq]; rfl) (fun t a b => by omega) (fun t a b => by omega)
end
section
theorem ct_i {p : Int → Prop} {s : Int} (h0 : 0 ≤ s) : (p s → ct p (s + 1).toNat = ct p s.toNat + 1) ∧ (¬ p s → ct p (s + 1).toNat = ct p s.toNat) := by
  rw [show (s + 1).toNat = s.toNat + 1 by omega]
  exact ⟨fun h => ct_t (by rw [Int.toNat_of_nonneg h0]; exact h), fun h => ct_f (by rw [Int.toNat_of_nonneg h0]; exact h)⟩

set_option maxRecDepth 100000 in
set_option maxHeartbeats 4000000 in
theorem l_findDoors2 {μ : Mm} {l : Int} (hC : 0 ≤ μ 11 l 0 ∧ μ 11 l 0 ≤ capC l) (hP : 0 ≤ μ 11 l 1 ∧ μ 11 l 1 ≤ capP l) (hn : 0 ≤ μ 13 l (μ 11 l 1) ∧ μ 13 l (μ 11 l 1) ≤ 2 * capE l) (hr : ∀ s, 0 ≤ s → s < μ 13 l (μ 11 l 1) → 0 ≤ μ 14 l s ∧ μ 14 l s < μ 11 l 0) : ∀ (q : Nat) (s : Int) (ν : Mm), (μ 13 l (μ 11 l 1) - s).toNat = q → 0 ≤ s → s ≤ μ 13 l (μ 11 l 1) → (∀ k l1 i, ¬ (l1 = l ∧ (k = 19 ∨ k = 20)) → ν k l1 i = μ k l1 i) → (∀ c, 0 ≤ c → c < μ 11 l 0 → ν 19 l c = (ct (fun t => μ 14 l t = c) (s).toNat : Int) ∧ (ct (fun t => μ 14 l t = c) (s).toNat ≠ 0 → (0 ≤ ν 20 l c ∧ ν 20 l c < s) ∧ μ 14 l (ν 20 l c) = c ∧ ∀ t, 0 ≤ t → t < s → μ 14 l t = c → μ 17 l (ν 20 l c) ≤ μ 17 l t)) → Ev mX2_findDoors 1 25 [some (vR 11 l), some (vI s), none] [] ν (fun r μ' => r = none ∧ (∀ k l1 i, ¬ (l1 = l ∧ (k = 19 ∨ k = 20)) → μ' k l1 i = μ k l1 i) ∧ (∀ c, 0 ≤ c → c < μ 11 l 0 → μ' 19 l c = (ct (fun t => μ 14 l t = c) (μ 13 l (μ 11 l 1)).toNat : Int) ∧ (ct (fun t => μ 14 l t = c) (μ 13 l (μ 11 l 1)).toNat ≠ 0 → (0 ≤ μ' 20 l c ∧ μ' 20 l c < μ 13 l (μ 11 l 1)) ∧ μ 14 l (μ' 20 l c) = c ∧ ∀ t, 0 ≤ t → t < μ 13 l (μ 11 l 1) → μ 14 l t = c → μ 17 l (μ' 20 l c) ≤ μ 17 l t))) := by
  intro q
  induction q using Nat.strongRecOn with
  | _ q ih =>
  intro s ν hq h0 h1 fr hI
  have hCc := capC_in l
  have hCp := capP_in l
  have hCe := capE_in l
  refine e_iload_n 1 (dec_at dX2_findDoors 15) rfl rfl ?_
  refine e_aload_n 0 (dec_at dX2_findDoors 16) rfl rfl ?_
  refine e_callVr (M' := mX2_steps) (dec_at dX2_findDoors 17) mlX2_53 ((c_steps (μ := ν) l (by rw [fr 11 l 1 (by omega)]; exact hP)).rt (r' := some (vI (μ 13 l (μ 11 l 1)))) (by rw [fr 11 l 1 (by omega), fr 13 l _ (by omega)]) rfl) oX2_steps iX2_steps rfl rfl rfl rfl (by decide) (by decide) (Nat.le_of_ble_eq_true rfl) ?_
  refine e_icmp_ge 92 (dec_at dX2_findDoors 18) (by decide) (by omega) (by omega) (fun h30 => ?_) (fun h30 => ?_)
  · refine e_return (dec_at dX2_findDoors 56) rfl ?_
    obtain rfl : s = μ 13 l (μ 11 l 1) := by omega
    exact ⟨rfl, fr, hI⟩
  · have hc := hr s h0 (by omega)
    have hIc := hI (μ 14 l s) hc.1 hc.2
    have hle := ct_le (p := fun t => μ 14 l t = μ 14 l s) s.toNat
    refine e_aload_n 0 (dec_at dX2_findDoors 19) rfl rfl ?_
    refine e_getr 5 (dec_at dX2_findDoors 20) flX2_18 rfl rfl ?_
    refine e_iload_n 1 (dec_at dX2_findDoors 21) rfl rfl ?_
    refine e_ialdv (μ 14 l s) (dec_at dX2_findDoors 22) rfl (by decide) (aLk_14 _) (by omega) (by exact fr 14 l s (by omega)) (fun r38 => ?_)
    refine e_is2 (dec_at dX2_findDoors 23) (by decide) rfl ?_
    refine e_aload_n 0 (dec_at dX2_findDoors 24) rfl rfl ?_
    refine e_getr 10 (dec_at dX2_findDoors 25) flX2_33 rfl rfl ?_
    refine e_iload_n 2 (dec_at dX2_findDoors 26) rfl rfl ?_
    refine e_ialdv ((ct (fun t => μ 14 l t = μ 14 l s) s.toNat : Int)) (dec_at dX2_findDoors 27) rfl (by decide) (aLk_19 _) (by omega) (by exact hIc.1) (fun r45 => ?_)
    refine e_if_eq 69 (dec_at dX2_findDoors 28) (by decide) (by omega) (fun h46 => ?_) (fun h46 => ?_)
    · have hk : ∀ t, 0 ≤ t → t < s → μ 14 l t = μ 14 l s → μ 17 l s ≤ μ 17 l t := fun t a b c => absurd c ((ct_zero (p := fun t => μ 14 l t = μ 14 l s) s.toNat).mp (by omega) t a (by omega))
      refine e_aload_n 0 (dec_at dX2_findDoors 41) rfl rfl ?_
      refine e_getr 11 (dec_at dX2_findDoors 42) flX2_36 rfl rfl ?_
      refine e_iload_n 2 (dec_at dX2_findDoors 43) rfl rfl ?_
      refine e_iload_n 1 (dec_at dX2_findDoors 44) rfl rfl ?_
      refine e_iast (dec_at dX2_findDoors 45) rfl (by decide) (aLk_20 _) (by omega) (by omega) ?_
      refine e_aload_n 0 (dec_at dX2_findDoors 46) rfl rfl ?_
      refine e_getr 10 (dec_at dX2_findDoors 47) flX2_33 rfl rfl ?_
      refine e_iload_n 2 (dec_at dX2_findDoors 48) rfl rfl ?_
      refine e_dup2 (dec_at dX2_findDoors 49) rfl rfl ?_
      refine e_ialdv ((ct (fun t => μ 14 l t = μ 14 l s) s.toNat : Int)) (dec_at dX2_findDoors 50) rfl (by decide) (aLk_19 _) (by omega) (by first | (rw [mset_k (by decide)]; exact hIc.1) | exact hIc.1) (fun r82 => ?_)
      refine e_iconst (dec_at dX2_findDoors 51) ?_
      refine e_iadd (dec_at dX2_findDoors 52) ?_
      refine e_iast (dec_at dX2_findDoors 53) rfl (by decide) (aLk_19 _) (by omega) (by omega) ?_
      refine e_ii1 (dec_at dX2_findDoors 54) (by decide) rfl ?_
      refine e_goto 25 (dec_at dX2_findDoors 55) (by decide) ?_
      refine e_le [some (vR 11 l), some (vI (s + 1)), none] (by simp [leL]) (ih _ (by omega) (s + 1) _ rfl (by omega) (by omega) (fr_set (fr_set fr (by omega)) (by omega)) (fun c a b => ?_))
      by_cases q : c = μ 14 l s
      · subst q
        rw [mset_eq, mset_k (by decide), mset_eq, (ct_i (p := fun t => μ 14 l t = μ 14 l s) h0).1 rfl]
        refine ⟨by omega, fun _ => ⟨by omega, rfl, fun t x y z => ?_⟩⟩
        by_cases w : t = s
        · subst w; omega
        · exact hk t x (by omega) z
      · have hIo := hI c a b
        rw [mset_i q, mset_k (by decide), mset_k (by decide), mset_i q, (ct_i (p := fun t => μ 14 l t = c) h0).2 (fun z => q z.symm)]
        refine ⟨hIo.1, fun y => ?_⟩
        have hz := hIo.2 y
        refine ⟨by omega, hz.2.1, fun t x y z => hz.2.2 t x ?_ z⟩
        by_cases w : t = s
        · subst w; exact absurd z.symm q
        · omega
    · have hdv := hIc.2 (by omega)
      refine e_aload_n 0 (dec_at dX2_findDoors 29) rfl rfl ?_
      refine e_getr 8 (dec_at dX2_findDoors 30) flX2_27 rfl rfl ?_
      refine e_iload_n 1 (dec_at dX2_findDoors 31) rfl rfl ?_
      refine e_ialdv (μ 17 l s) (dec_at dX2_findDoors 32) rfl (by decide) (aLk_17 _) (by omega) (by exact fr 17 l s (by omega)) (fun r54 => ?_)
      refine e_aload_n 0 (dec_at dX2_findDoors 33) rfl rfl ?_
      refine e_getr 8 (dec_at dX2_findDoors 34) flX2_27 rfl rfl ?_
      refine e_aload_n 0 (dec_at dX2_findDoors 35) rfl rfl ?_
      refine e_getr 11 (dec_at dX2_findDoors 36) flX2_36 rfl rfl ?_
      refine e_iload_n 2 (dec_at dX2_findDoors 37) rfl rfl ?_
      refine e_iald (dec_at dX2_findDoors 38) rfl (by decide) (aLk_20 _) (by omega) (fun r64 => ?_)
      refine e_ialdv (μ 17 l (ν 20 l (μ 14 l s))) (dec_at dX2_findDoors 39) rfl (by decide) (aLk_17 _) (by omega) (by exact fr 17 l _ (by omega)) (fun r65 => ?_)
      refine e_icmp_ge 76 (dec_at dX2_findDoors 40) (by decide) (by omega) (by omega) (fun h66 => ?_) (fun h66 => ?_)
      · have hj := h66
        refine e_aload_n 0 (dec_at dX2_findDoors 46) rfl rfl ?_
        refine e_getr 10 (dec_at dX2_findDoors 47) flX2_33 rfl rfl ?_
        refine e_iload_n 2 (dec_at dX2_findDoors 48) rfl rfl ?_
        refine e_dup2 (dec_at dX2_findDoors 49) rfl rfl ?_
        refine e_ialdv ((ct (fun t => μ 14 l t = μ 14 l s) s.toNat : Int)) (dec_at dX2_findDoors 50) rfl (by decide) (aLk_19 _) (by omega) (by first | (rw [mset_k (by decide)]; exact hIc.1) | exact hIc.1) (fun r82 => ?_)
        refine e_iconst (dec_at dX2_findDoors 51) ?_
        refine e_iadd (dec_at dX2_findDoors 52) ?_
        refine e_iast (dec_at dX2_findDoors 53) rfl (by decide) (aLk_19 _) (by omega) (by omega) ?_
        refine e_ii1 (dec_at dX2_findDoors 54) (by decide) rfl ?_
        refine e_goto 25 (dec_at dX2_findDoors 55) (by decide) ?_
        refine e_le [some (vR 11 l), some (vI (s + 1)), none] (by simp [leL]) (ih _ (by omega) (s + 1) _ rfl (by omega) (by omega) (fr_set fr (by omega)) (fun c a b => ?_))
        by_cases q : c = μ 14 l s
        · subst q
          rw [mset_eq, mset_k (by decide), (ct_i (p := fun t => μ 14 l t = μ 14 l s) h0).1 rfl]
          refine ⟨by omega, fun _ => ⟨by omega, hdv.2.1, fun t x y z => ?_⟩⟩
          by_cases w : t = s
          · subst w; exact hj
          · exact hdv.2.2 t x (by omega) z
        · have hIo := hI c a b
          rw [mset_i q, mset_k (by decide), (ct_i (p := fun t => μ 14 l t = c) h0).2 (fun z => q z.symm)]
          refine ⟨hIo.1, fun y => ?_⟩
          have hz := hIo.2 y
          refine ⟨by omega, hz.2.1, fun t x y z => hz.2.2 t x ?_ z⟩
          by_cases w : t = s
          · subst w; exact absurd z.symm q
          · omega
      · have hk : ∀ t, 0 ≤ t → t < s → μ 14 l t = μ 14 l s → μ 17 l s ≤ μ 17 l t := fun t a b c => by have := hdv.2.2 t a b c; omega
        refine e_aload_n 0 (dec_at dX2_findDoors 41) rfl rfl ?_
        refine e_getr 11 (dec_at dX2_findDoors 42) flX2_36 rfl rfl ?_
        refine e_iload_n 2 (dec_at dX2_findDoors 43) rfl rfl ?_
        refine e_iload_n 1 (dec_at dX2_findDoors 44) rfl rfl ?_
        refine e_iast (dec_at dX2_findDoors 45) rfl (by decide) (aLk_20 _) (by omega) (by omega) ?_
        refine e_aload_n 0 (dec_at dX2_findDoors 46) rfl rfl ?_
        refine e_getr 10 (dec_at dX2_findDoors 47) flX2_33 rfl rfl ?_
        refine e_iload_n 2 (dec_at dX2_findDoors 48) rfl rfl ?_
        refine e_dup2 (dec_at dX2_findDoors 49) rfl rfl ?_
        refine e_ialdv ((ct (fun t => μ 14 l t = μ 14 l s) s.toNat : Int)) (dec_at dX2_findDoors 50) rfl (by decide) (aLk_19 _) (by omega) (by first | (rw [mset_k (by decide)]; exact hIc.1) | exact hIc.1) (fun r82 => ?_)
        refine e_iconst (dec_at dX2_findDoors 51) ?_
        refine e_iadd (dec_at dX2_findDoors 52) ?_
        refine e_iast (dec_at dX2_findDoors 53) rfl (by decide) (aLk_19 _) (by omega) (by omega) ?_
        refine e_ii1 (dec_at dX2_findDoors 54) (by decide) rfl ?_
        refine e_goto 25 (dec_at dX2_findDoors 55) (by decide) ?_
        refine e_le [some (vR 11 l), some (vI (s + 1)), none] (by simp [leL]) (ih _ (by omega) (s + 1) _ rfl (by omega) (by omega) (fr_set (fr_set fr (by omega)) (by omega)) (fun c a b => ?_))
        by_cases q : c = μ 14 l s
        · subst q
          rw [mset_eq, mset_k (by decide), mset_eq, (ct_i (p := fun t => μ 14 l t = μ 14 l s) h0).1 rfl]
          refine ⟨by omega, fun _ => ⟨by omega, rfl, fun t x y z => ?_⟩⟩
          by_cases w : t = s
          · subst w; omega
          · exact hk t x (by omega) z
        · have hIo := hI c a b
          rw [mset_i q, mset_k (by decide), mset_k (by decide), mset_i q, (ct_i (p := fun t => μ 14 l t = c) h0).2 (fun z => q z.symm)]
          refine ⟨hIo.1, fun y => ?_⟩
          have hz := hIo.2 y
          refine ⟨by omega, hz.2.1, fun t x y z => hz.2.2 t x ?_ z⟩
          by_cases w : t = s
          · subst w; exact absurd z.symm q
          · omega

set_option maxRecDepth 100000 in
set_option maxHeartbeats 4000000 in
theorem l_findDoors1 {μ : Mm} {l : Int} (hC : 0 ≤ μ 11 l 0 ∧ μ 11 l 0 ≤ capC l) (hP : 0 ≤ μ 11 l 1 ∧ μ 11 l 1 ≤ capP l) (hn : 0 ≤ μ 13 l (μ 11 l 1) ∧ μ 13 l (μ 11 l 1) ≤ 2 * capE l) (hr : ∀ s, 0 ≤ s → s < μ 13 l (μ 11 l 1) → 0 ≤ μ 14 l s ∧ μ 14 l s < μ 11 l 0) : ∀ (q : Nat) (c : Int) (ν : Mm), (μ 11 l 0 - c).toNat = q → 0 ≤ c → c ≤ μ 11 l 0 → (∀ k l1 i, ¬ (l1 = l ∧ (k = 19 ∨ k = 20)) → ν k l1 i = μ k l1 i) → (∀ j, 0 ≤ j → j < c → ν 19 l j = 0) → Ev mX2_findDoors 1 2 [some (vR 11 l), some (vI c), none] [] ν (fun r μ' => r = none ∧ (∀ k l1 i, ¬ (l1 = l ∧ (k = 19 ∨ k = 20)) → μ' k l1 i = μ k l1 i) ∧ (∀ c, 0 ≤ c → c < μ 11 l 0 → μ' 19 l c = (ct (fun t => μ 14 l t = c) (μ 13 l (μ 11 l 1)).toNat : Int) ∧ (ct (fun t => μ 14 l t = c) (μ 13 l (μ 11 l 1)).toNat ≠ 0 → (0 ≤ μ' 20 l c ∧ μ' 20 l c < μ 13 l (μ 11 l 1)) ∧ μ 14 l (μ' 20 l c) = c ∧ ∀ t, 0 ≤ t → t < μ 13 l (μ 11 l 1) → μ 14 l t = c → μ 17 l (μ' 20 l c) ≤ μ 17 l t))) := by
  intro q
  induction q using Nat.strongRecOn with
  | _ q ih =>
  intro c ν hq h0 h1 fr hI
  have hCc := capC_in l
  have hCp := capP_in l
  have hCe := capE_in l
  refine e_iload_n 1 (dec_at dX2_findDoors 2) rfl rfl ?_
  refine e_aload_n 0 (dec_at dX2_findDoors 3) rfl rfl ?_
  refine e_getiv 0 0 (μ 11 l 0) (dec_at dX2_findDoors 4) flX2_39 rfl rfl rfl (by exact fr 11 l 0 (by omega)) (fun r4 => ?_)
  refine e_icmp_ge 23 (dec_at dX2_findDoors 5) (by decide) (by omega) (by omega) (fun h7 => ?_) (fun h7 => ?_)
  · refine e_iconst (dec_at dX2_findDoors 13) ?_
    refine e_is1 (dec_at dX2_findDoors 14) (by decide) rfl ?_
    refine l_findDoors2 hC hP hn hr _ 0 ν rfl (by omega) (by omega) fr (fun j a b => ⟨?_, fun z => absurd rfl z⟩)
    rw [hI j a (by omega)]
    rfl
  · refine e_aload_n 0 (dec_at dX2_findDoors 6) rfl rfl ?_
    refine e_getr 10 (dec_at dX2_findDoors 7) flX2_33 rfl rfl ?_
    refine e_iload_n 1 (dec_at dX2_findDoors 8) rfl rfl ?_
    refine e_iconst (dec_at dX2_findDoors 9) ?_
    refine e_iast (dec_at dX2_findDoors 10) rfl (by decide) (aLk_19 _) (by omega) (by omega) ?_
    refine e_ii1 (dec_at dX2_findDoors 11) (by decide) rfl ?_
    refine e_goto 2 (dec_at dX2_findDoors 12) (by decide) ?_
    refine ih _ (by omega) (c + 1) _ rfl (by omega) (by omega) (fr_set fr (by omega)) (fun j a b => ?_)
    by_cases q : j = c
    · subst q; rw [mset_eq]
    · rw [mset_i q]; exact hI j a (by omega)

set_option maxRecDepth 100000 in
set_option maxHeartbeats 4000000 in
theorem c_findDoors {μ : Mm} (l : Int) (hC : 0 ≤ μ 11 l 0 ∧ μ 11 l 0 ≤ capC l) (hP : 0 ≤ μ 11 l 1 ∧ μ 11 l 1 ≤ capP l) (hn : 0 ≤ μ 13 l (μ 11 l 1) ∧ μ 13 l (μ 11 l 1) ≤ 2 * capE l) (hr : ∀ s, 0 ≤ s → s < μ 13 l (μ 11 l 1) → 0 ≤ μ 14 l s ∧ μ 14 l s < μ 11 l 0) : Mc mX2_findDoors 1 [vR 11 l] μ (fun r μ' => r = none ∧ (∀ k l1 i, ¬ (l1 = l ∧ (k = 19 ∨ k = 20)) → μ' k l1 i = μ k l1 i) ∧ (∀ c, 0 ≤ c → c < μ 11 l 0 → μ' 19 l c = (ct (fun t => μ 14 l t = c) (μ 13 l (μ 11 l 1)).toNat : Int) ∧ (ct (fun t => μ 14 l t = c) (μ 13 l (μ 11 l 1)).toNat ≠ 0 → (0 ≤ μ' 20 l c ∧ μ' 20 l c < μ 13 l (μ 11 l 1)) ∧ μ 14 l (μ' 20 l c) = c ∧ ∀ t, 0 ≤ t → t < μ 13 l (μ 11 l 1) → μ 14 l t = c → μ 17 l (μ' 20 l c) ≤ μ 17 l t))) := by
  refine Mc.of (L := [some (vR 11 l), none, none]) (by decide +kernel) (by simp [leL, entA, isLong, mX2_findDoors]) (by simp [entA, isLong, mX2_findDoors]) ?_
  have hCc := capC_in l
  have hCp := capP_in l
  have hCe := capE_in l
  refine e_iconst (dec_at dX2_findDoors 0) ?_
  refine e_is1 (dec_at dX2_findDoors 1) (by decide) rfl ?_
  exact l_findDoors1 hC hP hn hr _ 0 μ rfl (by omega) (by omega) (fun _ _ _ _ => rfl) (fun j a b => by omega)
end
section
/-- a net in the memory -/
def Nt (μ : Mm) (l : Int) : Net := fun j i => μ (11 + j) l i
theorem NB1.fr {μ ν : Mm} {l : Int} (h : NB1 μ l) (f : ∀ k i, ν k l i = μ k l i) : NB1 ν l := by
  have e : ∀ k, ν k l = μ k l := fun k => funext (f k)
  unfold NB1 at h ⊢
  rw [e 11, e 13, e 14, e 15]
  exact h
theorem NB2.fr {μ ν : Mm} {l : Int} (h : NB2 μ l) (f : ∀ k i, ν k l i = μ k l i) : NB2 ν l := by
  have e : ∀ k, ν k l = μ k l := fun k => funext (f k)
  unfold NB2 at h ⊢
  rw [e 11, e 13, e 18]
  exact h
/-- a good net's numbers name something, where it fits -/
theorem Good.nb {μ : Mm} {l : Int} (h : Good (Nt μ l)) (hC : μ 11 l 0 ≤ capC l) (hP : μ 11 l 1 ≤ capP l) (hn : μ 13 l (μ 11 l 1) ≤ 2 * capE l) (hE : μ 11 l 2 ≤ capE l) : NB1 μ l ∧ NB2 μ l := by
  have g := h.1.2.1
  refine ⟨⟨⟨h.1.1, hC⟩, ⟨g.1, hP⟩, ⟨g.n0, hn⟩, fun f h0 h1 => ?_, fun s h0 h1 => ⟨(h.1.b1 h0 h1).1, g.2.2.2 s h0 h1⟩⟩, ⟨⟨?_, hE⟩, fun e h0 h1 => (h.mt h0 h1).1⟩⟩
  · have a := g.2.2.1 f h0 h1
    have b := g.le (f := f) h0 (Int.le_of_lt h1)
    have c := g.le (f := f + 1) (by omega) h1
    have a : μ 13 l f + 3 ≤ μ 13 l (f + 1) := a
    have b : 0 ≤ μ 13 l f ∧ _ := b
    have c : 0 ≤ μ 13 l (f + 1) ∧ μ 13 l (f + 1) ≤ μ 13 l (μ 11 l 1) := c
    exact ⟨b.1, by omega, c.2⟩
  · have := cE_0 (μ 16 l) (nN (Nt μ l))
    have e : μ 11 l 2 = cE (μ 16 l) (nN (Nt μ l)) := h.2.1.1
    rw [e]; exact this

set_option maxRecDepth 100000 in
set_option maxHeartbeats 4000000 in
theorem l_shrink2 {μ : Mm} {l : Int} (hP : 0 ≤ μ 11 l 1 ∧ μ 11 l 1 ≤ capP l) (hP1 : μ 11 l 1 ≤ capP (l + 1)) (hn : 0 ≤ μ 13 l (μ 11 l 1) ∧ μ 13 l (μ 11 l 1) ≤ 2 * capE l) (hn1 : μ 13 l (μ 11 l 1) ≤ 2 * capE (l + 1)) : ∀ (q : Nat) (s : Int) (ν : Mm), (μ 13 l (μ 11 l 1) - s).toNat = q → 0 ≤ s → s ≤ μ 13 l (μ 11 l 1) → (∀ k l1 i, ¬ (l1 = l + 1 ∧ (k = 11 ∧ i = 1 ∨ k = 13 ∨ k = 14 ∨ k = 15)) → ν k l1 i = μ k l1 i) → ν 11 (l + 1) 1 = μ 11 l 1 → (∀ j, 0 ≤ j → j < μ 11 l 1 + 1 → ν 13 (l + 1) j = μ 13 l j) → (∀ j, 0 ≤ j → j < s → ν 14 (l + 1) j = μ 17 l j ∧ ν 15 (l + 1) j = μ 15 l j) → Ev mX2_shrinkPlates 1 38 [some (vR 11 (l + 1)), some (vR 11 l), some (vI s)] [] ν (fun r μ' => r = none ∧ (∀ k l1 i, ¬ (l1 = l + 1 ∧ (k = 11 ∧ i = 1 ∨ k = 13 ∨ k = 14 ∨ k = 15)) → μ' k l1 i = μ k l1 i) ∧ μ' 11 (l + 1) 1 = μ 11 l 1 ∧ (∀ j, 0 ≤ j → j < μ 11 l 1 + 1 → μ' 13 (l + 1) j = μ 13 l j) ∧ (∀ j, 0 ≤ j → j < μ 13 l (μ 11 l 1) → μ' 14 (l + 1) j = μ 17 l j ∧ μ' 15 (l + 1) j = μ 15 l j)) := by
  intro q
  induction q using Nat.strongRecOn with
  | _ q ih =>
  intro s ν hq h0 h1 fr hp h13 h14
  have hCc := capC_in l
  have hCp := capP_in l
  have hCe := capE_in l
  have hCc1 := capC_in (l + 1)
  have hCp1 := capP_in (l + 1)
  have hCe1 := capE_in (l + 1)
  refine e_iload_n 2 (dec_at dX2_shrinkPlates 22) rfl rfl ?_
  refine e_aload_n 0 (dec_at dX2_shrinkPlates 23) rfl rfl ?_
  refine e_callVr (M' := mX2_steps) (dec_at dX2_shrinkPlates 24) mlX2_53 ((c_steps (μ := ν) (l + 1) (by omega)).rt (r' := some (vI (μ 13 l (μ 11 l 1)))) (by rw [hp, h13 _ hP.1 (by omega)]) rfl) oX2_steps iX2_steps rfl rfl rfl rfl (by decide) (by decide) (Nat.le_of_ble_eq_true rfl) ?_
  refine e_icmp_ge 76 (dec_at dX2_shrinkPlates 25) (by decide) (by omega) (by omega) (fun h43 => ?_) (fun h43 => ?_)
  · refine e_return (dec_at dX2_shrinkPlates 44) rfl ?_
    obtain rfl : s = μ 13 l (μ 11 l 1) := by omega
    exact ⟨rfl, fr, hp, h13, h14⟩
  · refine e_aload_n 0 (dec_at dX2_shrinkPlates 26) rfl rfl ?_
    refine e_getr 5 (dec_at dX2_shrinkPlates 27) flX2_18 rfl rfl ?_
    refine e_iload_n 2 (dec_at dX2_shrinkPlates 28) rfl rfl ?_
    refine e_aload_n 1 (dec_at dX2_shrinkPlates 29) rfl rfl ?_
    refine e_getr 8 (dec_at dX2_shrinkPlates 30) flX2_27 rfl rfl ?_
    refine e_iload_n 2 (dec_at dX2_shrinkPlates 31) rfl rfl ?_
    refine e_ialdv (μ 17 l s) (dec_at dX2_shrinkPlates 32) rfl (by decide) (aLk_17 _) (by omega) (by exact fr 17 l s (by omega)) (fun r56 => ?_)
    refine e_iast (dec_at dX2_shrinkPlates 33) rfl (by decide) (aLk_14 _) (by omega) (by omega) ?_
    refine e_aload_n 0 (dec_at dX2_shrinkPlates 34) rfl rfl ?_
    refine e_getr 6 (dec_at dX2_shrinkPlates 35) flX2_21 rfl rfl ?_
    refine e_iload_n 2 (dec_at dX2_shrinkPlates 36) rfl rfl ?_
    refine e_aload_n 1 (dec_at dX2_shrinkPlates 37) rfl rfl ?_
    refine e_getr 6 (dec_at dX2_shrinkPlates 38) flX2_21 rfl rfl ?_
    refine e_iload_n 2 (dec_at dX2_shrinkPlates 39) rfl rfl ?_
    refine e_ialdv (μ 15 l s) (dec_at dX2_shrinkPlates 40) rfl (by decide) (aLk_15 _) (by omega) (by rw [mset_l (by omega)]; exact fr 15 l s (by omega)) (fun r68 => ?_)
    refine e_iast (dec_at dX2_shrinkPlates 41) rfl (by decide) (aLk_15 _) (by omega) (by omega) ?_
    refine e_ii2 (dec_at dX2_shrinkPlates 42) (by decide) rfl ?_
    refine e_goto 38 (dec_at dX2_shrinkPlates 43) (by decide) ?_
    refine ih _ (by omega) (s + 1) _ rfl (by omega) (by omega) (fr_set (fr_set fr (by omega)) (by omega)) (by rw [mset_k (by decide), mset_k (by decide)]; exact hp) (fun j a b => by rw [mset_k (by decide), mset_k (by decide)]; exact h13 j a b) (fun j a b => ?_)
    by_cases q : j = s
    · subst q; rw [mset_k (by decide), mset_eq, mset_eq]; exact ⟨rfl, rfl⟩
    · rw [mset_k (by decide), mset_i q, mset_i q, mset_k (by decide)]; exact h14 j a (by omega)

set_option maxRecDepth 100000 in
set_option maxHeartbeats 4000000 in
theorem l_shrink1 {μ : Mm} {l : Int} (hP : 0 ≤ μ 11 l 1 ∧ μ 11 l 1 ≤ capP l) (hP1 : μ 11 l 1 ≤ capP (l + 1)) (hn : 0 ≤ μ 13 l (μ 11 l 1) ∧ μ 13 l (μ 11 l 1) ≤ 2 * capE l) (hn1 : μ 13 l (μ 11 l 1) ≤ 2 * capE (l + 1)) : ∀ (q : Nat) (f : Int) (ν : Mm), (μ 11 l 1 + 1 - f).toNat = q → 0 ≤ f → f ≤ μ 11 l 1 + 1 → (∀ k l1 i, ¬ (l1 = l + 1 ∧ (k = 11 ∧ i = 1 ∨ k = 13 ∨ k = 14 ∨ k = 15)) → ν k l1 i = μ k l1 i) → ν 11 (l + 1) 1 = μ 11 l 1 → (∀ j, 0 ≤ j → j < f → ν 13 (l + 1) j = μ 13 l j) → Ev mX2_shrinkPlates 1 10 [some (vR 11 (l + 1)), some (vR 11 l), some (vI f)] [] ν (fun r μ' => r = none ∧ (∀ k l1 i, ¬ (l1 = l + 1 ∧ (k = 11 ∧ i = 1 ∨ k = 13 ∨ k = 14 ∨ k = 15)) → μ' k l1 i = μ k l1 i) ∧ μ' 11 (l + 1) 1 = μ 11 l 1 ∧ (∀ j, 0 ≤ j → j < μ 11 l 1 + 1 → μ' 13 (l + 1) j = μ 13 l j) ∧ (∀ j, 0 ≤ j → j < μ 13 l (μ 11 l 1) → μ' 14 (l + 1) j = μ 17 l j ∧ μ' 15 (l + 1) j = μ 15 l j)) := by
  intro q
  induction q using Nat.strongRecOn with
  | _ q ih =>
  intro f ν hq h0 h1 fr hp h13
  have hCc := capC_in l
  have hCp := capP_in l
  have hCe := capE_in l
  have hCc1 := capC_in (l + 1)
  have hCp1 := capP_in (l + 1)
  have hCe1 := capE_in (l + 1)
  refine e_iload_n 2 (dec_at dX2_shrinkPlates 6) rfl rfl ?_
  refine e_aload_n 0 (dec_at dX2_shrinkPlates 7) rfl rfl ?_
  refine e_getiv 1 1 (μ 11 l 1) (dec_at dX2_shrinkPlates 8) flX2_43 rfl rfl rfl (by exact hp) (fun r12 => ?_)
  refine e_icmp_gt 36 (dec_at dX2_shrinkPlates 9) (by decide) (by omega) (by omega) (fun h15 => ?_) (fun h15 => ?_)
  · refine e_iconst (dec_at dX2_shrinkPlates 20) ?_
    refine e_is2 (dec_at dX2_shrinkPlates 21) (by decide) rfl ?_
    refine l_shrink2 hP hP1 hn hn1 _ 0 ν rfl (by omega) (by omega) fr hp (fun j a b => h13 j a (by omega)) (fun j a b => by omega)
  · refine e_aload_n 0 (dec_at dX2_shrinkPlates 10) rfl rfl ?_
    refine e_getr 4 (dec_at dX2_shrinkPlates 11) flX2_15 rfl rfl ?_
    refine e_iload_n 2 (dec_at dX2_shrinkPlates 12) rfl rfl ?_
    refine e_aload_n 1 (dec_at dX2_shrinkPlates 13) rfl rfl ?_
    refine e_getr 4 (dec_at dX2_shrinkPlates 14) flX2_15 rfl rfl ?_
    refine e_iload_n 2 (dec_at dX2_shrinkPlates 15) rfl rfl ?_
    refine e_ialdv (μ 13 l f) (dec_at dX2_shrinkPlates 16) rfl (by decide) (aLk_13 _) (by omega) (by exact fr 13 l f (by omega)) (fun r28 => ?_)
    refine e_iast (dec_at dX2_shrinkPlates 17) rfl (by decide) (aLk_13 _) (by omega) (by omega) ?_
    refine e_ii2 (dec_at dX2_shrinkPlates 18) (by decide) rfl ?_
    refine e_goto 10 (dec_at dX2_shrinkPlates 19) (by decide) ?_
    refine ih _ (by omega) (f + 1) _ rfl (by omega) (by omega) (fr_set fr (by omega)) (by rw [mset_k (by decide)]; exact hp) (fun j a b => ?_)
    by_cases q : j = f
    · subst q; rw [mset_eq]
    · rw [mset_i q]; exact h13 j a (by omega)

set_option maxRecDepth 100000 in
set_option maxHeartbeats 4000000 in
theorem c_shrinkPlates {μ : Mm} (l : Int) (hP : 0 ≤ μ 11 l 1 ∧ μ 11 l 1 ≤ capP l) (hP1 : μ 11 l 1 ≤ capP (l + 1)) (hn : 0 ≤ μ 13 l (μ 11 l 1) ∧ μ 13 l (μ 11 l 1) ≤ 2 * capE l) (hn1 : μ 13 l (μ 11 l 1) ≤ 2 * capE (l + 1)) : Mc mX2_shrinkPlates 1 [vR 11 (l + 1), vR 11 l] μ (fun r μ' => r = none ∧ (∀ k l1 i, ¬ (l1 = l + 1 ∧ (k = 11 ∧ i = 1 ∨ k = 13 ∨ k = 14 ∨ k = 15)) → μ' k l1 i = μ k l1 i) ∧ μ' 11 (l + 1) 1 = μ 11 l 1 ∧ (∀ j, 0 ≤ j → j < μ 11 l 1 + 1 → μ' 13 (l + 1) j = μ 13 l j) ∧ (∀ j, 0 ≤ j → j < μ 13 l (μ 11 l 1) → μ' 14 (l + 1) j = μ 17 l j ∧ μ' 15 (l + 1) j = μ 15 l j)) := by
  refine Mc.of (L := [some (vR 11 (l + 1)), some (vR 11 l), none]) (by decide +kernel) (by simp [leL, entA, isLong, mX2_shrinkPlates]) (by simp [entA, isLong, mX2_shrinkPlates]) ?_
  have hCc := capC_in l
  have hCp := capP_in l
  have hCe := capE_in l
  have hCc1 := capC_in (l + 1)
  have hCp1 := capP_in (l + 1)
  have hCe1 := capE_in (l + 1)
  refine e_aload_n 0 (dec_at dX2_shrinkPlates 0) rfl rfl ?_
  refine e_aload_n 1 (dec_at dX2_shrinkPlates 1) rfl rfl ?_
  refine e_geti 1 1 (dec_at dX2_shrinkPlates 2) flX2_43 rfl rfl rfl (fun r2 => ?_)
  refine e_put 1 1 (dec_at dX2_shrinkPlates 3) flX2_43 fpX2_1 rfl rfl rfl (by omega) (fit_int _) ?_
  refine e_iconst (dec_at dX2_shrinkPlates 4) ?_
  refine e_is2 (dec_at dX2_shrinkPlates 5) (by decide) rfl ?_
  exact l_shrink1 hP hP1 hn hn1 _ 0 _ rfl (by omega) (by omega) (fr_set (fun _ _ _ _ => rfl) (by omega)) mset_eq (fun j a b => by omega)

set_option maxRecDepth 100000 in
set_option maxHeartbeats 4000000 in
theorem c_closePlate {μ : Mm} (l e : Int) (hP : 0 ≤ μ 11 l 1 ∧ μ 11 l 1 < capP l) (he : inR e) : Mc mX2_closePlate 0 [vR 11 l, vI e] μ (Rt none (mset (mset μ 11 l 1 (μ 11 l 1 + 1)) 13 l (μ 11 l 1 + 1) e)) := by
  refine Mc.of (L := [some (vR 11 l), some (vI e)]) (by decide +kernel) (by simp [leL, entA, isLong, mX2_closePlate]) (by simp [entA, isLong, mX2_closePlate]) ?_
  have hCc := capC_in l
  have hCp := capP_in l
  have hCe := capE_in l
  have hCc1 := capC_in (l + 1)
  have hCp1 := capP_in (l + 1)
  have hCe1 := capE_in (l + 1)
  refine e_aload_n 0 (dec_at dX2_closePlate 0) rfl rfl ?_
  refine e_dup (dec_at dX2_closePlate 1) rfl ?_
  refine e_geti 1 1 (dec_at dX2_closePlate 2) flX2_43 rfl rfl rfl (fun r2 => ?_)
  refine e_iconst (dec_at dX2_closePlate 3) ?_
  refine e_iadd (dec_at dX2_closePlate 4) ?_
  refine e_put 1 1 (dec_at dX2_closePlate 5) flX2_43 fpX2_1 rfl rfl rfl (by omega) (fit_int _) ?_
  refine e_aload_n 0 (dec_at dX2_closePlate 6) rfl rfl ?_
  refine e_getr 4 (dec_at dX2_closePlate 7) flX2_15 rfl rfl ?_
  refine e_aload_n 0 (dec_at dX2_closePlate 8) rfl rfl ?_
  refine e_getiv 1 1 (μ 11 l 1 + 1) (dec_at dX2_closePlate 9) flX2_43 rfl rfl rfl (by exact mset_eq) (fun r15 => ?_)
  refine e_iload_n 1 (dec_at dX2_closePlate 10) rfl rfl ?_
  refine e_iast (dec_at dX2_closePlate 11) rfl (by decide) (aLk_13 _) (by omega) (by omega) ?_
  refine e_return (dec_at dX2_closePlate 12) rfl ?_
  exact ⟨rfl, rfl⟩

set_option maxRecDepth 100000 in
set_option maxHeartbeats 4000000 in
theorem l_addCP {μ : Mm} {l c : Int} (hg : Good (Nt μ l)) (hC : μ 11 l 0 ≤ capC l) (hP : μ 11 l 1 ≤ capP l) (hn : μ 13 l (μ 11 l 1) ≤ 2 * capE l) (hE : μ 11 l 2 ≤ capE l) (hE1 : μ 11 l 2 ≤ capC (l + 1)) (hP1 : μ 11 l 1 + μ 11 l 0 ≤ capP (l + 1)) (hn1 : μ 13 l (μ 11 l 1) ≤ capE (l + 1)) (hc0 : 0 ≤ c) (hc1 : c < μ 11 l 0) (hp : μ 11 (l + 1) 1 = μ 11 l 1 + c) (hst : μ 13 (l + 1) (μ 11 l 1 + c) = st (Nt μ l) c) : ∀ (q : Nat) (k : Int) (ν : Mm), (st (Nt μ l) (c + 1) - st (Nt μ l) c - k).toNat = q → 0 ≤ k → st (Nt μ l) c + k ≤ st (Nt μ l) (c + 1) → (∀ k l1 i, ¬ (l1 = l + 1 ∧ (k = 11 ∧ i = 1 ∨ k = 13 ∧ i = μ 11 l 1 + c + 1 ∨ ((k = 14 ∨ k = 15) ∧ st (Nt μ l) c ≤ i ∧ i < st (Nt μ l) (c + 1)) ∨ k = 16)) → ν k l1 i = μ k l1 i) → (∀ i, ¬ (st (Nt μ l) c ≤ i ∧ i < st (Nt μ l) (c + 1)) → (∀ s, st (Nt μ l) c ≤ s → s < st (Nt μ l) (c + 1) → i ≠ pv (Nt μ l) (un (Nt μ l) s)) → ν 16 (l + 1) i = μ 16 (l + 1) i) → ν 11 (l + 1) 1 = μ 11 l 1 + c → ν 13 (l + 1) (μ 11 l 1 + c + 1) = μ 13 (l + 1) (μ 11 l 1 + c + 1) → (∀ s, st (Nt μ l) c ≤ s → s < st (Nt μ l) c + k → ν 14 (l + 1) s = μ 17 l (un (Nt μ l) s) ∧ ν 15 (l + 1) s = μ 11 l 1 + c ∧ ν 16 (l + 1) s = pv (Nt μ l) (un (Nt μ l) s) ∧ ν 16 (l + 1) (pv (Nt μ l) (un (Nt μ l) s)) = s) → Ev mX2_addCornerPlate 1 16 [some (vR 11 (l + 1)), some (vR 11 l), some (vI c), some (vI (st (Nt μ l) c)), some (vI (it (rho (Nt μ l)) k.toNat (μ 20 l c))), some (vI k), none] [] ν (fun r μ' => r = none ∧ (∀ k l1 i, ¬ (l1 = l + 1 ∧ (k = 11 ∧ i = 1 ∨ k = 13 ∧ i = μ 11 l 1 + c + 1 ∨ ((k = 14 ∨ k = 15) ∧ st (Nt μ l) c ≤ i ∧ i < st (Nt μ l) (c + 1)) ∨ k = 16)) → μ' k l1 i = μ k l1 i) ∧ (∀ i, ¬ (st (Nt μ l) c ≤ i ∧ i < st (Nt μ l) (c + 1)) → (∀ s, st (Nt μ l) c ≤ s → s < st (Nt μ l) (c + 1) → i ≠ pv (Nt μ l) (un (Nt μ l) s)) → μ' 16 (l + 1) i = μ 16 (l + 1) i) ∧ μ' 11 (l + 1) 1 = μ 11 l 1 + c + 1 ∧ μ' 13 (l + 1) (μ 11 l 1 + c + 1) = st (Nt μ l) (c + 1) ∧ (∀ s, st (Nt μ l) c ≤ s → s < st (Nt μ l) (c + 1) → μ' 14 (l + 1) s = μ 17 l (un (Nt μ l) s) ∧ μ' 15 (l + 1) s = μ 11 l 1 + c ∧ μ' 16 (l + 1) s = pv (Nt μ l) (un (Nt μ l) s) ∧ μ' 16 (l + 1) (pv (Nt μ l) (un (Nt μ l) s)) = s)) := by
  intro q
  induction q using Nat.strongRecOn with
  | _ q ih =>
  intro k ν hq h0 h1 fra frb hpn h13 hs
  have hCc := capC_in l
  have hCp := capP_in l
  have hCe := capE_in l
  have hCc1 := capC_in (l + 1)
  have hCp1 := capP_in (l + 1)
  have hCe1 := capE_in (l + 1)
  have nb := hg.nb hC hP hn hE
  have hP0 : 0 ≤ μ 11 l 1 := nb.1.2.1.1
  have hd := hg.door (c := c) hc0 hc1
  have hss := st_s hg.1 c
  have hm1 := st_mono hg.1 _ (c + 1) (μ 11 l 0) rfl (by omega)
  have hm0 := st_mono hg.1 _ 0 c rfl hc0
  have hsC : st (Nt μ l) (μ 11 l 0) = 2 * μ 13 l (μ 11 l 1) := st_C hg.1
  have hs0 : st (Nt μ l) 0 = μ 13 l (μ 11 l 1) := st_0 hg.1
  have hdg : μ 19 l c = (deg (Nt μ l) c : Int) := hd.2.2.2.1
  have hd1 : (0 ≤ μ 20 l c ∧ μ 20 l c < μ 13 l (μ 11 l 1)) := hd.1
  refine e_iload (dec_at dX2_addCornerPlate 10) rfl ?_
  refine e_aload_n 1 (dec_at dX2_addCornerPlate 11) rfl rfl ?_
  refine e_getr 10 (dec_at dX2_addCornerPlate 12) flX2_33 rfl rfl ?_
  refine e_iload_n 2 (dec_at dX2_addCornerPlate 13) rfl rfl ?_
  refine e_ialdv ((deg (Nt μ l) c : Int)) (dec_at dX2_addCornerPlate 14) rfl (by decide) (aLk_19 _) (by omega) (by rw [fra 19 l c (by omega)]; exact hdg) (fun r23 => ?_)
  refine e_icmp_ge 101 (dec_at dX2_addCornerPlate 15) (by decide) (by omega) (by omega) (fun h24 => ?_) (fun h24 => ?_)
  · refine e_aload_n 0 (dec_at dX2_addCornerPlate 59) rfl rfl ?_
    refine e_iload_n 3 (dec_at dX2_addCornerPlate 60) rfl rfl ?_
    refine e_aload_n 1 (dec_at dX2_addCornerPlate 61) rfl rfl ?_
    refine e_getr 10 (dec_at dX2_addCornerPlate 62) flX2_33 rfl rfl ?_
    refine e_iload_n 2 (dec_at dX2_addCornerPlate 63) rfl rfl ?_
    refine e_ialdv ((deg (Nt μ l) c : Int)) (dec_at dX2_addCornerPlate 64) rfl (by decide) (aLk_19 _) (by omega) (by rw [fra 19 l c (by omega)]; exact hdg) (fun r108 => ?_)
    refine e_iadd (dec_at dX2_addCornerPlate 65) ?_
    refine e_callVv (M' := mX2_closePlate) (dec_at dX2_addCornerPlate 66) mlX2_57 (c_closePlate (μ := ν) (l + 1) _ (by omega) (by omega)) oX2_closePlate iX2_closePlate rfl rfl rfl rfl (by decide) (by decide) (Nat.le_of_ble_eq_true rfl) ?_
    refine e_return (dec_at dX2_addCornerPlate 67) rfl ?_
    have hkk : st (Nt μ l) c + k = st (Nt μ l) (c + 1) := by omega
    rw [hkk] at hs
    refine ⟨rfl, fun k1 l1 i z => ?_, fun i z w => ?_, ?_, ?_, fun s a b => ?_⟩
    · rw [hpn, mset_ne (by omega), mset_ne (by omega)]; exact fra k1 l1 i z
    · rw [mset_k (by decide), mset_k (by decide)]; exact frb i z w
    · rw [hpn, mset_k (by decide), mset_eq]
    · rw [hpn, mset_eq]; omega
    · rw [mset_k (by decide), mset_k (by decide), mset_k (by decide), mset_k (by decide), mset_k (by decide), mset_k (by decide), mset_k (by decide), mset_k (by decide)]; exact hs s a b
  · have hor := hg.1.itr hd1.1 hd1.2 k.toNat
    have hor1 : 0 ≤ it (rho (Nt μ l)) k.toNat (μ 20 l c) ∧ it (rho (Nt μ l)) k.toNat (μ 20 l c) < μ 13 l (μ 11 l 1) := hor.1
    have hpv := hg.1.2.1.pvr hor.1.1 hor.1.2
    have hpv1 : 0 ≤ pv (Nt μ l) (it (rho (Nt μ l)) k.toNat (μ 20 l c)) ∧ pv (Nt μ l) (it (rho (Nt μ l)) k.toNat (μ 20 l c)) < μ 13 l (μ 11 l 1) := hpv.1
    have hbp := hg.1.b1 hpv.1.1 hpv.1.2
    have hun := (un_at hg hc0 hc1 (k := k.toNat) (by omega)).2.2
    rw [Int.toNat_of_nonneg h0] at hun
    have hun2 : it (rho (Nt μ l)) k.toNat (μ 20 l c) = un (Nt μ l) (st (Nt μ l) c + k) := hun.symm
    refine e_aload_n 1 (dec_at dX2_addCornerPlate 16) rfl rfl ?_
    refine e_iload (dec_at dX2_addCornerPlate 17) rfl ?_
    refine e_callVr (M' := mX2_stepBefore) (dec_at dX2_addCornerPlate 18) mlX2_78 ((c_stepBefore (μ := ν) l (it (rho (Nt μ l)) k.toNat (μ 20 l c)) (nb.1.fr (fun k i => fra k l i (by omega))) hor.1.1 (by rw [fra 11 l 1 (by omega), fra 13 l _ (by omega)]; exact hor.1.2)).rt (r' := some (vI (pv (Nt μ l) (it (rho (Nt μ l)) k.toNat (μ 20 l c))))) (by rw [show ν 13 l = μ 13 l from funext (fun i => fra 13 l i (by omega)), show ν 15 l = μ 15 l from funext (fun i => fra 15 l i (by omega))]; rfl) rfl) oX2_stepBefore iX2_stepBefore rfl rfl rfl rfl (by decide) (by decide) (Nat.le_of_ble_eq_true rfl) ?_
    refine e_is6 (dec_at dX2_addCornerPlate 19) (by decide) rfl ?_
    refine e_aload_n 0 (dec_at dX2_addCornerPlate 20) rfl rfl ?_
    refine e_getr 5 (dec_at dX2_addCornerPlate 21) flX2_18 rfl rfl ?_
    refine e_iload_n 3 (dec_at dX2_addCornerPlate 22) rfl rfl ?_
    refine e_iload (dec_at dX2_addCornerPlate 23) rfl ?_
    refine e_iadd (dec_at dX2_addCornerPlate 24) ?_
    refine e_aload_n 1 (dec_at dX2_addCornerPlate 25) rfl rfl ?_
    refine e_getr 8 (dec_at dX2_addCornerPlate 26) flX2_27 rfl rfl ?_
    refine e_iload (dec_at dX2_addCornerPlate 27) rfl ?_
    refine e_ialdv (μ 17 l (it (rho (Nt μ l)) k.toNat (μ 20 l c))) (dec_at dX2_addCornerPlate 28) rfl (by decide) (aLk_17 _) (by omega) (by exact fra 17 l _ (by omega)) (fun r49 => ?_)
    refine e_iast (dec_at dX2_addCornerPlate 29) rfl (by decide) (aLk_14 _) (by omega) (by omega) ?_
    refine e_aload_n 0 (dec_at dX2_addCornerPlate 30) rfl rfl ?_
    refine e_getr 6 (dec_at dX2_addCornerPlate 31) flX2_21 rfl rfl ?_
    refine e_iload_n 3 (dec_at dX2_addCornerPlate 32) rfl rfl ?_
    refine e_iload (dec_at dX2_addCornerPlate 33) rfl ?_
    refine e_iadd (dec_at dX2_addCornerPlate 34) ?_
    refine e_aload_n 0 (dec_at dX2_addCornerPlate 35) rfl rfl ?_
    refine e_getiv 1 1 (μ 11 l 1 + c) (dec_at dX2_addCornerPlate 36) flX2_43 rfl rfl rfl (by rw [mset_k (by decide)]; exact hpn) (fun r60 => ?_)
    refine e_iast (dec_at dX2_addCornerPlate 37) rfl (by decide) (aLk_15 _) (by omega) (by omega) ?_
    refine e_aload_n 0 (dec_at dX2_addCornerPlate 38) rfl rfl ?_
    refine e_getr 7 (dec_at dX2_addCornerPlate 39) flX2_24 rfl rfl ?_
    refine e_iload_n 3 (dec_at dX2_addCornerPlate 40) rfl rfl ?_
    refine e_iload (dec_at dX2_addCornerPlate 41) rfl ?_
    refine e_iadd (dec_at dX2_addCornerPlate 42) ?_
    refine e_iload (dec_at dX2_addCornerPlate 43) rfl ?_
    refine e_iast (dec_at dX2_addCornerPlate 44) rfl (by decide) (aLk_16 _) (by omega) (by omega) ?_
    refine e_aload_n 0 (dec_at dX2_addCornerPlate 45) rfl rfl ?_
    refine e_getr 7 (dec_at dX2_addCornerPlate 46) flX2_24 rfl rfl ?_
    refine e_iload (dec_at dX2_addCornerPlate 47) rfl ?_
    refine e_iload_n 3 (dec_at dX2_addCornerPlate 48) rfl rfl ?_
    refine e_iload (dec_at dX2_addCornerPlate 49) rfl ?_
    refine e_iadd (dec_at dX2_addCornerPlate 50) ?_
    refine e_iast (dec_at dX2_addCornerPlate 51) rfl (by decide) (aLk_16 _) (by omega) (by omega) ?_
    refine e_aload_n 1 (dec_at dX2_addCornerPlate 52) rfl rfl ?_
    refine e_getr 7 (dec_at dX2_addCornerPlate 53) flX2_24 rfl rfl ?_
    refine e_iload (dec_at dX2_addCornerPlate 54) rfl ?_
    refine e_ialdv (μ 16 l (pv (Nt μ l) (it (rho (Nt μ l)) k.toNat (μ 20 l c)))) (dec_at dX2_addCornerPlate 55) rfl (by decide) (aLk_16 _) (by omega) (by rw [mset_l (by omega), mset_l (by omega), mset_l (by omega), mset_l (by omega)]; exact fra 16 l _ (by omega)) (fun r92 => ?_)
    refine e_is4 (dec_at dX2_addCornerPlate 56) (by decide) rfl ?_
    refine e_ii5 (dec_at dX2_addCornerPlate 57) (by decide) rfl ?_
    refine e_goto 16 (dec_at dX2_addCornerPlate 58) (by decide) ?_
    have hnx : rho (Nt μ l) (it (rho (Nt μ l)) k.toNat (μ 20 l c)) = it (rho (Nt μ l)) (k + 1).toNat (μ 20 l c) := by
      rw [show (k + 1).toNat = k.toNat + 1 by omega]
      rfl
    have hnx2 : μ 16 l (pv (Nt μ l) (it (rho (Nt μ l)) k.toNat (μ 20 l c))) = it (rho (Nt μ l)) (k + 1).toNat (μ 20 l c) := hnx
    rw [hnx2]
    refine e_le [some (vR 11 (l + 1)), some (vR 11 l), some (vI c), some (vI (st (Nt μ l) c)), some (vI (it (rho (Nt μ l)) (k + 1).toNat (μ 20 l c))), some (vI (k + 1)), none] (by simp [leL]) (ih _ (by omega) (k + 1) _ rfl (by omega) (by omega) (fr_set (fr_set (fr_set (fr_set fra (by omega)) (by omega)) (by omega)) (by omega)) (fun i z w => ?_) ?_ ?_ (fun s a b => ?_))
    · have w1 := w (st (Nt μ l) c + k) (by omega) (by omega)
      rw [← hun2] at w1
      rw [mset_i w1, mset_i (by omega), mset_k (by decide), mset_k (by decide)]
      exact frb i z w
    · rw [mset_k (by decide), mset_k (by decide), mset_k (by decide), mset_k (by decide)]; exact hpn
    · rw [mset_k (by decide), mset_k (by decide), mset_k (by decide), mset_k (by decide)]; exact h13
    · by_cases q : s = st (Nt μ l) c + k
      · subst q
        rw [← hun2, mset_k (by decide), mset_k (by decide), mset_k (by decide), mset_eq, mset_k (by decide), mset_k (by decide), mset_eq, mset_i (by omega), mset_eq, mset_eq]
        exact ⟨rfl, rfl, rfl, rfl⟩
      · have hsr := un_r hg (s := s) (by show μ 13 l (μ 11 l 1) ≤ s; omega) (by show s < 2 * μ 13 l (μ 11 l 1); omega)
        have hsv := hg.1.2.1.pvr hsr.1.1 hsr.1.2
        have hsv1 : 0 ≤ pv (Nt μ l) (un (Nt μ l) s) ∧ pv (Nt μ l) (un (Nt μ l) s) < μ 13 l (μ 11 l 1) := hsv.1
        have hne : pv (Nt μ l) (un (Nt μ l) s) ≠ pv (Nt μ l) (it (rho (Nt μ l)) k.toNat (μ 20 l c)) := fun z => by
          have e := hg.1.pvi hsr.1.1 hsr.1.2 hor.1.1 hor.1.2 z
          have e1 := ps_un hg (s := s) (by show μ 13 l (μ 11 l 1) ≤ s; omega) (by show s < 2 * μ 13 l (μ 11 l 1); omega)
          have e2 := ps_un hg (s := st (Nt μ l) c + k) (by show μ 13 l (μ 11 l 1) ≤ _; omega) (by show _ < 2 * μ 13 l (μ 11 l 1); omega)
          rw [e, hun2, e2] at e1
          exact q e1.symm
        have hso := hs s a (by omega)
        rw [mset_k (by decide), mset_k (by decide), mset_k (by decide), mset_i q, mset_k (by decide), mset_k (by decide), mset_i q, mset_k (by decide), mset_i (by omega), mset_i q, mset_k (by decide), mset_k (by decide), mset_i hne, mset_i (by omega), mset_k (by decide), mset_k (by decide)]
        exact hso

set_option maxRecDepth 100000 in
set_option maxHeartbeats 4000000 in
theorem c_addCornerPlate {μ : Mm} (l c : Int) (hg : Good (Nt μ l)) (hC : μ 11 l 0 ≤ capC l) (hP : μ 11 l 1 ≤ capP l) (hn : μ 13 l (μ 11 l 1) ≤ 2 * capE l) (hE : μ 11 l 2 ≤ capE l) (hE1 : μ 11 l 2 ≤ capC (l + 1)) (hP1 : μ 11 l 1 + μ 11 l 0 ≤ capP (l + 1)) (hn1 : μ 13 l (μ 11 l 1) ≤ capE (l + 1)) (hc0 : 0 ≤ c) (hc1 : c < μ 11 l 0) (hp : μ 11 (l + 1) 1 = μ 11 l 1 + c) (hst : μ 13 (l + 1) (μ 11 l 1 + c) = st (Nt μ l) c) : Mc mX2_addCornerPlate 1 [vR 11 (l + 1), vR 11 l, vI c] μ (fun r μ' => r = none ∧ (∀ k l1 i, ¬ (l1 = l + 1 ∧ (k = 11 ∧ i = 1 ∨ k = 13 ∧ i = μ 11 l 1 + c + 1 ∨ ((k = 14 ∨ k = 15) ∧ st (Nt μ l) c ≤ i ∧ i < st (Nt μ l) (c + 1)) ∨ k = 16)) → μ' k l1 i = μ k l1 i) ∧ (∀ i, ¬ (st (Nt μ l) c ≤ i ∧ i < st (Nt μ l) (c + 1)) → (∀ s, st (Nt μ l) c ≤ s → s < st (Nt μ l) (c + 1) → i ≠ pv (Nt μ l) (un (Nt μ l) s)) → μ' 16 (l + 1) i = μ 16 (l + 1) i) ∧ μ' 11 (l + 1) 1 = μ 11 l 1 + c + 1 ∧ μ' 13 (l + 1) (μ 11 l 1 + c + 1) = st (Nt μ l) (c + 1) ∧ (∀ s, st (Nt μ l) c ≤ s → s < st (Nt μ l) (c + 1) → μ' 14 (l + 1) s = μ 17 l (un (Nt μ l) s) ∧ μ' 15 (l + 1) s = μ 11 l 1 + c ∧ μ' 16 (l + 1) s = pv (Nt μ l) (un (Nt μ l) s) ∧ μ' 16 (l + 1) (pv (Nt μ l) (un (Nt μ l) s)) = s)) := by
  refine Mc.of (L := [some (vR 11 (l + 1)), some (vR 11 l), some (vI c), none, none, none, none]) (by decide +kernel) (by simp [leL, entA, isLong, mX2_addCornerPlate]) (by simp [entA, isLong, mX2_addCornerPlate]) ?_
  have hCc := capC_in l
  have hCp := capP_in l
  have hCe := capE_in l
  have hCc1 := capC_in (l + 1)
  have hCp1 := capP_in (l + 1)
  have hCe1 := capE_in (l + 1)
  have nb := hg.nb hC hP hn hE
  have hP0 : 0 ≤ μ 11 l 1 := nb.1.2.1.1
  have hd := hg.door (c := c) hc0 hc1
  have hss := st_s hg.1 c
  have hm1 := st_mono hg.1 _ (c + 1) (μ 11 l 0) rfl (by omega)
  have hm0 := st_mono hg.1 _ 0 c rfl hc0
  have hsC : st (Nt μ l) (μ 11 l 0) = 2 * μ 13 l (μ 11 l 1) := st_C hg.1
  have hs0 : st (Nt μ l) 0 = μ 13 l (μ 11 l 1) := st_0 hg.1
  have hdg : μ 19 l c = (deg (Nt μ l) c : Int) := hd.2.2.2.1
  have hd1 : (0 ≤ μ 20 l c ∧ μ 20 l c < μ 13 l (μ 11 l 1)) := hd.1
  refine e_aload_n 0 (dec_at dX2_addCornerPlate 0) rfl rfl ?_
  refine e_callVr (M' := mX2_steps) (dec_at dX2_addCornerPlate 1) mlX2_53 ((c_steps (μ := μ) (l + 1) (by omega)).rt (r' := some (vI (st (Nt μ l) c))) (by rw [hp, hst]) rfl) oX2_steps iX2_steps rfl rfl rfl rfl (by decide) (by decide) (Nat.le_of_ble_eq_true rfl) ?_
  refine e_is3 (dec_at dX2_addCornerPlate 2) (by decide) rfl ?_
  refine e_aload_n 1 (dec_at dX2_addCornerPlate 3) rfl rfl ?_
  refine e_getr 11 (dec_at dX2_addCornerPlate 4) flX2_36 rfl rfl ?_
  refine e_iload_n 2 (dec_at dX2_addCornerPlate 5) rfl rfl ?_
  refine e_iald (dec_at dX2_addCornerPlate 6) rfl (by decide) (aLk_20 _) (by omega) (fun r10 => ?_)
  refine e_is4 (dec_at dX2_addCornerPlate 7) (by decide) rfl ?_
  refine e_iconst (dec_at dX2_addCornerPlate 8) ?_
  refine e_is5 (dec_at dX2_addCornerPlate 9) (by decide) rfl ?_
  exact l_addCP hg hC hP hn hE hE1 hP1 hn1 hc0 hc1 hp hst _ 0 μ rfl (by omega) (by omega) (fun _ _ _ _ => rfl) (fun _ _ _ => rfl) hp rfl (fun s a b => by omega)
end
section
/-- the memory's net has the plates, rings and steps back of the next level -/
def Pre5 (B A : Net) : Prop := B 0 0 = A 0 0 ∧ B 0 1 = A 0 1 ∧ (∀ f, 0 ≤ f → f ≤ B 0 1 → B 2 f = A 2 f) ∧ (∀ s, 0 ≤ s → s < nN B → B 3 s = A 3 s ∧ B 4 s = A 4 s ∧ B 5 s = A 5 s)
/-- Good of a net by another with the same steps -/
theorem Pre5.good {B A : Net} (h : Pre5 B A) (g : GC B) (d : DE B ∧ DD B) (da : DE A ∧ DD A) : Agr B A :=
  Agr.of ⟨h.1, h.2.1, h.2.2.1, fun s h0 h1 => (h.2.2.2 s h0 h1).1⟩ g d da (fun s h0 h1 => (h.2.2.2 s h0 h1).2.1) (fun s h0 h1 => (h.2.2.2 s h0 h1).2.2)

set_option maxRecDepth 100000 in
set_option maxHeartbeats 4000000 in
theorem l_shape35 {μ ν : Mm} {l : Int} (hg : Good (Nt μ l)) (hC : μ 11 l 0 ≤ capC l) (hP : μ 11 l 1 ≤ capP l) (hn : μ 13 l (μ 11 l 1) ≤ 2 * capE l) (hE : μ 11 l 2 ≤ capE l) (hE1 : μ 11 l 2 ≤ capC (l + 1)) (hP1 : μ 11 l 1 + μ 11 l 0 ≤ capP (l + 1)) (hn1 : μ 13 l (μ 11 l 1) ≤ capE (l + 1)) (hE2 : cE (rfA (Nt μ l) 5) (2 * μ 13 l (μ 11 l 1)) ≤ capE (l + 1)) (fr : ∀ k l1 i, ¬ (l1 = l + 1 ∧ 11 ≤ k ∧ k ≤ 20 ∧ k ≠ 12) → ν k l1 i = μ k l1 i) (h5 : Pre5 (rfA (Nt μ l)) (Nt ν (l + 1))) : Ev mX2_shapeFrom 2 35 [some (vR 11 (l + 1)), some (vR 11 l), none] [] ν (fun r μ' => r = none ∧ (∀ k l1 i, ¬ (l1 = l + 1 ∧ 11 ≤ k ∧ k ≤ 20 ∧ k ≠ 12) → μ' k l1 i = μ k l1 i) ∧ Agr (rfA (Nt μ l)) (Nt μ' (l + 1))) := by
  have hCc := capC_in l
  have hCp := capP_in l
  have hCe := capE_in l
  have hCc1 := capC_in (l + 1)
  have hCp1 := capP_in (l + 1)
  have hCe1 := capE_in (l + 1)
  have hG := rf_good hg
  have hnb : ν 13 (l + 1) (ν 11 (l + 1) 1) = 2 * μ 13 l (μ 11 l 1) := by
    have := SC.n (A := (rfA (Nt μ l))) (B := Nt ν (l + 1)) ⟨h5.1, h5.2.1, h5.2.2.1, fun s h0 h1 => (h5.2.2.2 s h0 h1).1⟩ hG.1.2.1.1
    rw [rf_n hg.1] at this
    exact this.symm
  have hnB : nN (rfA (Nt μ l)) = 2 * μ 13 l (μ 11 l 1) := rf_n hg.1
  have hn0 : 0 ≤ μ 13 l (μ 11 l 1) := hg.1.2.1.n0
  have e0 : ν 11 (l + 1) 0 = μ 11 l 2 := h5.1.symm
  have e1 : ν 11 (l + 1) 1 = μ 11 l 1 + μ 11 l 0 := h5.2.1.symm
  have hp0 : 0 ≤ μ 11 l 1 := hg.1.2.1.1
  have hc0 : 0 ≤ μ 11 l 0 := hg.1.1
  have he0 : 0 ≤ μ 11 l 2 := hG.1.1
  have h55 : ∀ s, 0 ≤ s → s < 2 * μ 13 l (μ 11 l 1) → ν 16 (l + 1) s = (rfA (Nt μ l)) 5 s := fun s a b => ((h5.2.2.2 s a (by rw [hnB]; exact b)).2.2).symm
  have hcE : cE (ν 16 (l + 1)) (2 * μ 13 l (μ 11 l 1)) = cE ((rfA (Nt μ l)) 5) (2 * μ 13 l (μ 11 l 1)) := cE_cg (n := 2 * μ 13 l (μ 11 l 1)) h55 (by omega)
  have hbk : ∀ s, 0 ≤ s → s < ν 13 (l + 1) (ν 11 (l + 1) 1) → (0 ≤ ν 16 (l + 1) s ∧ ν 16 (l + 1) s < ν 13 (l + 1) (ν 11 (l + 1) 1)) ∧ ν 16 (l + 1) (ν 16 (l + 1) s) = s ∧ ν 16 (l + 1) s ≠ s := by
    intro s a b
    rw [hnb] at b ⊢
    have z := hG.1.b1 (s := s) a (by rw [hnB]; exact b)
    have w := hG.1.bne (s := s) a (by rw [hnB]; exact b)
    rw [hnB] at z
    rw [h55 s a b, h55 _ z.2.1.1 z.2.1.2]
    exact ⟨z.2.1, z.2.2.1, w⟩
  refine e_aload_n 0 (dec_at dX2_shapeFrom 19) rfl rfl ?_
  refine e_callV (M' := mX2_numberEdges) (dec_at dX2_shapeFrom 20) mlX2_72 (c_numberEdges (μ := ν) (l + 1) (by omega) (by omega) hbk (by rw [hnb, hcE]; exact hE2)) oX2_numberEdges iX2_numberEdges rfl rfl rfl rfl (by decide) (by decide) (Nat.le_of_ble_eq_true rfl) (fun r ν1 hQ => ?_)
  obtain ⟨rfl, f1, f2, f3, f4⟩ := hQ
  refine e_mem (μ' := ν1) rfl ?_
  show Ev mX2_shapeFrom 2 39 _ [] ν1 _
  refine e_aload_n 0 (dec_at dX2_shapeFrom 21) rfl rfl ?_
  refine e_callV (M' := mX2_findDoors) (dec_at dX2_shapeFrom 22) mlX2_75 (c_findDoors (μ := ν1) (l + 1) (by rw [f1 11 _ 0 (by omega)]; omega) (by rw [f1 11 _ 1 (by omega)]; omega) (by rw [f1 11 _ 1 (by omega), f1 13 _ _ (by omega)]; omega) (fun s a b => by
      rw [f1 11 _ 1 (by omega), f1 13 _ _ (by omega), hnb] at b
      rw [f1 14 _ _ (by omega), f1 11 _ 0 (by omega)]
      have z1 := (h5.2.2.2 s a (by rw [hnB]; exact b)).1
      have z2 := h5.1
      have z3 := (hG.1.b1 (s := s) a (by rw [hnB]; exact b)).1
      rw [z1, z2] at z3
      exact z3)) oX2_findDoors iX2_findDoors rfl rfl rfl rfl (by decide) (by decide) (Nat.le_of_ble_eq_true rfl) (fun r ν2 hQ => ?_)
  obtain ⟨rfl, g1, g2⟩ := hQ
  show Ev mX2_shapeFrom 2 43 _ [] ν2 _
  refine e_return (dec_at dX2_shapeFrom 23) rfl ?_
  refine ⟨rfl, fun k l1 i z => ?_, ?_⟩
  · rw [g1 k l1 i (by omega), f1 k l1 i (by omega)]; exact fr k l1 i z
  · have E1 : ∀ (k : Nat) (i : Int), k ≠ 19 → k ≠ 20 → k ≠ 17 → k ≠ 18 → ¬ (k = 11 ∧ i = 2) → ν2 k (l + 1) i = ν k (l + 1) i := fun k i a b c d e => by rw [g1 k _ i (by omega), f1 k _ i (by omega)]
    have h5' : Pre5 (rfA (Nt μ l)) (Nt ν2 (l + 1)) := by
      refine ⟨h5.1.trans (E1 11 0 (by decide) (by decide) (by decide) (by decide) (by omega)).symm, h5.2.1.trans (E1 11 1 (by decide) (by decide) (by decide) (by decide) (by omega)).symm, fun f a b => (h5.2.2.1 f a b).trans (E1 13 f (by decide) (by decide) (by decide) (by decide) (by omega)).symm, fun s a b => ?_⟩
      have z := h5.2.2.2 s a b
      exact ⟨z.1.trans (E1 14 s (by decide) (by decide) (by decide) (by decide) (by omega)).symm, z.2.1.trans (E1 15 s (by decide) (by decide) (by decide) (by decide) (by omega)).symm, z.2.2.trans (E1 16 s (by decide) (by decide) (by decide) (by decide) (by omega)).symm⟩
    have f0 : ∀ i, ν1 16 (l + 1) i = ν 16 (l + 1) i := fun i => f1 16 _ i (by omega)
    have x0 : ν2 11 (l + 1) 0 = ν 11 (l + 1) 0 := E1 11 0 (by decide) (by decide) (by decide) (by decide) (by omega)
    have x1 : ν2 11 (l + 1) 1 = ν 11 (l + 1) 1 := E1 11 1 (by decide) (by decide) (by decide) (by decide) (by omega)
    have x13 : ∀ i, ν2 13 (l + 1) i = ν 13 (l + 1) i := fun i => E1 13 i (by decide) (by decide) (by decide) (by decide) (by omega)
    have x14 : ν2 14 (l + 1) = ν 14 (l + 1) := funext (fun i => E1 14 i (by decide) (by decide) (by decide) (by decide) (by omega))
    have x16 : ν2 16 (l + 1) = ν 16 (l + 1) := funext (fun i => E1 16 i (by decide) (by decide) (by decide) (by decide) (by omega))
    have y14 : ν1 14 (l + 1) = ν 14 (l + 1) := funext (fun i => f1 14 _ i (by omega))
    have y17 : ∀ i, ν2 17 (l + 1) i = ν1 17 (l + 1) i := fun i => g1 17 _ i (by omega)
    have xn : nN (Nt ν2 (l + 1)) = ν 13 (l + 1) (ν 11 (l + 1) 1) := by
      show ν2 13 (l + 1) (ν2 11 (l + 1) 1) = _
      rw [x1, x13]
    have yn : ν1 13 (l + 1) (ν1 11 (l + 1) 1) = ν 13 (l + 1) (ν 11 (l + 1) 1) := by rw [f1 11 _ 1 (by omega), f1 13 _ _ (by omega)]
    refine h5'.good hG.1 hG.2 ⟨⟨?_, fun s a b => ?_, fun s a b c => ?_⟩, fun c a b => ?_⟩
    · show ν2 11 (l + 1) 2 = cE (ν2 16 (l + 1)) (nN (Nt ν2 (l + 1)))
      rw [g1 11 _ 2 (by omega), f2, x16, xn]
    · show ν2 17 (l + 1) s = if ν2 16 (l + 1) s < s then cE (ν2 16 (l + 1)) (ν2 16 (l + 1) s) else cE (ν2 16 (l + 1)) s
      rw [xn] at b
      rw [y17, x16]
      exact f3 s a b
    · rw [xn] at b
      show ν2 18 (l + 1) (cE (ν2 16 (l + 1)) s) = s
      have c : fm (ν2 16 (l + 1)) s := c
      rw [x16] at c ⊢
      rw [g1 18 _ _ (by omega)]
      exact f4 s a b c
    · have b : c < ν2 11 (l + 1) 0 := b
      rw [x0] at b
      have z := g2 c a (by rw [f1 11 _ 0 (by omega)]; exact b)
      rw [yn, y14] at z
      have e2 : (deg (Nt ν2 (l + 1)) c) = ct (fun t => ν 14 (l + 1) t = c) (ν 13 (l + 1) (ν 11 (l + 1) 1)).toNat := by
        unfold deg
        rw [xn]
        show ct (fun s => ν2 14 (l + 1) s = c) _ = _
        rw [x14]
      have e3 := h5'.2.2.2
      have d3 : 3 ≤ deg (rfA (Nt μ l)) c := (hG.door (c := c) a (by rw [h5.1]; exact b)).2.2.1
      have e4 : deg (rfA (Nt μ l)) c = deg (Nt ν2 (l + 1)) c := SC.dge (A := (rfA (Nt μ l))) (B := Nt ν2 (l + 1)) ⟨h5'.1, h5'.2.1, h5'.2.2.1, fun s h0 h1 => (h5'.2.2.2 s h0 h1).1⟩ hG.1.2.1.1 c
      have z2 := z.2 (by rw [← e2, ← e4]; omega)
      refine ⟨by rw [e2]; exact z.1, by rw [xn]; exact z2.1, ?_, fun s p q r => ?_⟩
      · show ν2 14 (l + 1) (ν2 20 (l + 1) c) = c
        rw [x14]; exact z2.2.1
      · show ν2 17 (l + 1) (ν2 20 (l + 1) c) ≤ ν2 17 (l + 1) s
        rw [xn] at q
        have r : ν2 14 (l + 1) s = c := r
        rw [x14] at r
        rw [y17, y17]
        exact z2.2.2 s p q r

set_option maxRecDepth 100000 in
set_option maxHeartbeats 4000000 in
theorem l_shape15 {μ : Mm} {l : Int} (hg : Good (Nt μ l)) (hC : μ 11 l 0 ≤ capC l) (hP : μ 11 l 1 ≤ capP l) (hn : μ 13 l (μ 11 l 1) ≤ 2 * capE l) (hE : μ 11 l 2 ≤ capE l) (hE1 : μ 11 l 2 ≤ capC (l + 1)) (hP1 : μ 11 l 1 + μ 11 l 0 ≤ capP (l + 1)) (hn1 : μ 13 l (μ 11 l 1) ≤ capE (l + 1)) (hE2 : cE (rfA (Nt μ l) 5) (2 * μ 13 l (μ 11 l 1)) ≤ capE (l + 1)) : ∀ (q : Nat) (c : Int) (ν : Mm), (μ 11 l 0 - c).toNat = q → 0 ≤ c → c ≤ μ 11 l 0 → (∀ k l1 i, ¬ (l1 = l + 1 ∧ 11 ≤ k ∧ k ≤ 20 ∧ k ≠ 12) → ν k l1 i = μ k l1 i) → ν 11 (l + 1) 0 = μ 11 l 2 → ν 11 (l + 1) 1 = μ 11 l 1 + c → (∀ f, 0 ≤ f → f ≤ μ 11 l 1 → ν 13 (l + 1) f = μ 13 l f) → (∀ j, 0 ≤ j → j ≤ c → ν 13 (l + 1) (μ 11 l 1 + j) = st (Nt μ l) j) → (∀ s, 0 ≤ s → s < μ 13 l (μ 11 l 1) → ν 14 (l + 1) s = μ 17 l s ∧ ν 15 (l + 1) s = μ 15 l s) → (∀ s, μ 13 l (μ 11 l 1) ≤ s → s < st (Nt μ l) c → ν 14 (l + 1) s = μ 17 l (un (Nt μ l) s) ∧ ν 15 (l + 1) s = μ 11 l 1 + crn (Nt μ l) s ∧ ν 16 (l + 1) s = pv (Nt μ l) (un (Nt μ l) s) ∧ ν 16 (l + 1) (pv (Nt μ l) (un (Nt μ l) s)) = s) → Ev mX2_shapeFrom 2 15 [some (vR 11 (l + 1)), some (vR 11 l), some (vI c)] [] ν (fun r μ' => r = none ∧ (∀ k l1 i, ¬ (l1 = l + 1 ∧ 11 ≤ k ∧ k ≤ 20 ∧ k ≠ 12) → μ' k l1 i = μ k l1 i) ∧ Agr (rfA (Nt μ l)) (Nt μ' (l + 1))) := by
  intro q
  induction q using Nat.strongRecOn with
  | _ q ih =>
  intro c ν hq h0 h1 fr hc hp hf hs hr hh
  have hCc := capC_in l
  have hCp := capP_in l
  have hCe := capE_in l
  have hCc1 := capC_in (l + 1)
  have hCp1 := capP_in (l + 1)
  have hCe1 := capE_in (l + 1)
  have hss := st_s hg.1 c
  have hm1 : c + 1 ≤ μ 11 l 0 → st (Nt μ l) (c + 1) ≤ st (Nt μ l) (μ 11 l 0) := fun z => st_mono hg.1 _ (c + 1) (μ 11 l 0) rfl z
  have hm0 := st_mono hg.1 _ 0 c rfl h0
  have hsC : st (Nt μ l) (μ 11 l 0) = 2 * μ 13 l (μ 11 l 1) := st_C hg.1
  have hs0 : st (Nt μ l) 0 = μ 13 l (μ 11 l 1) := st_0 hg.1
  have hp0 : 0 ≤ μ 11 l 1 := hg.1.2.1.1
  have hcr : 0 ≤ μ 11 l 0 ∧ μ 11 l 0 ≤ capC l := ⟨hg.1.1, hC⟩
  have hNe : ∀ k i, ν k l i = μ k l i := fun k i => fr k l i (by omega)
  have hNt : Nt ν l = Nt μ l := by funext j i; exact hNe _ _
  refine e_iload_n 2 (dec_at dX2_shapeFrom 9) rfl rfl ?_
  refine e_aload_n 1 (dec_at dX2_shapeFrom 10) rfl rfl ?_
  refine e_getiv 0 0 (μ 11 l 0) (dec_at dX2_shapeFrom 11) flX2_39 rfl rfl rfl (by exact hNe 11 0) (fun r17 => ?_)
  refine e_icmp_ge 35 (dec_at dX2_shapeFrom 12) (by decide) (by omega) (by omega) (fun h20 => ?_) (fun h20 => ?_)
  · obtain rfl : c = μ 11 l 0 := by omega
    rw [hsC] at hh
    refine e_le [some (vR 11 (l + 1)), some (vR 11 l), none] (by simp [leL]) (l_shape35 (μ := μ) (ν := ν) hg hC hP hn hE hE1 hP1 hn1 hE2 fr ⟨hc.symm, hp.symm, fun f a b => ?_, fun s a b => ?_⟩)
    · have b : f ≤ μ 11 l 1 + μ 11 l 0 := b
      show rfA (Nt μ l) 2 f = ν 13 (l + 1) f
      by_cases q : f ≤ μ 11 l 1
      · rw [rf_fst hg.1 (show f ≤ (Nt μ l) 0 1 from q), hf f a q]; rfl
      · have e := rf_st hg.1 (c := f - μ 11 l 1) (by omega)
        rw [show (Nt μ l) 0 1 + (f - μ 11 l 1) = f by show μ 11 l 1 + (f - μ 11 l 1) = f; omega] at e
        have e2 := hs (f - μ 11 l 1) (by omega) (by omega)
        rw [show μ 11 l 1 + (f - μ 11 l 1) = f by omega] at e2
        rw [e, e2]
    · rw [rf_n hg.1] at b
      have b : s < 2 * μ 13 l (μ 11 l 1) := b
      by_cases q : s < μ 13 l (μ 11 l 1)
      · have z := hr s a q
        refine ⟨?_, ?_, ?_⟩
        · rw [rf_3l (A := (Nt μ l)) q]; exact z.1.symm
        · rw [rf_4l (A := (Nt μ l)) q]; exact z.2.symm
        · rw [rf_5l (A := (Nt μ l)) q]
          have w := hg.1.2.1.nxr a q
          have u := un_ps hg w.1.1 w.1.2
          have v := (hh _ u.1.1 u.1.2).2.2.2
          rw [u.2, hg.1.2.1.pvnx a q] at v
          exact v.symm
      · have z := hh s (by omega) b
        refine ⟨?_, ?_, ?_⟩
        · rw [rf_3h (A := (Nt μ l)) (by show μ 13 l (μ 11 l 1) ≤ s; omega)]; exact z.1.symm
        · rw [rf_4h (A := (Nt μ l)) (by show μ 13 l (μ 11 l 1) ≤ s; omega)]; exact z.2.1.symm
        · rw [rf_5h (A := (Nt μ l)) (by show μ 13 l (μ 11 l 1) ≤ s; omega)]; exact z.2.2.1.symm
  · refine e_aload_n 0 (dec_at dX2_shapeFrom 13) rfl rfl ?_
    refine e_aload_n 1 (dec_at dX2_shapeFrom 14) rfl rfl ?_
    refine e_iload_n 2 (dec_at dX2_shapeFrom 15) rfl rfl ?_
    refine e_callV (M' := mX2_addCornerPlate) (dec_at dX2_shapeFrom 16) mlX2_68 (c_addCornerPlate (μ := ν) l c (by rw [hNt]; exact hg) (by rw [hNe]; exact hC) (by rw [hNe]; exact hP) (by rw [hNe, hNe]; exact hn) (by rw [hNe]; exact hE) (by rw [hNe]; exact hE1) (by rw [hNe, hNe]; exact hP1) (by rw [hNe, hNe]; exact hn1) h0 (by rw [hNe]; omega) (by rw [hNe]; exact hp) (by rw [hNe, hNt]; exact hs c h0 (by omega))) oX2_addCornerPlate iX2_addCornerPlate rfl rfl rfl rfl (by decide) (by decide) (Nat.le_of_ble_eq_true rfl) (fun r ν1 hQ => ?_)
    rw [hNt, show ν 11 l 1 = μ 11 l 1 from hNe 11 1] at hQ
    rw [show ν 17 l = μ 17 l from funext (hNe 17)] at hQ
    obtain ⟨rfl, f1, f2, f3, f4, f5⟩ := hQ
    show Ev mX2_shapeFrom 2 29 _ [] ν1 _
    refine e_ii2 (dec_at dX2_shapeFrom 17) (by decide) rfl ?_
    refine e_goto 15 (dec_at dX2_shapeFrom 18) (by decide) ?_
    have hm2 := hm1 (by omega)
    refine ih _ (by omega) (c + 1) ν1 rfl (by omega) (by omega) (fun k l1 i z => ?_) ?_ ?_ (fun f a b => ?_) (fun j a b => ?_) (fun s a b => ?_) (fun s a b => ?_)
    · by_cases q : l1 = l + 1
      · subst q
        rw [f1 k _ i (by omega)]; exact fr k _ i z
      · rw [f1 k l1 i (by omega)]; exact fr k l1 i z
    · rw [f1 11 _ 0 (by omega)]; exact hc
    · rw [f3]; omega
    · rw [f1 13 _ f (by omega)]; exact hf f a b
    · by_cases q : j = c + 1
      · subst q
        rw [show μ 11 l 1 + (c + 1) = μ 11 l 1 + c + 1 by omega]; exact f4
      · rw [f1 13 _ _ (by omega)]; exact hs j a (by omega)
    · rw [f1 14 _ s (by omega), f1 15 _ s (by omega)]; exact hr s a b
    · by_cases q : st (Nt μ l) c ≤ s
      · have z := f5 s q b
        rw [crn_u hg.1 h0 (show c < (Nt μ l) 0 0 from (by show c < μ 11 l 0; omega)) q b]
        exact z
      · have z := hh s a (by omega)
        have hsr := un_r hg (s := s) a (by show s < 2 * μ 13 l (μ 11 l 1); omega)
        have hsv := hg.1.2.1.pvr hsr.1.1 hsr.1.2
        have hsv1 : 0 ≤ pv (Nt μ l) (un (Nt μ l) s) ∧ pv (Nt μ l) (un (Nt μ l) s) < μ 13 l (μ 11 l 1) := hsv.1
        refine ⟨by rw [f1 14 _ s (by omega)]; exact z.1, by rw [f1 15 _ s (by omega)]; exact z.2.1, ?_, ?_⟩
        · rw [f2 s (by omega) (fun t x y e => ?_)]
          · exact z.2.2.1
          · have htr := un_r hg (s := t) (by show μ 13 l (μ 11 l 1) ≤ t; omega) (by show t < 2 * μ 13 l (μ 11 l 1); omega)
            have htv := hg.1.2.1.pvr htr.1.1 htr.1.2
            have htv1 : 0 ≤ pv (Nt μ l) (un (Nt μ l) t) ∧ pv (Nt μ l) (un (Nt μ l) t) < μ 13 l (μ 11 l 1) := htv.1
            omega
        · rw [f2 _ (by omega) (fun t x y e => ?_)]
          · exact z.2.2.2
          · have htr := un_r hg (s := t) (by show μ 13 l (μ 11 l 1) ≤ t; omega) (by show t < 2 * μ 13 l (μ 11 l 1); omega)
            have e1 := hg.1.pvi hsr.1.1 hsr.1.2 htr.1.1 htr.1.2 e
            have e2 := ps_un hg (s := s) a (by show s < 2 * μ 13 l (μ 11 l 1); omega)
            have e3 := ps_un hg (s := t) (by show μ 13 l (μ 11 l 1) ≤ t; omega) (by show t < 2 * μ 13 l (μ 11 l 1); omega)
            rw [e1, e3] at e2
            omega

set_option maxRecDepth 100000 in
set_option maxHeartbeats 4000000 in
theorem c_shapeFrom {μ : Mm} (l : Int) (hg : Good (Nt μ l)) (hC : μ 11 l 0 ≤ capC l) (hP : μ 11 l 1 ≤ capP l) (hn : μ 13 l (μ 11 l 1) ≤ 2 * capE l) (hE : μ 11 l 2 ≤ capE l) (hE1 : μ 11 l 2 ≤ capC (l + 1)) (hP1 : μ 11 l 1 + μ 11 l 0 ≤ capP (l + 1)) (hn1 : μ 13 l (μ 11 l 1) ≤ capE (l + 1)) (hE2 : cE (rfA (Nt μ l) 5) (2 * μ 13 l (μ 11 l 1)) ≤ capE (l + 1)) : Mc mX2_shapeFrom 2 [vR 11 (l + 1), vR 11 l] μ (fun r μ' => r = none ∧ (∀ k l1 i, ¬ (l1 = l + 1 ∧ 11 ≤ k ∧ k ≤ 20 ∧ k ≠ 12) → μ' k l1 i = μ k l1 i) ∧ Agr (rfA (Nt μ l)) (Nt μ' (l + 1))) := by
  refine Mc.of (L := [some (vR 11 (l + 1)), some (vR 11 l), none]) (by decide +kernel) (by simp [leL, entA, isLong, mX2_shapeFrom]) (by simp [entA, isLong, mX2_shapeFrom]) ?_
  have hCc := capC_in l
  have hCp := capP_in l
  have hCe := capE_in l
  have hCc1 := capC_in (l + 1)
  have hCp1 := capP_in (l + 1)
  have hCe1 := capE_in (l + 1)
  have nb := hg.nb hC hP hn hE
  have hp0 : 0 ≤ μ 11 l 1 := hg.1.2.1.1
  have hcr : 0 ≤ μ 11 l 0 ∧ μ 11 l 0 ≤ capC l := ⟨hg.1.1, hC⟩
  have hn0 : 0 ≤ μ 13 l (μ 11 l 1) := hg.1.2.1.n0
  have hs0 : st (Nt μ l) 0 = μ 13 l (μ 11 l 1) := st_0 hg.1
  have hNe : ∀ k i, mset μ 11 (l + 1) 0 (μ 11 l 2) k l i = μ k l i := fun k i => mset_l (by omega)
  refine e_aload_n 0 (dec_at dX2_shapeFrom 0) rfl rfl ?_
  refine e_aload_n 1 (dec_at dX2_shapeFrom 1) rfl rfl ?_
  refine e_geti 2 2 (dec_at dX2_shapeFrom 2) flX2_61 rfl rfl rfl (fun r2 => ?_)
  refine e_put 0 0 (dec_at dX2_shapeFrom 3) flX2_39 fpX2_0 rfl rfl rfl (by omega) (fit_int _) ?_
  refine e_aload_n 0 (dec_at dX2_shapeFrom 4) rfl rfl ?_
  refine e_aload_n 1 (dec_at dX2_shapeFrom 5) rfl rfl ?_
  refine e_callV (M' := mX2_shrinkPlates) (dec_at dX2_shapeFrom 6) mlX2_64 (c_shrinkPlates (μ := mset μ 11 (l + 1) 0 (μ 11 l 2)) l (by rw [hNe]; omega) (by rw [hNe]; omega) (by rw [hNe, hNe]; omega) (by rw [hNe, hNe]; omega)) oX2_shrinkPlates iX2_shrinkPlates rfl rfl rfl rfl (by decide) (by decide) (Nat.le_of_ble_eq_true rfl) (fun r ν hQ => ?_)
  rw [show (mset μ 11 (l + 1) 0 (μ 11 l 2)) 11 l 1 = μ 11 l 1 from hNe 11 1] at hQ
  rw [show (mset μ 11 (l + 1) 0 (μ 11 l 2)) 13 l = μ 13 l from funext (hNe 13), show (mset μ 11 (l + 1) 0 (μ 11 l 2)) 17 l = μ 17 l from funext (hNe 17), show (mset μ 11 (l + 1) 0 (μ 11 l 2)) 15 l = μ 15 l from funext (hNe 15)] at hQ
  obtain ⟨rfl, f1, f2, f3, f4⟩ := hQ
  show Ev mX2_shapeFrom 2 13 _ [] ν _
  refine e_iconst (dec_at dX2_shapeFrom 7) ?_
  refine e_is2 (dec_at dX2_shapeFrom 8) (by decide) rfl ?_
  refine l_shape15 hg hC hP hn hE hE1 hP1 hn1 hE2 _ 0 ν rfl (by omega) (by omega) (fun k l1 i z => ?_) ?_ (by rw [f2]; omega) (fun f a b => f3 f a (by omega)) (fun j a b => ?_) f4 (fun s a b => by omega)
  · rw [f1 k l1 i (by omega), mset_ne (by omega)]
  · rw [f1 11 _ 0 (by omega), mset_eq]
  · obtain rfl : j = 0 := by omega
    rw [Int.add_zero, f3 _ hp0 (by omega), hs0]
end
section
/-- the base as the class keeps it -/
def XB (μ : Mm) : Prop := Bas (Nt μ 0) ∧ μ 11 0 0 ≤ 14 ∧ μ 11 0 1 ≤ 14 ∧ μ 13 0 (μ 11 0 1) ≤ 84
theorem XB.nb {μ : Mm} (h : XB μ) : NB1 μ 0 := by
  have g := h.1.2.1
  have e1 : capC 0 = 14 := rfl
  have e2 : capP 0 = 14 := rfl
  have e3 : capE 0 = 42 := rfl
  have h2 := h.2
  refine ⟨⟨h.1.1, by omega⟩, ⟨g.1, by omega⟩, ⟨g.n0, by omega⟩, fun f h0 h1 => ?_, fun s h0 h1 => ⟨h.1.2.2 s h0 h1, g.2.2.2 s h0 h1⟩⟩
  have a := g.2.2.1 f h0 h1
  have b := g.le (f := f) h0 (Int.le_of_lt h1)
  have c := g.le (f := f + 1) (by omega) h1
  have a : μ 13 0 f + 3 ≤ μ 13 0 (f + 1) := a
  have b : 0 ≤ μ 13 0 f ∧ _ := b
  have c : 0 ≤ μ 13 0 (f + 1) ∧ μ 13 0 (f + 1) ≤ μ 13 0 (μ 11 0 1) := c
  exact ⟨b.1, by omega, c.2⟩
def FN (p : Int → Prop) (N v : Int) : Prop := (v = -1 ∧ No p N) ∨ Fi p N v
abbrev QF (p : Int → Prop) (N : Int) (μ : Mm) : Option Vv → Mm → Prop := fun r μ' => μ' = μ ∧ ∃ v, r = some (vI v) ∧ FN p N v
/-- no more edges than half the steps -/
theorem cE_half {bk : Int → Int} {n : Int} (h0 : 0 ≤ n) (hb : ∀ s, 0 ≤ s → s < n → (0 ≤ bk s ∧ bk s < n) ∧ bk (bk s) = s ∧ bk s ≠ s) : 2 * cE bk n ≤ n := by
  have h1 := ct_add (p := fm bk) (q := fun s => ¬ fm bk s) (r := fun _ => True) n.toNat (fun i _ _ => ⟨⟨fun _ => Classical.em _, fun _ => trivial⟩, fun z => z.2 z.1⟩)
  rw [ct_full (p := fun _ => True) n.toNat (fun _ _ _ => trivial)] at h1
  have key : ∀ e : Nat, ∃ s : Int, e < ct (fm bk) n.toNat → (0 ≤ s ∧ s < n) ∧ fm bk s ∧ cE bk s = e := by
    intro e
    by_cases he : e < ct (fm bk) n.toNat
    · obtain ⟨s, a, b, c⟩ := ct_surj (p := fm bk) n.toNat e he
      exact ⟨s, fun _ => ⟨by omega, b, by unfold cE; rw [Int.toNat_natCast, c]⟩⟩
    · exact ⟨0, fun z => absurd z he⟩
  have hu := ct_inj (p := fun s => ¬ fm bk s) n.toNat (ct (fm bk) n.toNat) (fun e => bk (Classical.choose (key e))) (fun e he => by
    have a := Classical.choose_spec (key e) he
    have b := hb _ a.1.1 a.1.2
    refine ⟨by omega, ?_⟩
    generalize Classical.choose (key e) = x at a b
    have c : ¬ bk x < x := a.2.1
    exact fun z => (show ¬ bk (bk x) < bk x from z) (by rw [b.2.1]; omega)) (fun e e' he he' q => by
    have a := Classical.choose_spec (key e) he
    have a' := Classical.choose_spec (key e') he'
    have b := hb _ a.1.1 a.1.2
    have b' := hb _ a'.1.1 a'.1.2
    have q : bk (Classical.choose (key e)) = bk (Classical.choose (key e')) := q
    have z := b.2.1
    rw [q, b'.2.1] at z
    have x := a.2.2
    rw [← z, a'.2.2] at x
    omega)
  unfold cE
  omega

set_option maxRecDepth 100000 in
set_option maxHeartbeats 4000000 in
theorem c_tellsN {μ : Mm} (k : Int) : Mc mX0_tells 0 [vR 5 0, vI k, vI (-1)] μ (Rt (some (vI 0)) μ) := by
  refine Mc.of (L := [some (vR 5 0), some (vI k), some (vI (-1))]) (by decide +kernel) (by simp [leL, entA, isLong, mX0_tells]) (by simp [entA, isLong, mX0_tells]) ?_
  refine e_iload_n 2 (dec_at dX0_tells 0) rfl rfl ?_
  refine e_iconst (dec_at dX0_tells 1) ?_
  refine e_icmp_ne 7 (dec_at dX0_tells 2) (by decide) (by decide) (by decide) (fun h2 => ?_) (fun h2 => ?_)
  · exact absurd rfl h2
  · refine e_iconst (dec_at dX0_tells 3) ?_
    refine e_zreturn (dec_at dX0_tells 4) rfl (by first | exact Or.inl rfl | exact Or.inr rfl | exact b01_or) ?_
    exact ⟨rfl, rfl⟩

set_option maxRecDepth 100000 in
set_option maxHeartbeats 4000000 in
theorem c_tellsY {μ : Mm} (k w : Int) (hk : inR k) (hw : inR w) (hn : w ≠ -1) : Mc mX0_tells 0 [vR 5 0, vI k, vI w] μ (Rt (some (vI 1)) (mset (mset μ 5 0 1 k) 5 0 2 w)) := by
  refine Mc.of (L := [some (vR 5 0), some (vI k), some (vI w)]) (by decide +kernel) (by simp [leL, entA, isLong, mX0_tells]) (by simp [entA, isLong, mX0_tells]) ?_
  refine e_iload_n 2 (dec_at dX0_tells 0) rfl rfl ?_
  refine e_iconst (dec_at dX0_tells 1) ?_
  refine e_icmp_ne 7 (dec_at dX0_tells 2) (by decide) (by omega) (by omega) (fun h2 => ?_) (fun h2 => ?_)
  · refine e_aload_n 0 (dec_at dX0_tells 5) rfl rfl ?_
    refine e_iload_n 1 (dec_at dX0_tells 6) rfl rfl ?_
    refine e_put 1 1 (dec_at dX0_tells 7) flX0_15 fpX0_1 rfl rfl rfl (by omega) (fit_int _) ?_
    refine e_aload_n 0 (dec_at dX0_tells 8) rfl rfl ?_
    refine e_iload_n 2 (dec_at dX0_tells 9) rfl rfl ?_
    refine e_put 2 2 (dec_at dX0_tells 10) flX0_19 fpX0_2 rfl rfl rfl (by omega) (fit_int _) ?_
    refine e_iconst (dec_at dX0_tells 11) ?_
    refine e_zreturn (dec_at dX0_tells 12) rfl (by first | exact Or.inl rfl | exact Or.inr rfl | exact b01_or) ?_
    exact ⟨rfl, rfl⟩
  · exact absurd h2 hn

set_option maxRecDepth 100000 in
set_option maxHeartbeats 4000000 in
theorem l_twice3 {μ : Mm} {f s : Int} (h : XB μ) (hf0 : 0 ≤ f) (hf1 : f < μ 11 0 1) (hs0 : μ 13 0 f ≤ s) (hs1 : s < μ 13 0 (f + 1)) (hno : ∀ g, 0 ≤ g → g < f → ¬ fTw (Nt μ 0) g) : ∀ (q : Nat) (t : Int), (s - t).toNat = q → μ 13 0 f ≤ t → t ≤ s → (∀ j, μ 13 0 f ≤ j → j < t → μ 14 0 s ≠ μ 14 0 j) → ((∀ j, μ 13 0 f ≤ j → j < s → μ 14 0 s ≠ μ 14 0 j) → Ev mX0_plateWithTwice 0 67 [some (vR 5 0), some (vR 11 0), some (vI f), some (vI s), none] [] μ (QF (fTw (Nt μ 0)) (μ 11 0 1) μ)) → Ev mX0_plateWithTwice 0 37 [some (vR 5 0), some (vR 11 0), some (vI f), some (vI s), some (vI t)] [] μ (QF (fTw (Nt μ 0)) (μ 11 0 1) μ) := by
  intro q
  induction q using Nat.strongRecOn with
  | _ q ih =>
  intro t hq h0 h1 hi K
  have nb := h.nb
  have hP := nb.2.1
  have hC := nb.1
  have hn := nb.2.2.1
  have h2 := h.2
  have e1 : capC 0 = 14 := rfl
  have e2 : capP 0 = 14 := rfl
  have e3 : capE 0 = 42 := rfl
  have hf := nb.2.2.2.1 f hf0 hf1
  refine e_iload (dec_at dX0_plateWithTwice 24) rfl ?_
  refine e_iload_n 3 (dec_at dX0_plateWithTwice 25) rfl rfl ?_
  refine e_icmp_ge 67 (dec_at dX0_plateWithTwice 26) (by decide) (by omega) (by omega) (fun h40 => ?_) (fun h40 => ?_)
  · exact e_le [some (vR 5 0), some (vR 11 0), some (vI f), some (vI s), none] (by simp [leL]) (K (fun j a b => hi j a (by omega)))
  · refine e_aload_n 1 (dec_at dX0_plateWithTwice 27) rfl rfl ?_
    refine e_getr 5 (dec_at dX0_plateWithTwice 28) flX0_57 rfl rfl ?_
    refine e_iload_n 3 (dec_at dX0_plateWithTwice 29) rfl rfl ?_
    refine e_iald (dec_at dX0_plateWithTwice 30) rfl (by decide) (aLk_14 _) (by omega) (fun r48 => ?_)
    refine e_aload_n 1 (dec_at dX0_plateWithTwice 31) rfl rfl ?_
    refine e_getr 5 (dec_at dX0_plateWithTwice 32) flX0_57 rfl rfl ?_
    refine e_iload (dec_at dX0_plateWithTwice 33) rfl ?_
    refine e_iald (dec_at dX0_plateWithTwice 34) rfl (by decide) (aLk_14 _) (by omega) (fun r55 => ?_)
    refine e_icmp_ne 61 (dec_at dX0_plateWithTwice 35) (by decide) (by omega) (by omega) (fun h56 => ?_) (fun h56 => ?_)
    · refine e_ii4 (dec_at dX0_plateWithTwice 38) (by decide) rfl ?_
      refine e_goto 37 (dec_at dX0_plateWithTwice 39) (by decide) ?_
      refine ih _ (by omega) (t + 1) rfl (by omega) (by omega) (fun j a b => ?_) K
      by_cases q : j = t
      · subst q; exact h56
      · exact hi j a (by omega)
    · refine e_iload_n 2 (dec_at dX0_plateWithTwice 36) rfl rfl ?_
      refine e_ireturn (dec_at dX0_plateWithTwice 37) rfl ?_
      refine ⟨rfl, f, rfl, Or.inr ⟨⟨hf0, hf1⟩, ⟨s, t, ?_⟩, hno⟩⟩
      show μ 13 0 f ≤ t ∧ t < s ∧ s < μ 13 0 (f + 1) ∧ μ 14 0 s = μ 14 0 t
      exact ⟨by omega, by omega, by omega, by omega⟩

set_option maxRecDepth 100000 in
set_option maxHeartbeats 4000000 in
theorem l_twice2 {μ : Mm} {f : Int} (h : XB μ) (hf0 : 0 ≤ f) (hf1 : f < μ 11 0 1) (hno : ∀ g, 0 ≤ g → g < f → ¬ fTw (Nt μ 0) g) : ∀ (q : Nat) (s : Int), (μ 13 0 (f + 1) - s).toNat = q → μ 13 0 f ≤ s → s ≤ μ 13 0 (f + 1) → (∀ j i, μ 13 0 f ≤ i → i < j → j < s → μ 14 0 j ≠ μ 14 0 i) → ((∀ j i, μ 13 0 f ≤ i → i < j → j < μ 13 0 (f + 1) → μ 14 0 j ≠ μ 14 0 i) → Ev mX0_plateWithTwice 0 73 [some (vR 5 0), some (vR 11 0), some (vI f), none, none] [] μ (QF (fTw (Nt μ 0)) (μ 11 0 1) μ)) → Ev mX0_plateWithTwice 0 17 [some (vR 5 0), some (vR 11 0), some (vI f), some (vI s), none] [] μ (QF (fTw (Nt μ 0)) (μ 11 0 1) μ) := by
  intro q
  induction q using Nat.strongRecOn with
  | _ q ih =>
  intro s hq h0 h1 hi K
  have nb := h.nb
  have hP := nb.2.1
  have hC := nb.1
  have hn := nb.2.2.1
  have h2 := h.2
  have e1 : capC 0 = 14 := rfl
  have e2 : capP 0 = 14 := rfl
  have e3 : capE 0 = 42 := rfl
  have hf := nb.2.2.2.1 f hf0 hf1
  refine e_iload_n 3 (dec_at dX0_plateWithTwice 11) rfl rfl ?_
  refine e_aload_n 1 (dec_at dX0_plateWithTwice 12) rfl rfl ?_
  refine e_getr 4 (dec_at dX0_plateWithTwice 13) flX0_54 rfl rfl ?_
  refine e_iload_n 2 (dec_at dX0_plateWithTwice 14) rfl rfl ?_
  refine e_iconst (dec_at dX0_plateWithTwice 15) ?_
  refine e_iadd (dec_at dX0_plateWithTwice 16) ?_
  refine e_iald (dec_at dX0_plateWithTwice 17) rfl (by decide) (aLk_13 _) (by omega) (fun r25 => ?_)
  refine e_icmp_ge 73 (dec_at dX0_plateWithTwice 18) (by decide) (by omega) (by omega) (fun h26 => ?_) (fun h26 => ?_)
  · exact e_le [some (vR 5 0), some (vR 11 0), some (vI f), none, none] (by simp [leL]) (K (fun j i a b c => hi j i a b (by omega)))
  · refine e_aload_n 1 (dec_at dX0_plateWithTwice 19) rfl rfl ?_
    refine e_getr 4 (dec_at dX0_plateWithTwice 20) flX0_54 rfl rfl ?_
    refine e_iload_n 2 (dec_at dX0_plateWithTwice 21) rfl rfl ?_
    refine e_iald (dec_at dX0_plateWithTwice 22) rfl (by decide) (aLk_13 _) (by omega) (fun r34 => ?_)
    refine e_is4 (dec_at dX0_plateWithTwice 23) (by decide) rfl ?_
    refine l_twice3 h hf0 hf1 h0 (by omega) hno _ _ rfl (by omega) (by omega) (fun j a b => by omega) (fun hx => ?_)
    refine e_ii3 (dec_at dX0_plateWithTwice 40) (by decide) rfl ?_
    refine e_goto 17 (dec_at dX0_plateWithTwice 41) (by decide) ?_
    refine ih _ (by omega) (s + 1) rfl (by omega) (by omega) (fun j i a b c => ?_) K
    by_cases q : j = s
    · subst q; exact hx i a b
    · exact hi j i a b (by omega)

set_option maxRecDepth 100000 in
set_option maxHeartbeats 4000000 in
theorem l_twice1 {μ : Mm} (h : XB μ) : ∀ (q : Nat) (f : Int), (μ 11 0 1 - f).toNat = q → 0 ≤ f → f ≤ μ 11 0 1 → (∀ g, 0 ≤ g → g < f → ¬ fTw (Nt μ 0) g) → Ev mX0_plateWithTwice 0 2 [some (vR 5 0), some (vR 11 0), some (vI f), none, none] [] μ (QF (fTw (Nt μ 0)) (μ 11 0 1) μ) := by
  intro q
  induction q using Nat.strongRecOn with
  | _ q ih =>
  intro f hq h0 h1 hno
  have nb := h.nb
  have hP := nb.2.1
  have hC := nb.1
  have hn := nb.2.2.1
  have h2 := h.2
  have e1 : capC 0 = 14 := rfl
  have e2 : capP 0 = 14 := rfl
  have e3 : capE 0 = 42 := rfl
  refine e_iload_n 2 (dec_at dX0_plateWithTwice 2) rfl rfl ?_
  refine e_aload_n 1 (dec_at dX0_plateWithTwice 3) rfl rfl ?_
  refine e_geti 1 1 (dec_at dX0_plateWithTwice 4) flX0_22 rfl rfl rfl (fun r4 => ?_)
  refine e_icmp_ge 79 (dec_at dX0_plateWithTwice 5) (by decide) (by omega) (by omega) (fun h7 => ?_) (fun h7 => ?_)
  · refine e_iconst (dec_at dX0_plateWithTwice 44) ?_
    refine e_ireturn (dec_at dX0_plateWithTwice 45) rfl ?_
    exact ⟨rfl, _, rfl, Or.inl ⟨rfl, fun i a b => hno i a (by omega)⟩⟩
  · have hf := nb.2.2.2.1 f h0 (by omega)
    refine e_aload_n 1 (dec_at dX0_plateWithTwice 6) rfl rfl ?_
    refine e_getr 4 (dec_at dX0_plateWithTwice 7) flX0_54 rfl rfl ?_
    refine e_iload_n 2 (dec_at dX0_plateWithTwice 8) rfl rfl ?_
    refine e_iald (dec_at dX0_plateWithTwice 9) rfl (by decide) (aLk_13 _) (by omega) (fun r15 => ?_)
    refine e_is3 (dec_at dX0_plateWithTwice 10) (by decide) rfl ?_
    refine l_twice2 h h0 (by omega) hno _ _ rfl (by omega) (by omega) (fun j i a b c => by omega) (fun hx => ?_)
    refine e_ii2 (dec_at dX0_plateWithTwice 42) (by decide) rfl ?_
    refine e_goto 2 (dec_at dX0_plateWithTwice 43) (by decide) ?_
    refine ih _ (by omega) (f + 1) rfl (by omega) (by omega) (fun g a b => ?_)
    by_cases q : g = f
    · subst q
      rintro ⟨s, t, x, y, z, w⟩
      exact hx s t x y z w
    · exact hno g a (by omega)

set_option maxRecDepth 100000 in
set_option maxHeartbeats 4000000 in
theorem c_twice {μ : Mm} (h : XB μ) : Mc mX0_plateWithTwice 0 [vR 5 0, vR 11 0] μ (QF (fTw (Nt μ 0)) (μ 11 0 1) μ) := by
  refine Mc.of (L := [some (vR 5 0), some (vR 11 0), none, none, none]) (by decide +kernel) (by simp [leL, entA, isLong, mX0_plateWithTwice]) (by simp [entA, isLong, mX0_plateWithTwice]) ?_
  have nb := h.nb
  have hP := nb.2.1
  have hC := nb.1
  have hn := nb.2.2.1
  have h2 := h.2
  have e1 : capC 0 = 14 := rfl
  have e2 : capP 0 = 14 := rfl
  have e3 : capE 0 = 42 := rfl
  refine e_iconst (dec_at dX0_plateWithTwice 0) ?_
  refine e_is2 (dec_at dX0_plateWithTwice 1) (by decide) rfl ?_
  exact l_twice1 h _ _ rfl (by omega) (by omega) (fun g a b => by omega)

set_option maxRecDepth 100000 in
set_option maxHeartbeats 4000000 in
theorem l_ringLength {μ : Mm} {x m : Int} (h : XB μ) (hb : ∀ s, 0 ≤ s → s < μ 13 0 (μ 11 0 1) → 0 ≤ μ 16 0 s ∧ μ 16 0 s < μ 13 0 (μ 11 0 1)) (hx0 : 0 ≤ x) (hx1 : x < μ 13 0 (μ 11 0 1)) (hm : inR m) : ∀ (q : Nat) (k : Int) (u : Int), (m - k).toNat = q → 1 ≤ k → inR k → 0 ≤ u ∧ u < μ 13 0 (μ 11 0 1) → u = it (rho (Nt μ 0)) (k - 1).toNat x → (∀ j : Nat, 0 < j → j < k → it (rho (Nt μ 0)) j x ≠ x) → Ev mX0_ringLength 1 6 [some (vR 5 0), some (vR 11 0), some (vI x), some (vI m), some (vI u), some (vI k)] [] μ (fun r μ' => μ' = μ ∧ ∃ v, r = some (vI v) ∧ inR v ∧ (v < m ↔ ∃ k : Nat, 0 < k ∧ k < m ∧ it (rho (Nt μ 0)) k x = x)) := by
  intro q
  induction q using Nat.strongRecOn with
  | _ q ih =>
  intro k u hq h0 h1 hu0 hu hi
  have nb := h.nb
  have hP := nb.2.1
  have hC := nb.1
  have hn := nb.2.2.1
  have h2 := h.2
  have e1 : capC 0 = 14 := rfl
  have e2 : capP 0 = 14 := rfl
  have e3 : capE 0 = 42 := rfl
  refine e_iload (dec_at dX0_ringLength 4) rfl ?_
  refine e_iload_n 3 (dec_at dX0_ringLength 5) rfl rfl ?_
  refine e_icmp_ge 40 (dec_at dX0_ringLength 6) (by decide) (by omega) (by omega) (fun h9 => ?_) (fun h9 => ?_)
  · refine e_iload_n 3 (dec_at dX0_ringLength 21) rfl rfl ?_
    refine e_ireturn (dec_at dX0_ringLength 22) rfl ?_
    refine ⟨rfl, m, rfl, hm, ⟨fun z => by omega, ?_⟩⟩
    rintro ⟨j, a, b, c⟩
    exact absurd c (hi j a (by omega))
  · have hpv := h.1.2.1.pvr hu0.1 hu0.2
    have hpv1 : 0 ≤ pv (Nt μ 0) u ∧ pv (Nt μ 0) u < μ 13 0 (μ 11 0 1) := hpv.1
    have hb1 := hb _ hpv1.1 hpv1.2
    have hit : μ 16 0 (pv (Nt μ 0) u) = it (rho (Nt μ 0)) k.toNat x := by
      obtain ⟨j, hj⟩ : ∃ j : Nat, k = (j : Int) + 1 := ⟨(k - 1).toNat, by omega⟩
      rw [show k.toNat = j + 1 by omega]
      rw [show (k - 1).toNat = j by omega] at hu
      rw [hu]
      rfl
    refine e_aload_n 1 (dec_at dX0_ringLength 7) rfl rfl ?_
    refine e_getr 7 (dec_at dX0_ringLength 8) flX0_71 rfl rfl ?_
    refine e_aload_n 1 (dec_at dX0_ringLength 9) rfl rfl ?_
    refine e_iload (dec_at dX0_ringLength 10) rfl ?_
    refine e_callVr (M' := mX2_stepBefore) (dec_at dX0_ringLength 11) mlX0_87 ((c_stepBefore (μ := μ) 0 u nb hu0.1 hu0.2).rt (r' := some (vI (pv (Nt μ 0) u))) rfl rfl) oX2_stepBefore iX2_stepBefore rfl rfl rfl rfl (by decide) (by decide) (Nat.le_of_ble_eq_true rfl) ?_
    refine e_iald (dec_at dX0_ringLength 12) rfl (by decide) (aLk_16 _) (by omega) (fun r22 => ?_)
    refine e_is4 (dec_at dX0_ringLength 13) (by decide) rfl ?_
    refine e_iload (dec_at dX0_ringLength 14) rfl ?_
    refine e_iload_n 2 (dec_at dX0_ringLength 15) rfl rfl ?_
    refine e_icmp_ne 34 (dec_at dX0_ringLength 16) (by decide) (by omega) (by omega) (fun h28 => ?_) (fun h28 => ?_)
    · refine e_ii5 (dec_at dX0_ringLength 19) (by decide) rfl ?_
      refine e_goto 6 (dec_at dX0_ringLength 20) (by decide) ?_
      refine ih _ (by omega) (k + 1) _ rfl (by omega) (by omega) hb1 (by rw [show k + 1 - 1 = k by omega]; exact hit) (fun j a b => ?_)
      by_cases q : (j : Int) = k
      · intro z
        rw [show j = k.toNat by omega, ← hit] at z
        exact h28 z
      · exact hi j a (by omega)
    · refine e_iload (dec_at dX0_ringLength 17) rfl ?_
      refine e_ireturn (dec_at dX0_ringLength 18) rfl ?_
      refine ⟨rfl, k, rfl, h1, ⟨fun _ => ⟨k.toNat, by omega, by omega, ?_⟩, fun _ => by omega⟩⟩
      rw [← hit]
      exact h28

set_option maxRecDepth 100000 in
set_option maxHeartbeats 4000000 in
theorem c_ringLength {μ : Mm} (x m : Int) (h : XB μ) (hb : ∀ s, 0 ≤ s → s < μ 13 0 (μ 11 0 1) → 0 ≤ μ 16 0 s ∧ μ 16 0 s < μ 13 0 (μ 11 0 1)) (hx0 : 0 ≤ x) (hx1 : x < μ 13 0 (μ 11 0 1)) (hm : inR m) : Mc mX0_ringLength 1 [vR 5 0, vR 11 0, vI x, vI m] μ (fun r μ' => μ' = μ ∧ ∃ v, r = some (vI v) ∧ inR v ∧ (v < m ↔ ∃ k : Nat, 0 < k ∧ k < m ∧ it (rho (Nt μ 0)) k x = x)) := by
  refine Mc.of (L := [some (vR 5 0), some (vR 11 0), some (vI x), some (vI m), none, none]) (by decide +kernel) (by simp [leL, entA, isLong, mX0_ringLength]) (by simp [entA, isLong, mX0_ringLength]) ?_
  have nb := h.nb
  have hP := nb.2.1
  have hC := nb.1
  have hn := nb.2.2.1
  have h2 := h.2
  have e1 : capC 0 = 14 := rfl
  have e2 : capP 0 = 14 := rfl
  have e3 : capE 0 = 42 := rfl
  refine e_iload_n 2 (dec_at dX0_ringLength 0) rfl rfl ?_
  refine e_is4 (dec_at dX0_ringLength 1) (by decide) rfl ?_
  refine e_iconst (dec_at dX0_ringLength 2) ?_
  refine e_is5 (dec_at dX0_ringLength 3) (by decide) rfl ?_
  exact l_ringLength h hb hx0 hx1 hm _ 1 x rfl (by omega) (by omega) ⟨hx0, hx1⟩ rfl (fun j a b => by omega)

set_option maxRecDepth 100000 in
set_option maxHeartbeats 4000000 in
theorem l_ofDegree {μ : Mm} {w : Int} (h : XB μ) (hw : inR w) : ∀ (q : Nat) (c : Int), (μ 11 0 0 - c).toNat = q → 0 ≤ c → c ≤ μ 11 0 0 → (∀ j, 0 ≤ j → j < c → ¬ μ 19 0 j = w) → Ev mX0_cornerOfDegree 0 2 [some (vR 5 0), some (vR 11 0), some (vI w), some (vI c)] [] μ (QF (fun c => μ 19 0 c = w) (μ 11 0 0) μ) := by
  intro q
  induction q using Nat.strongRecOn with
  | _ q ih =>
  intro c hq h0 h1 hi
  have nb := h.nb
  have hP := nb.2.1
  have hC := nb.1
  have hn := nb.2.2.1
  have h2 := h.2
  have e1 : capC 0 = 14 := rfl
  have e2 : capP 0 = 14 := rfl
  have e3 : capE 0 = 42 := rfl
  refine e_iload_n 3 (dec_at dX0_cornerOfDegree 2) rfl rfl ?_
  refine e_aload_n 1 (dec_at dX0_cornerOfDegree 3) rfl rfl ?_
  refine e_geti 0 0 (dec_at dX0_cornerOfDegree 4) flX0_74 rfl rfl rfl (fun r4 => ?_)
  refine e_icmp_ge 28 (dec_at dX0_cornerOfDegree 5) (by decide) (by omega) (by omega) (fun h7 => ?_) (fun h7 => ?_)
  · refine e_iconst (dec_at dX0_cornerOfDegree 16) ?_
    refine e_ireturn (dec_at dX0_cornerOfDegree 17) rfl ?_
    exact ⟨rfl, _, rfl, Or.inl ⟨rfl, fun i a b => hi i a (by omega)⟩⟩
  · refine e_aload_n 1 (dec_at dX0_cornerOfDegree 6) rfl rfl ?_
    refine e_getr 10 (dec_at dX0_cornerOfDegree 7) flX0_77 rfl rfl ?_
    refine e_iload_n 3 (dec_at dX0_cornerOfDegree 8) rfl rfl ?_
    refine e_iald (dec_at dX0_cornerOfDegree 9) rfl (by decide) (aLk_19 _) (by omega) (fun r15 => ?_)
    refine e_iload_n 2 (dec_at dX0_cornerOfDegree 10) rfl rfl ?_
    refine e_icmp_ne 22 (dec_at dX0_cornerOfDegree 11) (by decide) (by omega) (by omega) (fun h17 => ?_) (fun h17 => ?_)
    · refine e_ii3 (dec_at dX0_cornerOfDegree 14) (by decide) rfl ?_
      refine e_goto 2 (dec_at dX0_cornerOfDegree 15) (by decide) ?_
      refine ih _ (by omega) (c + 1) rfl (by omega) (by omega) (fun j a b => ?_)
      by_cases q : j = c
      · subst q; exact h17
      · exact hi j a (by omega)
    · refine e_iload_n 3 (dec_at dX0_cornerOfDegree 12) rfl rfl ?_
      refine e_ireturn (dec_at dX0_cornerOfDegree 13) rfl ?_
      exact ⟨rfl, c, rfl, Or.inr ⟨⟨h0, by omega⟩, by omega, hi⟩⟩

set_option maxRecDepth 100000 in
set_option maxHeartbeats 4000000 in
theorem c_ofDegree {μ : Mm} (w : Int) (h : XB μ) (hw : inR w) : Mc mX0_cornerOfDegree 0 [vR 5 0, vR 11 0, vI w] μ (QF (fun c => μ 19 0 c = w) (μ 11 0 0) μ) := by
  refine Mc.of (L := [some (vR 5 0), some (vR 11 0), some (vI w), none]) (by decide +kernel) (by simp [leL, entA, isLong, mX0_cornerOfDegree]) (by simp [entA, isLong, mX0_cornerOfDegree]) ?_
  have nb := h.nb
  have hP := nb.2.1
  have hC := nb.1
  have hn := nb.2.2.1
  have h2 := h.2
  have e1 : capC 0 = 14 := rfl
  have e2 : capP 0 = 14 := rfl
  have e3 : capE 0 = 42 := rfl
  refine e_iconst (dec_at dX0_cornerOfDegree 0) ?_
  refine e_is3 (dec_at dX0_cornerOfDegree 1) (by decide) rfl ?_
  exact l_ofDegree h hw _ 0 rfl (by omega) (by omega) (fun j a b => by omega)

set_option maxRecDepth 100000 in
set_option maxHeartbeats 4000000 in
theorem l_pinched {μ : Mm} (h : XB μ) (hb : ∀ s, 0 ≤ s → s < μ 13 0 (μ 11 0 1) → 0 ≤ μ 16 0 s ∧ μ 16 0 s < μ 13 0 (μ 11 0 1)) (hd : ∀ c, 0 ≤ c → c < μ 11 0 0 → 0 ≤ μ 20 0 c ∧ μ 20 0 c < μ 13 0 (μ 11 0 1)) : ∀ (q : Nat) (c : Int), (μ 11 0 0 - c).toNat = q → 0 ≤ c → c ≤ μ 11 0 0 → (∀ j, 0 ≤ j → j < c → ¬ (fun c => ∃ k : Nat, 0 < k ∧ k < μ 19 0 c ∧ it (rho (Nt μ 0)) k (μ 20 0 c) = μ 20 0 c) j) → Ev mX0_cornerPinched 2 2 [some (vR 5 0), some (vR 11 0), some (vI c)] [] μ (QF (fun c => ∃ k : Nat, 0 < k ∧ k < μ 19 0 c ∧ it (rho (Nt μ 0)) k (μ 20 0 c) = μ 20 0 c) (μ 11 0 0) μ) := by
  intro q
  induction q using Nat.strongRecOn with
  | _ q ih =>
  intro c hq h0 h1 hi
  have nb := h.nb
  have hP := nb.2.1
  have hC := nb.1
  have hn := nb.2.2.1
  have h2 := h.2
  have e1 : capC 0 = 14 := rfl
  have e2 : capP 0 = 14 := rfl
  have e3 : capE 0 = 42 := rfl
  refine e_iload_n 2 (dec_at dX0_cornerPinched 2) rfl rfl ?_
  refine e_aload_n 1 (dec_at dX0_cornerPinched 3) rfl rfl ?_
  refine e_geti 0 0 (dec_at dX0_cornerPinched 4) flX0_74 rfl rfl rfl (fun r4 => ?_)
  refine e_icmp_ge 44 (dec_at dX0_cornerPinched 5) (by decide) (by omega) (by omega) (fun h7 => ?_) (fun h7 => ?_)
  · refine e_iconst (dec_at dX0_cornerPinched 26) ?_
    refine e_ireturn (dec_at dX0_cornerPinched 27) rfl ?_
    exact ⟨rfl, _, rfl, Or.inl ⟨rfl, fun i a b => hi i a (by omega)⟩⟩
  · refine e_aload_n 0 (dec_at dX0_cornerPinched 6) rfl rfl ?_
    refine e_aload_n 1 (dec_at dX0_cornerPinched 7) rfl rfl ?_
    refine e_aload_n 1 (dec_at dX0_cornerPinched 8) rfl rfl ?_
    refine e_getr 11 (dec_at dX0_cornerPinched 9) flX0_80 rfl rfl ?_
    refine e_iload_n 2 (dec_at dX0_cornerPinched 10) rfl rfl ?_
    refine e_iald (dec_at dX0_cornerPinched 11) rfl (by decide) (aLk_20 _) (by omega) (fun r17 => ?_)
    refine e_aload_n 1 (dec_at dX0_cornerPinched 12) rfl rfl ?_
    refine e_getr 10 (dec_at dX0_cornerPinched 13) flX0_77 rfl rfl ?_
    refine e_iload_n 2 (dec_at dX0_cornerPinched 14) rfl rfl ?_
    refine e_iald (dec_at dX0_cornerPinched 15) rfl (by decide) (aLk_19 _) (by omega) (fun r23 => ?_)
    refine e_callV (M' := mX0_ringLength) (dec_at dX0_cornerPinched 16) mlX0_83 (c_ringLength (μ := μ) (μ 20 0 c) (μ 19 0 c) h hb (hd c h0 (by omega)).1 (hd c h0 (by omega)).2 r23) oX0_ringLength iX0_ringLength rfl rfl rfl rfl (by decide) (by decide) (Nat.le_of_ble_eq_true rfl) (fun r μ1 hQ => ?_)
    obtain ⟨rfl, v, rfl, hvr, hv⟩ := hQ
    show Ev mX0_cornerPinched 2 27 _ [vI v] μ1 _
    refine e_aload_n 1 (dec_at dX0_cornerPinched 17) rfl rfl ?_
    refine e_getr 10 (dec_at dX0_cornerPinched 18) flX0_77 rfl rfl ?_
    refine e_iload_n 2 (dec_at dX0_cornerPinched 19) rfl rfl ?_
    refine e_iald (dec_at dX0_cornerPinched 20) rfl (by decide) (aLk_19 _) (by omega) (fun r32 => ?_)
    refine e_icmp_ge 38 (dec_at dX0_cornerPinched 21) (by decide) (by exact hvr) (by omega) (fun h33 => ?_) (fun h33 => ?_)
    · refine e_ii2 (dec_at dX0_cornerPinched 24) (by decide) rfl ?_
      refine e_goto 2 (dec_at dX0_cornerPinched 25) (by decide) ?_
      refine ih _ (by omega) (c + 1) rfl (by omega) (by omega) (fun j a b => ?_)
      by_cases q : j = c
      · subst q; exact fun z => by have := hv.mpr z; omega
      · exact hi j a (by omega)
    · refine e_iload_n 2 (dec_at dX0_cornerPinched 22) rfl rfl ?_
      refine e_ireturn (dec_at dX0_cornerPinched 23) rfl ?_
      exact ⟨rfl, c, rfl, Or.inr ⟨⟨h0, by omega⟩, hv.mp (by omega), hi⟩⟩

set_option maxRecDepth 100000 in
set_option maxHeartbeats 4000000 in
theorem c_pinched {μ : Mm} (h : XB μ) (hb : ∀ s, 0 ≤ s → s < μ 13 0 (μ 11 0 1) → 0 ≤ μ 16 0 s ∧ μ 16 0 s < μ 13 0 (μ 11 0 1)) (hd : ∀ c, 0 ≤ c → c < μ 11 0 0 → 0 ≤ μ 20 0 c ∧ μ 20 0 c < μ 13 0 (μ 11 0 1)) : Mc mX0_cornerPinched 2 [vR 5 0, vR 11 0] μ (QF (fun c => ∃ k : Nat, 0 < k ∧ k < μ 19 0 c ∧ it (rho (Nt μ 0)) k (μ 20 0 c) = μ 20 0 c) (μ 11 0 0) μ) := by
  refine Mc.of (L := [some (vR 5 0), some (vR 11 0), none]) (by decide +kernel) (by simp [leL, entA, isLong, mX0_cornerPinched]) (by simp [entA, isLong, mX0_cornerPinched]) ?_
  have nb := h.nb
  have hP := nb.2.1
  have hC := nb.1
  have hn := nb.2.2.1
  have h2 := h.2
  have e1 : capC 0 = 14 := rfl
  have e2 : capP 0 = 14 := rfl
  have e3 : capE 0 = 42 := rfl
  refine e_iconst (dec_at dX0_cornerPinched 0) ?_
  refine e_is2 (dec_at dX0_cornerPinched 1) (by decide) rfl ?_
  exact l_pinched h hb hd _ 0 rfl (by omega) (by omega) (fun j a b => by omega)
end
section
/-- the table of steps made -/
def MD (μ ν : Mm) (m : Int) : Prop := (∀ t, 0 ≤ t → t < m → ν 6 0 (14 * μ 14 0 t + μ 14 0 (nx (Nt μ 0) t)) = t) ∧ (∀ a b, 0 ≤ a → a < 14 → 0 ≤ b → b < 14 → ν 6 0 (14 * a + b) = -1 ∨ ∃ t, 0 ≤ t ∧ t < m ∧ μ 14 0 t = a ∧ μ 14 0 (nx (Nt μ 0) t) = b ∧ ν 6 0 (14 * a + b) = t)
theorem XB.st {μ : Mm} (h : XB μ) {s : Int} (h0 : 0 ≤ s) (h1 : s < μ 13 0 (μ 11 0 1)) : (0 ≤ μ 14 0 s ∧ μ 14 0 s < 14) ∧ (0 ≤ μ 14 0 (nx (Nt μ 0) s) ∧ μ 14 0 (nx (Nt μ 0) s) < 14) ∧ (0 ≤ nx (Nt μ 0) s ∧ nx (Nt μ 0) s < μ 13 0 (μ 11 0 1)) ∧ (0 ≤ μ 15 0 s ∧ μ 15 0 s < μ 11 0 1) := by
  have a : 0 ≤ μ 14 0 s ∧ μ 14 0 s < μ 11 0 0 := h.1.2.2 s h0 h1
  have b := h.1.2.1.nxr h0 h1
  have c : 0 ≤ μ 14 0 (nx (Nt μ 0) s) ∧ μ 14 0 (nx (Nt μ 0) s) < μ 11 0 0 := h.1.2.2 _ b.1.1 b.1.2
  have d : (0 ≤ μ 15 0 s ∧ μ 15 0 s < μ 11 0 1) ∧ _ := h.1.2.1.2.2.2 s h0 h1
  have e := h.2
  exact ⟨by omega, by omega, b.1, d.1⟩
theorem XB.ord {μ : Mm} (h : XB μ) {s t : Int} (h0 : 0 ≤ s) (h1 : s < μ 13 0 (μ 11 0 1)) (g0 : 0 ≤ t) (g1 : t < μ 13 0 (μ 11 0 1)) (q : μ 15 0 t < μ 15 0 s) : t < s := by
  have a : (0 ≤ μ 15 0 s ∧ μ 15 0 s < μ 11 0 1) ∧ μ 13 0 (μ 15 0 s) ≤ s ∧ _ := h.1.2.1.2.2.2 s h0 h1
  have b : (0 ≤ μ 15 0 t ∧ μ 15 0 t < μ 11 0 1) ∧ μ 13 0 (μ 15 0 t) ≤ t ∧ t < μ 13 0 (μ 15 0 t + 1) := h.1.2.1.2.2.2 t g0 g1
  have c : μ 13 0 (μ 15 0 t + 1) + 3 * (μ 15 0 s - (μ 15 0 t + 1)) ≤ μ 13 0 (μ 15 0 s) := h.1.2.1.mono (f := μ 15 0 t + 1) (g := μ 15 0 s) (by omega) (by omega) (Int.le_of_lt a.1.2)
  omega

theorem NB1.frb {μ ν : Mm} {l : Int} (h : NB1 μ l) (f : ∀ (k : Nat) (i : Int), 11 ≤ k → k ≤ 15 → ν k l i = μ k l i) : NB1 ν l := by
  have e : ∀ k : Nat, 11 ≤ k → k ≤ 15 → ν k l = μ k l := fun k h1 hk => funext (fun i => f k i h1 hk)
  unfold NB1 at h ⊢
  rw [e 11 (by decide) (by decide), e 13 (by decide) (by decide), e 14 (by decide) (by decide), e 15 (by decide) (by decide)]
  exact h

set_option maxRecDepth 100000 in
set_option maxHeartbeats 4000000 in
theorem l_double2 {μ : Mm} (h : XB μ) : ∀ (q : Nat) (s : Int) (ν : Mm), (μ 13 0 (μ 11 0 1) - s).toNat = q → 0 ≤ s → s ≤ μ 13 0 (μ 11 0 1) → (∀ k l1 i, ¬ (k = 6) → ν k l1 i = μ k l1 i) → MD μ ν s → (∀ a b, 0 ≤ b → b < a → a < s → ¬ sst (Nt μ 0) a b) → Ev mX0_plateWithDouble 2 26 [some (vR 5 0), some (vR 11 0), some (vI s), none] [] ν (fun r μ' => (∀ k l1 i, ¬ (k = 6) → μ' k l1 i = μ k l1 i) ∧ ∃ v, r = some (vI v) ∧ ((v = -1 ∧ No (fDb (Nt μ 0)) (μ 11 0 1) ∧ MD μ μ' (μ 13 0 (μ 11 0 1))) ∨ Fi (fDb (Nt μ 0)) (μ 11 0 1) v)) := by
  intro q
  induction q using Nat.strongRecOn with
  | _ q ih =>
  intro s ν hq h0 h1 fr hM hi
  have nb := h.nb
  have hP := nb.2.1
  have hC := nb.1
  have hn := nb.2.2.1
  have h2 := h.2
  have e1 : capC 0 = 14 := rfl
  have e2 : capP 0 = 14 := rfl
  have e3 : capE 0 = 42 := rfl
  refine e_iload_n 2 (dec_at dX0_plateWithDouble 16) rfl rfl ?_
  refine e_aload_n 1 (dec_at dX0_plateWithDouble 17) rfl rfl ?_
  refine e_callVr (M' := mX2_steps) (dec_at dX0_plateWithDouble 18) mlX0_60 ((c_steps (μ := ν) 0 (by rw [fr 11 0 1 (by omega)]; omega)).rt (r' := some (vI (μ 13 0 (μ 11 0 1)))) (by rw [fr 11 0 1 (by omega), fr 13 0 _ (by omega)]) rfl) oX2_steps iX2_steps rfl rfl rfl rfl (by decide) (by decide) (Nat.le_of_ble_eq_true rfl) ?_
  refine e_icmp_ge 80 (dec_at dX0_plateWithDouble 19) (by decide) (by omega) (by omega) (fun h31 => ?_) (fun h31 => ?_)
  · refine e_iconst (dec_at dX0_plateWithDouble 49) ?_
    refine e_ireturn (dec_at dX0_plateWithDouble 50) rfl ?_
    obtain rfl : s = μ 13 0 (μ 11 0 1) := by omega
    refine ⟨fr, -1, rfl, Or.inl ⟨rfl, ?_, hM⟩⟩
    rintro g a b ⟨s', t', x, y, z, w, e⟩
    exact hi s' t' x y z e
  · have hs := h.st h0 (show s < μ 13 0 (μ 11 0 1) by omega)
    refine e_bipush (dec_at dX0_plateWithDouble 20) (by decide) ?_
    refine e_aload_n 1 (dec_at dX0_plateWithDouble 21) rfl rfl ?_
    refine e_getr 5 (dec_at dX0_plateWithDouble 22) flX0_57 rfl rfl ?_
    refine e_iload_n 2 (dec_at dX0_plateWithDouble 23) rfl rfl ?_
    refine e_ialdv (μ 14 0 s) (dec_at dX0_plateWithDouble 24) rfl (by decide) (aLk_14 _) (by omega) (by exact fr 14 0 s (by omega)) (fun r41 => ?_)
    refine e_imul (dec_at dX0_plateWithDouble 25) ?_
    refine e_aload_n 1 (dec_at dX0_plateWithDouble 26) rfl rfl ?_
    refine e_iload_n 2 (dec_at dX0_plateWithDouble 27) rfl rfl ?_
    refine e_callVr (M' := mX2_stepTarget) (dec_at dX0_plateWithDouble 28) mlX0_64 ((c_stepTarget (μ := ν) 0 s (nb.frb (fun k i h1 hk => fr k 0 i (by omega))) h0 (by rw [fr 11 0 1 (by omega), fr 13 0 _ (by omega)]; omega)).rt (r' := some (vI (μ 14 0 (nx (Nt μ 0) s)))) (by rw [show ν 13 0 = μ 13 0 from funext (fun i => fr 13 0 i (by omega)), show ν 15 0 = μ 15 0 from funext (fun i => fr 15 0 i (by omega)), fr 14 0 _ (by omega)]; rfl) rfl) oX2_stepTarget iX2_stepTarget rfl rfl rfl rfl (by decide) (by decide) (Nat.le_of_ble_eq_true rfl) ?_
    refine e_iadd (dec_at dX0_plateWithDouble 29) ?_
    refine e_is3 (dec_at dX0_plateWithDouble 30) (by decide) rfl ?_
    refine e_aload_n 0 (dec_at dX0_plateWithDouble 31) rfl rfl ?_
    refine e_getr 0 (dec_at dX0_plateWithDouble 32) flX0_9 rfl rfl ?_
    refine e_iload_n 3 (dec_at dX0_plateWithDouble 33) rfl rfl ?_
    refine e_iald (dec_at dX0_plateWithDouble 34) rfl (by decide) (aLk_6 _) (by omega) (fun r55 => ?_)
    refine e_iconst (dec_at dX0_plateWithDouble 35) ?_
    refine e_icmp_eq 67 (dec_at dX0_plateWithDouble 36) (by decide) (by omega) (by omega) (fun h57 => ?_) (fun h57 => ?_)
    · refine e_aload_n 0 (dec_at dX0_plateWithDouble 42) rfl rfl ?_
      refine e_getr 0 (dec_at dX0_plateWithDouble 43) flX0_9 rfl rfl ?_
      refine e_iload_n 3 (dec_at dX0_plateWithDouble 44) rfl rfl ?_
      refine e_iload_n 2 (dec_at dX0_plateWithDouble 45) rfl rfl ?_
      refine e_iast (dec_at dX0_plateWithDouble 46) rfl (by decide) (aLk_6 _) (by omega) (by omega) ?_
      refine e_ii2 (dec_at dX0_plateWithDouble 47) (by decide) rfl ?_
      refine e_goto 26 (dec_at dX0_plateWithDouble 48) (by decide) ?_
      have hns : ∀ b, 0 ≤ b → b < s → ¬ sst (Nt μ 0) s b := by
        rintro b b0 b1 ⟨x, y⟩
        have x : μ 14 0 s = μ 14 0 b := x
        have y : μ 14 0 (nx (Nt μ 0) s) = μ 14 0 (nx (Nt μ 0) b) := y
        have z := hM.1 b b0 b1
        rw [← x, ← y] at z
        omega
      refine e_le [some (vR 5 0), some (vR 11 0), some (vI (s + 1)), none] (by simp [leL]) (ih _ (by omega) (s + 1) _ rfl (by omega) (by omega) (fr_set fr rfl) ⟨fun t a b => ?_, fun a b a0 a1 b0 b1 => ?_⟩ (fun a b b0 ba c => ?_))
      · by_cases q : t = s
        · subst q; exact mset_eq
        · have ht := h.st (s := t) a (by omega)
          have hne : 14 * μ 14 0 t + μ 14 0 (nx (Nt μ 0) t) ≠ 14 * μ 14 0 s + μ 14 0 (nx (Nt μ 0) s) := fun z => hns t a (by omega) ⟨show μ 14 0 s = μ 14 0 t by omega, show μ 14 0 (nx (Nt μ 0) s) = μ 14 0 (nx (Nt μ 0) t) by omega⟩
          rw [mset_i hne]
          exact hM.1 t a (by omega)
      · by_cases q : 14 * a + b = 14 * μ 14 0 s + μ 14 0 (nx (Nt μ 0) s)
        · right
          refine ⟨s, h0, by omega, by omega, by omega, ?_⟩
          rw [q]; exact mset_eq
        · rw [mset_i q]
          rcases hM.2 a b a0 a1 b0 b1 with z | ⟨t, x, y, z⟩
          · exact Or.inl z
          · exact Or.inr ⟨t, x, by omega, z⟩
      · by_cases q : a = s
        · subst q; exact hns b b0 ba
        · exact hi a b b0 ba (by omega)
    · obtain hz | ⟨t, t0, t1, ta, tb, -⟩ := hM.2 (μ 14 0 s) (μ 14 0 (nx (Nt μ 0) s)) hs.1.1 hs.1.2 hs.2.1.1 hs.2.1.2
      · exact absurd hz h57
      refine e_aload_n 1 (dec_at dX0_plateWithDouble 37) rfl rfl ?_
      refine e_getr 6 (dec_at dX0_plateWithDouble 38) flX0_68 rfl rfl ?_
      refine e_iload_n 2 (dec_at dX0_plateWithDouble 39) rfl rfl ?_
      refine e_ialdv (μ 15 0 s) (dec_at dX0_plateWithDouble 40) rfl (by decide) (aLk_15 _) (by omega) (by exact fr 15 0 s (by omega)) (fun r65 => ?_)
      refine e_ireturn (dec_at dX0_plateWithDouble 41) rfl ?_
      refine ⟨fr, μ 15 0 s, rfl, Or.inr ⟨hs.2.2.2, ⟨s, t, t0, t1, by show s < μ 13 0 (μ 11 0 1); omega, rfl, ?_⟩, ?_⟩⟩
      · exact ⟨ta.symm, tb.symm⟩
      · rintro g a b ⟨s', t', x, y, z, w, e⟩
        have z : s' < μ 13 0 (μ 11 0 1) := z
        have w : μ 15 0 s' = g := w
        exact hi s' t' x y (h.ord h0 (by omega) (by omega) z (by omega)) e

set_option maxRecDepth 100000 in
set_option maxHeartbeats 4000000 in
theorem l_double1 {μ : Mm} (h : XB μ) : ∀ (q : Nat) (i : Int) (ν : Mm), (196 - i).toNat = q → 0 ≤ i → i ≤ 196 → (∀ k l1 i, ¬ (k = 6) → ν k l1 i = μ k l1 i) → (∀ j, 0 ≤ j → j < i → ν 6 0 j = -1) → Ev mX0_plateWithDouble 2 2 [some (vR 5 0), some (vR 11 0), some (vI i), none] [] ν (fun r μ' => (∀ k l1 i, ¬ (k = 6) → μ' k l1 i = μ k l1 i) ∧ ∃ v, r = some (vI v) ∧ ((v = -1 ∧ No (fDb (Nt μ 0)) (μ 11 0 1) ∧ MD μ μ' (μ 13 0 (μ 11 0 1))) ∨ Fi (fDb (Nt μ 0)) (μ 11 0 1) v)) := by
  intro q
  induction q using Nat.strongRecOn with
  | _ q ih =>
  intro i ν hq h0 h1 fr hi
  have nb := h.nb
  have hP := nb.2.1
  have hC := nb.1
  have hn := nb.2.2.1
  have h2 := h.2
  have e1 : capC 0 = 14 := rfl
  have e2 : capP 0 = 14 := rfl
  have e3 : capE 0 = 42 := rfl
  refine e_iload_n 2 (dec_at dX0_plateWithDouble 2) rfl rfl ?_
  refine e_aload_n 0 (dec_at dX0_plateWithDouble 3) rfl rfl ?_
  refine e_getr 0 (dec_at dX0_plateWithDouble 4) flX0_9 rfl rfl ?_
  refine e_alen (dec_at dX0_plateWithDouble 5) rfl (by decide) (aLk_6 _) ?_
  refine e_icmp_ge 24 (dec_at dX0_plateWithDouble 6) (by decide) (by omega) (by omega) (fun h8 => ?_) (fun h8 => ?_)
  · refine e_iconst (dec_at dX0_plateWithDouble 14) ?_
    refine e_is2 (dec_at dX0_plateWithDouble 15) (by decide) rfl ?_
    exact l_double2 h _ 0 ν rfl (by omega) (by omega) fr ⟨fun t a b => by omega, fun a b a0 a1 b0 b1 => Or.inl (hi _ (by omega) (by omega))⟩ (fun a b x y z => by omega)
  · refine e_aload_n 0 (dec_at dX0_plateWithDouble 7) rfl rfl ?_
    refine e_getr 0 (dec_at dX0_plateWithDouble 8) flX0_9 rfl rfl ?_
    refine e_iload_n 2 (dec_at dX0_plateWithDouble 9) rfl rfl ?_
    refine e_iconst (dec_at dX0_plateWithDouble 10) ?_
    refine e_iast (dec_at dX0_plateWithDouble 11) rfl (by decide) (aLk_6 _) (by omega) (by omega) ?_
    refine e_ii2 (dec_at dX0_plateWithDouble 12) (by decide) rfl ?_
    refine e_goto 2 (dec_at dX0_plateWithDouble 13) (by decide) ?_
    refine ih _ (by omega) (i + 1) _ rfl (by omega) (by omega) (fr_set fr rfl) (fun j a b => ?_)
    by_cases q : j = i
    · subst q; exact mset_eq
    · rw [mset_i q]; exact hi j a (by omega)

set_option maxRecDepth 100000 in
set_option maxHeartbeats 4000000 in
theorem c_double {μ : Mm} (h : XB μ) : Mc mX0_plateWithDouble 2 [vR 5 0, vR 11 0] μ (fun r μ' => (∀ k l1 i, ¬ (k = 6) → μ' k l1 i = μ k l1 i) ∧ ∃ v, r = some (vI v) ∧ ((v = -1 ∧ No (fDb (Nt μ 0)) (μ 11 0 1) ∧ MD μ μ' (μ 13 0 (μ 11 0 1))) ∨ Fi (fDb (Nt μ 0)) (μ 11 0 1) v)) := by
  refine Mc.of (L := [some (vR 5 0), some (vR 11 0), none, none]) (by decide +kernel) (by simp [leL, entA, isLong, mX0_plateWithDouble]) (by simp [entA, isLong, mX0_plateWithDouble]) ?_
  have nb := h.nb
  have hP := nb.2.1
  have hC := nb.1
  have hn := nb.2.2.1
  have h2 := h.2
  have e1 : capC 0 = 14 := rfl
  have e2 : capP 0 = 14 := rfl
  have e3 : capE 0 = 42 := rfl
  refine e_iconst (dec_at dX0_plateWithDouble 0) ?_
  refine e_is2 (dec_at dX0_plateWithDouble 1) (by decide) rfl ?_
  exact l_double1 h _ 0 μ rfl (by omega) (by omega) (fun _ _ _ _ => rfl) (fun j a b => by omega)

set_option maxRecDepth 100000 in
set_option maxHeartbeats 4000000 in
theorem l_open {μ : Mm} (h : XB μ) (hM : MD μ μ (μ 13 0 (μ 11 0 1))) : ∀ (q : Nat) (s : Int) (ν : Mm), (μ 13 0 (μ 11 0 1) - s).toNat = q → 0 ≤ s → s ≤ μ 13 0 (μ 11 0 1) → (∀ k l1 i, ¬ (k = 16 ∧ l1 = 0) → ν k l1 i = μ k l1 i) → (∀ t, 0 ≤ t → t < s → (0 ≤ ν 16 0 t ∧ ν 16 0 t < μ 13 0 (μ 11 0 1)) ∧ bks (Nt μ 0) t (ν 16 0 t)) → Ev mX0_plateWithOpen 2 2 [some (vR 5 0), some (vR 11 0), some (vI s), none] [] ν (fun r μ' => (∀ k l1 i, ¬ (k = 16 ∧ l1 = 0) → μ' k l1 i = μ k l1 i) ∧ ∃ v, r = some (vI v) ∧ ((v = -1 ∧ No (fOp (Nt μ 0)) (μ 11 0 1) ∧ (∀ t, 0 ≤ t → t < μ 13 0 (μ 11 0 1) → (0 ≤ μ' 16 0 t ∧ μ' 16 0 t < μ 13 0 (μ 11 0 1)) ∧ bks (Nt μ 0) t (μ' 16 0 t))) ∨ Fi (fOp (Nt μ 0)) (μ 11 0 1) v)) := by
  intro q
  induction q using Nat.strongRecOn with
  | _ q ih =>
  intro s ν hq h0 h1 fr hi
  have nb := h.nb
  have hP := nb.2.1
  have hC := nb.1
  have hn := nb.2.2.1
  have h2 := h.2
  have e1 : capC 0 = 14 := rfl
  have e2 : capP 0 = 14 := rfl
  have e3 : capE 0 = 42 := rfl
  refine e_iload_n 2 (dec_at dX0_plateWithOpen 2) rfl rfl ?_
  refine e_aload_n 1 (dec_at dX0_plateWithOpen 3) rfl rfl ?_
  refine e_callVr (M' := mX2_steps) (dec_at dX0_plateWithOpen 4) mlX0_60 ((c_steps (μ := ν) 0 (by rw [fr 11 0 1 (by omega)]; omega)).rt (r' := some (vI (μ 13 0 (μ 11 0 1)))) (by rw [fr 11 0 1 (by omega), fr 13 0 _ (by omega)]) rfl) oX2_steps iX2_steps rfl rfl rfl rfl (by decide) (by decide) (Nat.le_of_ble_eq_true rfl) ?_
  refine e_icmp_ge 61 (dec_at dX0_plateWithOpen 5) (by decide) (by omega) (by omega) (fun h7 => ?_) (fun h7 => ?_)
  · refine e_iconst (dec_at dX0_plateWithOpen 38) ?_
    refine e_ireturn (dec_at dX0_plateWithOpen 39) rfl ?_
    obtain rfl : s = μ 13 0 (μ 11 0 1) := by omega
    refine ⟨fr, -1, rfl, Or.inl ⟨rfl, ?_, hi⟩⟩
    rintro g a b ⟨s', x, y, w, e⟩
    have v := hi s' x y
    exact e _ v.1.1 v.1.2 v.2
  · have hs := h.st h0 (show s < μ 13 0 (μ 11 0 1) by omega)
    have hw := hM.2 (μ 14 0 (nx (Nt μ 0) s)) (μ 14 0 s) hs.2.1.1 hs.2.1.2 hs.1.1 hs.1.2
    refine e_bipush (dec_at dX0_plateWithOpen 6) (by decide) ?_
    refine e_aload_n 1 (dec_at dX0_plateWithOpen 7) rfl rfl ?_
    refine e_iload_n 2 (dec_at dX0_plateWithOpen 8) rfl rfl ?_
    refine e_callVr (M' := mX2_stepTarget) (dec_at dX0_plateWithOpen 9) mlX0_64 ((c_stepTarget (μ := ν) 0 s (nb.frb (fun k i h1 hk => fr k 0 i (by omega))) h0 (by rw [fr 11 0 1 (by omega), fr 13 0 _ (by omega)]; omega)).rt (r' := some (vI (μ 14 0 (nx (Nt μ 0) s)))) (by rw [show ν 13 0 = μ 13 0 from funext (fun i => fr 13 0 i (by omega)), show ν 15 0 = μ 15 0 from funext (fun i => fr 15 0 i (by omega)), fr 14 0 _ (by omega)]; rfl) rfl) oX2_stepTarget iX2_stepTarget rfl rfl rfl rfl (by decide) (by decide) (Nat.le_of_ble_eq_true rfl) ?_
    refine e_imul (dec_at dX0_plateWithOpen 10) ?_
    refine e_aload_n 1 (dec_at dX0_plateWithOpen 11) rfl rfl ?_
    refine e_getr 5 (dec_at dX0_plateWithOpen 12) flX0_57 rfl rfl ?_
    refine e_iload_n 2 (dec_at dX0_plateWithOpen 13) rfl rfl ?_
    refine e_ialdv (μ 14 0 s) (dec_at dX0_plateWithOpen 14) rfl (by decide) (aLk_14 _) (by omega) (by exact fr 14 0 s (by omega)) (fun r23 => ?_)
    refine e_iadd (dec_at dX0_plateWithOpen 15) ?_
    refine e_is3 (dec_at dX0_plateWithOpen 16) (by decide) rfl ?_
    refine e_aload_n 0 (dec_at dX0_plateWithOpen 17) rfl rfl ?_
    refine e_getr 0 (dec_at dX0_plateWithOpen 18) flX0_9 rfl rfl ?_
    refine e_iload_n 3 (dec_at dX0_plateWithOpen 19) rfl rfl ?_
    refine e_ialdv (μ 6 0 (14 * μ 14 0 (nx (Nt μ 0) s) + μ 14 0 s)) (dec_at dX0_plateWithOpen 20) rfl (by decide) (aLk_6 _) (by omega) (by exact fr 6 0 _ (by omega)) (fun r31 => ?_)
    refine e_iconst (dec_at dX0_plateWithOpen 21) ?_
    refine e_icmp_ne 43 (dec_at dX0_plateWithOpen 22) (by decide) (by omega) (by omega) (fun h33 => ?_) (fun h33 => ?_)
    · obtain hz | ⟨t, t0, t1, ta, tb, te⟩ := hw
      · exact absurd hz h33
      refine e_aload_n 1 (dec_at dX0_plateWithOpen 28) rfl rfl ?_
      refine e_getr 7 (dec_at dX0_plateWithOpen 29) flX0_71 rfl rfl ?_
      refine e_iload_n 2 (dec_at dX0_plateWithOpen 30) rfl rfl ?_
      refine e_aload_n 0 (dec_at dX0_plateWithOpen 31) rfl rfl ?_
      refine e_getr 0 (dec_at dX0_plateWithOpen 32) flX0_9 rfl rfl ?_
      refine e_iload_n 3 (dec_at dX0_plateWithOpen 33) rfl rfl ?_
      refine e_ialdv (μ 6 0 (14 * μ 14 0 (nx (Nt μ 0) s) + μ 14 0 s)) (dec_at dX0_plateWithOpen 34) rfl (by decide) (aLk_6 _) (by omega) (by exact fr 6 0 _ (by omega)) (fun r53 => ?_)
      refine e_iast (dec_at dX0_plateWithOpen 35) rfl (by decide) (aLk_16 _) (by omega) (by omega) ?_
      refine e_ii2 (dec_at dX0_plateWithOpen 36) (by decide) rfl ?_
      refine e_goto 2 (dec_at dX0_plateWithOpen 37) (by decide) ?_
      refine e_le [some (vR 5 0), some (vR 11 0), some (vI (s + 1)), none] (by simp [leL]) (ih _ (by omega) (s + 1) _ rfl (by omega) (by omega) (fr_set fr (by omega)) (fun t' a b => ?_))
      by_cases q : t' = s
      · subst q
        rw [mset_eq, te]
        exact ⟨⟨t0, t1⟩, ta, tb⟩
      · rw [mset_i q]
        exact hi t' a (by omega)
    · refine e_aload_n 1 (dec_at dX0_plateWithOpen 23) rfl rfl ?_
      refine e_getr 6 (dec_at dX0_plateWithOpen 24) flX0_68 rfl rfl ?_
      refine e_iload_n 2 (dec_at dX0_plateWithOpen 25) rfl rfl ?_
      refine e_ialdv (μ 15 0 s) (dec_at dX0_plateWithOpen 26) rfl (by decide) (aLk_15 _) (by omega) (by exact fr 15 0 s (by omega)) (fun r41 => ?_)
      refine e_ireturn (dec_at dX0_plateWithOpen 27) rfl ?_
      refine ⟨fr, μ 15 0 s, rfl, Or.inr ⟨hs.2.2.2, ⟨s, h0, by show s < μ 13 0 (μ 11 0 1); omega, rfl, ?_⟩, ?_⟩⟩
      · rintro t t0 t1 ⟨x, y⟩
        have t1 : t < μ 13 0 (μ 11 0 1) := t1
        have x : μ 14 0 t = μ 14 0 (nx (Nt μ 0) s) := x
        have y : μ 14 0 (nx (Nt μ 0) t) = μ 14 0 s := y
        have z := hM.1 t t0 t1
        rw [x, y] at z
        omega
      · rintro g a b ⟨s', x, y, w, e⟩
        have y : s' < μ 13 0 (μ 11 0 1) := y
        have w : μ 15 0 s' = g := w
        have v := hi s' x (h.ord h0 (by omega) x y (by omega))
        exact e _ v.1.1 v.1.2 v.2

set_option maxRecDepth 100000 in
set_option maxHeartbeats 4000000 in
theorem c_open {μ : Mm} (h : XB μ) (hM : MD μ μ (μ 13 0 (μ 11 0 1))) : Mc mX0_plateWithOpen 2 [vR 5 0, vR 11 0] μ (fun r μ' => (∀ k l1 i, ¬ (k = 16 ∧ l1 = 0) → μ' k l1 i = μ k l1 i) ∧ ∃ v, r = some (vI v) ∧ ((v = -1 ∧ No (fOp (Nt μ 0)) (μ 11 0 1) ∧ (∀ t, 0 ≤ t → t < μ 13 0 (μ 11 0 1) → (0 ≤ μ' 16 0 t ∧ μ' 16 0 t < μ 13 0 (μ 11 0 1)) ∧ bks (Nt μ 0) t (μ' 16 0 t))) ∨ Fi (fOp (Nt μ 0)) (μ 11 0 1) v)) := by
  refine Mc.of (L := [some (vR 5 0), some (vR 11 0), none, none]) (by decide +kernel) (by simp [leL, entA, isLong, mX0_plateWithOpen]) (by simp [entA, isLong, mX0_plateWithOpen]) ?_
  have nb := h.nb
  have hP := nb.2.1
  have hC := nb.1
  have hn := nb.2.2.1
  have h2 := h.2
  have e1 : capC 0 = 14 := rfl
  have e2 : capP 0 = 14 := rfl
  have e3 : capE 0 = 42 := rfl
  refine e_iconst (dec_at dX0_plateWithOpen 0) ?_
  refine e_is2 (dec_at dX0_plateWithOpen 1) (by decide) rfl ?_
  exact l_open h hM _ 0 μ rfl (by omega) (by omega) (fun _ _ _ _ => rfl) (fun j a b => by omega)
end
section
section G2S
variable {A : Net}
/-- rings round a corner, before it is known that there is one alone -/
theorem g2_rh (hp : GP A) (hb : GB A) {s : Int} (h0 : 0 ≤ s) (h1 : s < nN A) : (0 ≤ rho A s ∧ rho A s < nN A) ∧ A 3 (rho A s) = A 3 s := by
  have a := hp.pvr h0 h1
  have b := hb.1 _ a.1.1 a.1.2
  refine ⟨b.2.1, ?_⟩
  have c := b.2.2.2
  rw [hp.nxpv h0 h1] at c
  exact c
theorem g2_rhi (hp : GP A) (hb : GB A) {s t : Int} (h0 : 0 ≤ s) (h1 : s < nN A) (h2 : 0 ≤ t) (h3 : t < nN A) (q : rho A s = rho A t) : s = t := by
  have a := hp.pvr h0 h1
  have b := hp.pvr h2 h3
  have c := (hb.1 _ a.1.1 a.1.2).2.2.1
  have d := (hb.1 _ b.1.1 b.1.2).2.2.1
  unfold rho at q
  rw [q] at c
  have e := hp.nxpv h0 h1
  have f := hp.nxpv h2 h3
  rw [c.symm.trans d] at e
  exact e.symm.trans f
theorem g2_itr (hp : GP A) (hb : GB A) {s : Int} (h0 : 0 ≤ s) (h1 : s < nN A) (k : Nat) : (0 ≤ it (rho A) k s ∧ it (rho A) k s < nN A) ∧ A 3 (it (rho A) k s) = A 3 s := by
  induction k with
  | zero => exact ⟨⟨h0, h1⟩, rfl⟩
  | succ k ih =>
    have a := g2_rh hp hb ih.1.1 ih.1.2
    exact ⟨a.1, a.2.trans ih.2⟩
theorem g2_cov (hp : GP A) (hb : GB A) {x c : Int} (h0 : 0 ≤ x) (h1 : x < nN A) (hc : A 3 x = c) (hn : ∀ k, 0 < k → k < deg A c → it (rho A) k x ≠ x) {s : Int} (g0 : 0 ≤ s) (g1 : s < nN A) (gc : A 3 s = c) : ∃ k, k < deg A c ∧ it (rho A) k x = s := by
  refine ct_all (p := fun s => A 3 s = c) (n := (nN A).toNat) (u := fun k => it (rho A) k x) (fun i _ => ?_) (it_apart (D := fun s => 0 ≤ s ∧ s < nN A) (fun s hs => (g2_rh hp hb hs.1 hs.2).1) (fun s t hs ht q => g2_rhi hp hb hs.1 hs.2 ht.1 ht.2 q) ⟨h0, h1⟩ hn) (Nat.le_refl _) g0 (by omega) gc
  have := g2_itr hp hb h0 h1 i
  exact ⟨by omega, this.2.trans hc⟩
theorem g2_nr (hp : GP A) (hb : GB A) {x c : Int} (h0 : 0 ≤ x) (h1 : x < nN A) (hc : A 3 x = c) (hn : ∀ k, 0 < k → k < deg A c → it (rho A) k x ≠ x) {s : Int} (g0 : 0 ≤ s) (g1 : s < nN A) (gc : A 3 s = c) : ∀ k, 0 < k → k < deg A c → it (rho A) k s ≠ s := by
  intro k k0 k1 e
  obtain ⟨j, hj, rfl⟩ := g2_cov hp hb h0 h1 hc hn g0 g1 gc
  rw [← it_add] at e
  have key : ∀ j, it (rho A) (k + j) x = it (rho A) j x → it (rho A) k x = x := by
    intro j
    induction j with
    | zero => intro e; exact e
    | succ j ih =>
      intro e
      have b := g2_itr hp hb h0 h1 (k + j)
      have b2 := g2_itr hp hb h0 h1 j
      exact ih (g2_rhi hp hb b.1.1 b.1.2 b2.1.1 b2.1.2 e)
  exact hn k k0 k1 (key j e)
/-- pinched, as any one step of the corner tells -/
theorem pin_iff (h : Bas A) (n2 : No (fTw A) (A 0 1)) (n3 : No (fDb A) (A 0 1)) (n4 : No (fOp A) (A 0 1)) {c x : Int} (h0 : 0 ≤ x) (h1 : x < nN A) (hc : A 3 x = c) : fPi A c ↔ ∃ k : Nat, 0 < k ∧ k < deg A c ∧ it (rho (bN A)) k x = x := by
  have gb := bN_GB h n2 n3 n4
  constructor
  · intro hp
    apply Classical.byContradiction
    intro q
    exact hp ⟨x, ⟨h0, h1⟩, hc, fun k k0 k1 e => q ⟨k, k0, k1, e⟩⟩
  · rintro ⟨k, k0, k1, e⟩ ⟨y, hy, hyc, hn⟩
    exact g2_nr (A := bN A) h.2.1 gb hy.1 hy.2 hyc hn h0 h1 hc k k0 k1 e
/-- the ring by another table of steps back -/
theorem it_bk {bk : Int → Int} (h : Bas A) (n2 : No (fTw A) (A 0 1)) (n3 : No (fDb A) (A 0 1)) (n4 : No (fOp A) (A 0 1)) (hb : ∀ s, 0 ≤ s → s < nN A → bk s = bkr A s) {x : Int} (h0 : 0 ≤ x) (h1 : x < nN A) : ∀ k, it (fun s => bk (pv A s)) k x = it (rho (bN A)) k x := by
  have gb := bN_GB h n2 n3 n4
  intro k
  induction k with
  | zero => rfl
  | succ k ih =>
    have a := g2_itr (A := bN A) h.2.1 gb h0 h1 k
    show bk (pv A (it (fun s => bk (pv A s)) k x)) = rho (bN A) (it (rho (bN A)) k x)
    rw [ih]
    exact hb _ (h.2.1.pvr a.1.1 a.1.2).1.1 (h.2.1.pvr a.1.1 a.1.2).1.2
end G2S
theorem No.cg {p q : Int → Prop} {N : Int} (h : ∀ i, 0 ≤ i → i < N → (p i ↔ q i)) (g : No p N) : No q N := fun i a b z => g i a b ((h i a b).mpr z)
theorem Fi.cg {p q : Int → Prop} {N r : Int} (h : ∀ i, 0 ≤ i → i < N → (p i ↔ q i)) (g : Fi p N r) : Fi q N r := ⟨g.1, (h r g.1.1 g.1.2).mp g.2.1, fun i a b z => g.2.2 i a b ((h i a (by have := g.1; omega)).mpr z)⟩
theorem Nt_eq {μ ν : Mm} {l : Int} (h : ∀ (k : Nat) (i : Int), 11 ≤ k → ν k l i = μ k l i) : Nt ν l = Nt μ l := by
  funext j i
  exact h (11 + j) i (by omega)
theorem XB.tr {μ ν : Mm} (h : XB μ) (e : ∀ (k : Nat) (i : Int), 11 ≤ k → k ≤ 15 → ¬ (k = 11 ∧ i = 2) → ν k 0 i = μ k 0 i) : XB ν := by
  have a0 : ν 11 0 0 = μ 11 0 0 := e 11 0 (by decide) (by decide) (by omega)
  have a1 : ν 11 0 1 = μ 11 0 1 := e 11 1 (by decide) (by decide) (by omega)
  have a2 : ν 13 0 = μ 13 0 := funext (fun i => e 13 i (by decide) (by decide) (by omega))
  have a3 : ν 14 0 = μ 14 0 := funext (fun i => e 14 i (by decide) (by decide) (by omega))
  have a4 : ν 15 0 = μ 15 0 := funext (fun i => e 15 i (by decide) (by decide) (by omega))
  obtain ⟨⟨b1, ⟨b2, b3, b4, b5⟩, b6⟩, b7⟩ := h
  unfold XB Bas GP nN Nt at *
  show (0 ≤ ν 11 0 0 ∧ (0 ≤ ν 11 0 1 ∧ ν 13 0 0 = 0 ∧ (∀ f, 0 ≤ f → f < ν 11 0 1 → ν 13 0 f + 3 ≤ ν 13 0 (f + 1)) ∧ ∀ s, 0 ≤ s → s < ν 13 0 (ν 11 0 1) → (0 ≤ ν 15 0 s ∧ ν 15 0 s < ν 11 0 1) ∧ ν 13 0 (ν 15 0 s) ≤ s ∧ s < ν 13 0 (ν 15 0 s + 1)) ∧ ∀ s, 0 ≤ s → s < ν 13 0 (ν 11 0 1) → 0 ≤ ν 14 0 s ∧ ν 14 0 s < ν 11 0 0) ∧ ν 11 0 0 ≤ 14 ∧ ν 11 0 1 ≤ 14 ∧ ν 13 0 (ν 11 0 1) ≤ 84
  rw [a0, a1, a2, a3, a4]
  exact ⟨⟨b1, ⟨b2, b3, b4, b5⟩, b6⟩, b7⟩

set_option maxRecDepth 100000 in
set_option maxHeartbeats 4000000 in
theorem c_look {μ : Mm} (h : XB μ) : Mc mX0_look 3 [vR 5 0, vR 11 0] μ (fun r μ' => r = none ∧ (∀ k l1 i, ¬ (k = 5 ∨ k = 6 ∨ (l1 = 0 ∧ (16 ≤ k ∧ k ≤ 20 ∨ k = 11 ∧ i = 2))) → μ' k l1 i = μ k l1 i) ∧ IsF (Nt μ 0) (μ' 5 0 1) (μ' 5 0 2) ∧ (μ' 5 0 1 = 0 → Agr (bN (Nt μ 0)) (Nt μ' 0))) := by
  refine Mc.of (L := [some (vR 5 0), some (vR 11 0)]) (by decide +kernel) (by simp [leL, entA, isLong, mX0_look]) (by simp [entA, isLong, mX0_look]) ?_
  have nb := h.nb
  have hP := nb.2.1
  have hC := nb.1
  have hn := nb.2.2.1
  have h2 := h.2
  have e1 : capC 0 = 14 := rfl
  have e2 : capP 0 = 14 := rfl
  have e3 : capE 0 = 42 := rfl
  refine e_aload_n 0 (dec_at dX0_look 0) rfl rfl ?_
  refine e_iconst (dec_at dX0_look 1) ?_
  refine e_put 1 1 (dec_at dX0_look 2) flX0_15 fpX0_1 rfl rfl rfl (by omega) (fit_int _) ?_
  refine e_aload_n 0 (dec_at dX0_look 3) rfl rfl ?_
  refine e_iconst (dec_at dX0_look 4) ?_
  refine e_put 2 2 (dec_at dX0_look 5) flX0_19 fpX0_2 rfl rfl rfl (by omega) (fit_int _) ?_
  refine e_aload_n 1 (dec_at dX0_look 6) rfl rfl ?_
  refine e_getiv 1 1 (μ 11 0 1) (dec_at dX0_look 7) flX0_22 rfl rfl rfl (by rw [mset_k (by decide), mset_k (by decide)]) (fun r11 => ?_)
  refine e_if_ne 23 (dec_at dX0_look 8) (by decide) (by omega) (fun h14 => ?_) (fun h14 => ?_)
  · have hP0 : (Nt μ 0) 0 1 ≠ 0 := h14
    refine e_aload_n 0 (dec_at dX0_look 13) rfl rfl ?_
    refine e_iconst (dec_at dX0_look 14) ?_
    refine e_aload_n 0 (dec_at dX0_look 15) rfl rfl ?_
    refine e_aload_n 1 (dec_at dX0_look 16) rfl rfl ?_
    refine e_callV (M' := mX0_plateWithTwice) (dec_at dX0_look 17) mlX0_27 (c_twice (μ := mset (mset μ 5 0 1 0) 5 0 2 (-1)) (h.tr (fun k i a b _ => by rw [mset_k (by omega), mset_k (by omega)]))) oX0_plateWithTwice iX0_plateWithTwice rfl rfl rfl rfl (by decide) (by decide) (Nat.le_of_ble_eq_true rfl) (fun r ν hQ => ?_)
    have fr0 : ∀ (k : Nat) (l1 i : Int), ¬ (k = 5) → ν k l1 i = μ k l1 i := fun k l1 i z => by rw [hQ.1, mset_k z, mset_k z]
    have hN0 : Nt (mset (mset μ 5 0 1 0) 5 0 2 (-1)) 0 = Nt μ 0 := Nt_eq (fun k i z => by rw [mset_k (by omega), mset_k (by omega)])
    have f5 : ν 5 0 1 = 0 ∧ ν 5 0 2 = -1 := by rw [hQ.1]; exact ⟨by rw [mset_i (by decide), mset_eq], mset_eq⟩
    obtain ⟨-, v, rfl, hv⟩ := hQ
    rw [hN0, mset_k (by decide), mset_k (by decide)] at hv
    show Ev mX0_look 3 30 _ [vI v, vI 2, vR 5 0] ν _
    rcases hv with ⟨rfl, n2⟩ | hfi
    · refine e_callVr (M' := mX0_tells) (dec_at dX0_look 18) mlX0_31 (c_tellsN 2) oX0_tells iX0_tells rfl rfl rfl rfl (by decide) (by decide) (Nat.le_of_ble_eq_true rfl) ?_
      refine e_if_eq 37 (dec_at dX0_look 19) (by decide) (by decide) (fun _ => ?_) (fun z => absurd rfl z)
      refine e_aload_n 0 (dec_at dX0_look 21) rfl rfl ?_
      refine e_iconst (dec_at dX0_look 22) ?_
      refine e_aload_n 0 (dec_at dX0_look 23) rfl rfl ?_
      refine e_aload_n 1 (dec_at dX0_look 24) rfl rfl ?_
      refine e_callV (M' := mX0_plateWithDouble) (dec_at dX0_look 25) mlX0_35 (c_double (μ := ν) (h.tr (fun k i a b _ => fr0 k 0 i (by omega)))) oX0_plateWithDouble iX0_plateWithDouble rfl rfl rfl rfl (by decide) (by decide) (Nat.le_of_ble_eq_true rfl) (fun r ν1 hQ => ?_)
      have hN1 : Nt ν 0 = Nt μ 0 := Nt_eq (fun k i z => fr0 k 0 i (by omega))
      obtain ⟨fr1, v, rfl, hv⟩ := hQ
      rw [hN1, fr0 11 0 1 (by omega)] at hv
      have fr1a : ∀ (k : Nat) (l1 i : Int), ¬ (k = 5 ∨ k = 6) → ν1 k l1 i = μ k l1 i := fun k l1 i z => by rw [fr1 k l1 i (by omega)]; exact fr0 k l1 i (by omega)
      have hN2 : Nt ν1 0 = Nt μ 0 := Nt_eq (fun k i z => fr1a k 0 i (by omega))
      have hX1 : XB ν1 := h.tr (fun k i a b _ => fr1a k 0 i (by omega))
      show Ev mX0_look 3 44 _ [vI v, vI 3, vR 5 0] ν1 _
      rcases hv with ⟨rfl, n3, hMD⟩ | hfi
      · have hMD1 : MD ν1 ν1 (ν1 13 0 (ν1 11 0 1)) := by
          rw [fr1a 11 0 1 (by omega), fr1a 13 0 _ (by omega)]
          unfold MD at hMD ⊢
          rw [hN1, fr0 13 0 _ (by omega), show ν 14 0 = μ 14 0 from funext (fun i => fr0 14 0 i (by omega))] at hMD
          rw [hN2, show ν1 14 0 = μ 14 0 from funext (fun i => fr1a 14 0 i (by omega))]
          exact hMD
        refine e_callVr (M' := mX0_tells) (dec_at dX0_look 26) mlX0_31 (c_tellsN 3) oX0_tells iX0_tells rfl rfl rfl rfl (by decide) (by decide) (Nat.le_of_ble_eq_true rfl) ?_
        refine e_if_eq 51 (dec_at dX0_look 27) (by decide) (by decide) (fun _ => ?_) (fun z => absurd rfl z)
        refine e_aload_n 0 (dec_at dX0_look 29) rfl rfl ?_
        refine e_iconst (dec_at dX0_look 30) ?_
        refine e_aload_n 0 (dec_at dX0_look 31) rfl rfl ?_
        refine e_aload_n 1 (dec_at dX0_look 32) rfl rfl ?_
        refine e_callV (M' := mX0_plateWithOpen) (dec_at dX0_look 33) mlX0_38 (c_open (μ := ν1) hX1 hMD1) oX0_plateWithOpen iX0_plateWithOpen rfl rfl rfl rfl (by decide) (by decide) (Nat.le_of_ble_eq_true rfl) (fun r ν2 hQ => ?_)
        obtain ⟨fr2, v, rfl, hv⟩ := hQ
        rw [hN2, fr1a 11 0 1 (by omega), fr1a 13 0 _ (by omega)] at hv
        have fr2a : ∀ (k : Nat) (l1 i : Int), ¬ (k = 5 ∨ k = 6 ∨ (k = 16 ∧ l1 = 0)) → ν2 k l1 i = μ k l1 i := fun k l1 i z => by rw [fr2 k l1 i (by omega)]; exact fr1a k l1 i (by omega)
        show Ev mX0_look 3 58 _ [vI v, vI 4, vR 5 0] ν2 _
        rcases hv with ⟨rfl, n4, hbks⟩ | hfi
        · have hbr : ∀ s, 0 ≤ s → s < μ 13 0 (μ 11 0 1) → ν2 16 0 s = bkr (Nt μ 0) s := fun s a b => (bkr_u h.1 n3 n4 a b (hbks s a b).1.1 (hbks s a b).1.2 (hbks s a b).2).symm
          have gb := bN_GB h.1 n2 n3 n4
          have hbk : ∀ s, 0 ≤ s → s < ν2 13 0 (ν2 11 0 1) → (0 ≤ ν2 16 0 s ∧ ν2 16 0 s < ν2 13 0 (ν2 11 0 1)) ∧ ν2 16 0 (ν2 16 0 s) = s ∧ ν2 16 0 s ≠ s := by
            rw [fr2a 11 0 1 (by omega), fr2a 13 0 _ (by omega)]
            intro s a b
            have z := gb.1 s a b
            have w := gb.2.2 s a b
            rw [hbr s a b]
            refine ⟨z.2.1, ?_, fun q => ?_⟩
            · rw [hbr (bkr (Nt μ 0) s) z.2.1.1 z.2.1.2]; exact z.2.2.1
            · have z3 : (Nt μ 0) 3 (bkr (Nt μ 0) s) = (Nt μ 0) 3 (nx (Nt μ 0) s) := z.2.2.2
              rw [q] at z3
              exact w z3.symm
          have hhalf := cE_half hn.1 (bk := ν2 16 0) (by rw [fr2a 11 0 1 (by omega), fr2a 13 0 _ (by omega)] at hbk; exact hbk)
          refine e_callVr (M' := mX0_tells) (dec_at dX0_look 34) mlX0_31 (c_tellsN 4) oX0_tells iX0_tells rfl rfl rfl rfl (by decide) (by decide) (Nat.le_of_ble_eq_true rfl) ?_
          refine e_if_eq 65 (dec_at dX0_look 35) (by decide) (by decide) (fun _ => ?_) (fun z => absurd rfl z)
          refine e_aload_n 1 (dec_at dX0_look 37) rfl rfl ?_
          refine e_callV (M' := mX2_numberEdges) (dec_at dX0_look 38) mlX0_41 (c_numberEdges (μ := ν2) 0 (by rw [fr2a 11 0 1 (by omega)]; omega) (by rw [fr2a 11 0 1 (by omega), fr2a 13 0 _ (by omega)]; omega) hbk (by rw [fr2a 11 0 1 (by omega), fr2a 13 0 _ (by omega)]; omega)) oX2_numberEdges iX2_numberEdges rfl rfl rfl rfl (by decide) (by decide) (Nat.le_of_ble_eq_true rfl) (fun r ν3 hQ => ?_)
          obtain ⟨rfl, fr3, q2, q3, q4⟩ := hQ
          have fr3a : ∀ (k : Nat) (l1 i : Int), ¬ (k = 5 ∨ k = 6 ∨ (l1 = 0 ∧ (16 ≤ k ∧ k ≤ 18 ∨ k = 11 ∧ i = 2))) → ν3 k l1 i = μ k l1 i := fun k l1 i z => by rw [fr3 k l1 i (by omega)]; exact fr2a k l1 i (by omega)
          rw [fr2a 11 0 1 (by omega), fr2a 13 0 _ (by omega)] at q2 q3 q4
          show Ev mX0_look 3 69 _ [] ν3 _
          refine e_aload_n 1 (dec_at dX0_look 39) rfl rfl ?_
          refine e_callV (M' := mX2_findDoors) (dec_at dX0_look 40) mlX0_44 (c_findDoors (μ := ν3) 0 (by rw [fr3a 11 0 0 (by omega)]; omega) (by rw [fr3a 11 0 1 (by omega)]; omega) (by rw [fr3a 11 0 1 (by omega), fr3a 13 0 _ (by omega)]; omega) (fun s a b => by rw [fr3a 11 0 1 (by omega), fr3a 13 0 _ (by omega)] at b; rw [fr3a 14 0 _ (by omega), fr3a 11 0 0 (by omega)]; exact h.1.2.2 s a b)) oX2_findDoors iX2_findDoors rfl rfl rfl rfl (by decide) (by decide) (Nat.le_of_ble_eq_true rfl) (fun r ν4 hQ => ?_)
          obtain ⟨rfl, fr4, q5⟩ := hQ
          have fr4a : ∀ (k : Nat) (l1 i : Int), ¬ (k = 5 ∨ k = 6 ∨ (l1 = 0 ∧ (16 ≤ k ∧ k ≤ 20 ∨ k = 11 ∧ i = 2))) → ν4 k l1 i = μ k l1 i := fun k l1 i z => by rw [fr4 k l1 i (by omega)]; exact fr3a k l1 i (by omega)
          rw [fr3a 11 0 0 (by omega), fr3a 11 0 1 (by omega), fr3a 13 0 _ (by omega), show ν3 14 0 = μ 14 0 from funext (fun i => fr3a 14 0 i (by omega))] at q5
          have hX4 : XB ν4 := h.tr (fun k i a b c => fr4a k 0 i (by omega))
          have hdeg : ∀ c, 0 ≤ c → c < μ 11 0 0 → ν4 19 0 c = (deg (Nt μ 0) c : Int) := fun c a b => (q5 c a b).1
          have b16 : ∀ s, 0 ≤ s → s < μ 13 0 (μ 11 0 1) → ν4 16 0 s = bkr (Nt μ 0) s := fun s a b => by
            rw [fr4 16 0 s (by omega), fr3 16 0 s (by omega)]
            exact hbr s a b
          have n4e : ν4 13 0 (ν4 11 0 1) = μ 13 0 (μ 11 0 1) := by rw [fr4a 11 0 1 (by omega), fr4a 13 0 _ (by omega)]
          show Ev mX0_look 3 73 _ [] ν4 _
          refine e_aload_n 0 (dec_at dX0_look 41) rfl rfl ?_
          refine e_iconst (dec_at dX0_look 42) ?_
          refine e_aload_n 0 (dec_at dX0_look 43) rfl rfl ?_
          refine e_aload_n 1 (dec_at dX0_look 44) rfl rfl ?_
          refine e_iconst (dec_at dX0_look 45) ?_
          refine e_callV (M' := mX0_cornerOfDegree) (dec_at dX0_look 46) mlX0_47 (c_ofDegree (μ := ν4) 0 hX4 (by decide)) oX0_cornerOfDegree iX0_cornerOfDegree rfl rfl rfl rfl (by decide) (by decide) (Nat.le_of_ble_eq_true rfl) (fun r ν5 hQ => ?_)
          obtain ⟨rfl, v, rfl, hv⟩ := hQ
          rw [fr4a 11 0 0 (by omega)] at hv
          show Ev mX0_look 3 81 _ [vI v, vI 5, vR 5 0] ν5 _
          rcases hv with ⟨rfl, n5z⟩ | hfi
          · have n5 : No (fLo (Nt μ 0)) (μ 11 0 0) := n5z.cg (fun c a b => by rw [hdeg c a b]; show (deg (Nt μ 0) c : Int) = 0 ↔ deg (Nt μ 0) c = 0; omega)
            have hdr : ∀ c, 0 ≤ c → c < μ 11 0 0 → (0 ≤ ν5 20 0 c ∧ ν5 20 0 c < μ 13 0 (μ 11 0 1)) ∧ μ 14 0 (ν5 20 0 c) = c := fun c a b => by
              have z := (q5 c a b).2 (fun q => n5 c a b q)
              exact ⟨z.1, z.2.1⟩
            refine e_callVr (M' := mX0_tells) (dec_at dX0_look 47) mlX0_31 (c_tellsN 5) oX0_tells iX0_tells rfl rfl rfl rfl (by decide) (by decide) (Nat.le_of_ble_eq_true rfl) ?_
            refine e_if_eq 88 (dec_at dX0_look 48) (by decide) (by decide) (fun _ => ?_) (fun z => absurd rfl z)
            refine e_aload_n 0 (dec_at dX0_look 50) rfl rfl ?_
            refine e_bipush (dec_at dX0_look 51) (by decide) ?_
            refine e_aload_n 0 (dec_at dX0_look 52) rfl rfl ?_
            refine e_aload_n 1 (dec_at dX0_look 53) rfl rfl ?_
            refine e_callV (M' := mX0_cornerPinched) (dec_at dX0_look 54) mlX0_51 (c_pinched (μ := ν5) hX4 (fun s a b => by rw [n4e] at b ⊢; rw [b16 s a b]; exact (bkr_s h.1 n4 a b).1) (fun c a b => by rw [fr4a 11 0 0 (by omega)] at b; rw [n4e]; exact (hdr c a b).1)) oX0_cornerPinched iX0_cornerPinched rfl rfl rfl rfl (by decide) (by decide) (Nat.le_of_ble_eq_true rfl) (fun r ν6 hQ => ?_)
            obtain ⟨rfl, v, rfl, hv⟩ := hQ
            rw [fr4a 11 0 0 (by omega)] at hv
            have hpin : ∀ c, 0 ≤ c → c < μ 11 0 0 → ((∃ k : Nat, 0 < k ∧ k < ν6 19 0 c ∧ it (rho (Nt ν6 0)) k (ν6 20 0 c) = ν6 20 0 c) ↔ fPi (Nt μ 0) c) := by
              intro c a b
              have z := hdr c a b
              rw [pin_iff h.1 n2 n3 n4 z.1.1 z.1.2 z.2]
              have e : ∀ k, it (rho (Nt ν6 0)) k (ν6 20 0 c) = it (rho (bN (Nt μ 0))) k (ν6 20 0 c) := fun k => by
                have w := it_bk (bk := ν6 16 0) h.1 n2 n3 n4 b16 z.1.1 z.1.2 k
                rw [← w]
                have e3 : rho (Nt ν6 0) = fun s => ν6 16 0 (pv (Nt μ 0) s) := by
                  funext s
                  show ν6 16 0 (pvF (ν6 13 0) (ν6 15 0) s) = ν6 16 0 (pvF (μ 13 0) (μ 15 0) s)
                  rw [show ν6 13 0 = μ 13 0 from funext (fun i => fr4a 13 0 i (by omega)), show ν6 15 0 = μ 15 0 from funext (fun i => fr4a 15 0 i (by omega))]
                rw [e3]
              constructor
              · rintro ⟨k, k0, k1, k2⟩
                rw [hdeg c a b] at k1
                exact ⟨k, k0, by omega, by rw [← e k]; exact k2⟩
              · rintro ⟨k, k0, k1, k2⟩
                exact ⟨k, k0, by rw [hdeg c a b]; omega, by rw [e k]; exact k2⟩
            show Ev mX0_look 3 96 _ [vI v, vI 6, vR 5 0] ν6 _
            rcases hv with ⟨rfl, n6z⟩ | hfi
            · have n6 : No (fPi (Nt μ 0)) (μ 11 0 0) := n6z.cg hpin
              refine e_callVr (M' := mX0_tells) (dec_at dX0_look 55) mlX0_31 (c_tellsN 6) oX0_tells iX0_tells rfl rfl rfl rfl (by decide) (by decide) (Nat.le_of_ble_eq_true rfl) ?_
              refine e_if_eq 103 (dec_at dX0_look 56) (by decide) (by decide) (fun _ => ?_) (fun z => absurd rfl z)
              refine e_aload_n 0 (dec_at dX0_look 58) rfl rfl ?_
              refine e_bipush (dec_at dX0_look 59) (by decide) ?_
              refine e_aload_n 0 (dec_at dX0_look 60) rfl rfl ?_
              refine e_aload_n 1 (dec_at dX0_look 61) rfl rfl ?_
              refine e_iconst (dec_at dX0_look 62) ?_
              refine e_callV (M' := mX0_cornerOfDegree) (dec_at dX0_look 63) mlX0_47 (c_ofDegree (μ := ν6) 2 hX4 (by decide)) oX0_cornerOfDegree iX0_cornerOfDegree rfl rfl rfl rfl (by decide) (by decide) (Nat.le_of_ble_eq_true rfl) (fun r ν7 hQ => ?_)
              obtain ⟨rfl, v, rfl, hv⟩ := hQ
              rw [fr4a 11 0 0 (by omega)] at hv
              show Ev mX0_look 3 112 _ [vI v, vI 7, vR 5 0] ν7 _
              rcases hv with ⟨rfl, n7z⟩ | hfi
              · have n7 : No (fTh (Nt μ 0)) (μ 11 0 0) := n7z.cg (fun c a b => by rw [hdeg c a b]; show (deg (Nt μ 0) c : Int) = 2 ↔ deg (Nt μ 0) c = 2; omega)
                refine e_callVr (M' := mX0_tells) (dec_at dX0_look 64) mlX0_31 (c_tellsN 7) oX0_tells iX0_tells rfl rfl rfl rfl (by decide) (by decide) (Nat.le_of_ble_eq_true rfl) ?_
                refine e_pop (dec_at dX0_look 65) rfl ?_
                refine e_return (dec_at dX0_look 66) rfl ?_
                have f54 : ν7 5 0 1 = 0 ∧ ν7 5 0 2 = -1 := by
                  rw [fr4 5 0 1 (by omega), fr3 5 0 1 (by omega), fr2 5 0 1 (by omega), fr1 5 0 1 (by omega), fr4 5 0 2 (by omega), fr3 5 0 2 (by omega), fr2 5 0 2 (by omega), fr1 5 0 2 (by omega)]
                  exact f5
                have hG := bN_good h.1 n2 n3 n4 n5 n6 n7
                refine ⟨rfl, fr4a, ?_, fun _ => ?_⟩
                · rw [f54.1, f54.2]
                  exact Or.inr ⟨hP0, Or.inr ⟨n2, Or.inr ⟨n3, Or.inr ⟨n4, Or.inr ⟨n5, Or.inr ⟨n6, Or.inr ⟨n7, ⟨rfl, rfl⟩⟩⟩⟩⟩⟩⟩⟩
                · have xn : nN (Nt ν7 0) = μ 13 0 (μ 11 0 1) := n4e
                  have x0 : ν7 11 0 0 = μ 11 0 0 := fr4a 11 0 0 (by omega)
                  have x14 : ν7 14 0 = μ 14 0 := funext (fun i => fr4a 14 0 i (by omega))
                  have x16 : ν7 16 0 = ν2 16 0 := funext (fun i => by rw [fr4 16 0 i (by omega), fr3 16 0 i (by omega)])
                  have y17 : ∀ i, ν7 17 0 i = ν3 17 0 i := fun i => fr4 17 0 i (by omega)
                  have h5 : Pre5 (bN (Nt μ 0)) (Nt ν7 0) := ⟨(fr4a 11 0 0 (by omega)).symm, (fr4a 11 0 1 (by omega)).symm, fun f a b => (fr4a 13 0 f (by omega)).symm, fun s a b => ⟨(fr4a 14 0 s (by omega)).symm, (fr4a 15 0 s (by omega)).symm, (b16 s a b).symm⟩⟩
                  refine h5.good hG.1 hG.2 ⟨⟨?_, fun s a b => ?_, fun s a b c => ?_⟩, fun c a b => ?_⟩
                  · show ν7 11 0 2 = cE (ν7 16 0) (nN (Nt ν7 0))
                    rw [fr4 11 0 2 (by omega), q2, x16, xn]
                  · show ν7 17 0 s = if ν7 16 0 s < s then cE (ν7 16 0) (ν7 16 0 s) else cE (ν7 16 0) s
                    rw [xn] at b
                    rw [y17, x16]
                    exact q3 s a b
                  · rw [xn] at b
                    show ν7 18 0 (cE (ν7 16 0) s) = s
                    have c : fm (ν7 16 0) s := c
                    rw [x16] at c ⊢
                    rw [fr4 18 0 _ (by omega)]
                    exact q4 s a b c
                  · have b : c < ν7 11 0 0 := b
                    rw [x0] at b
                    have z := q5 c a b
                    have e2 : deg (Nt ν7 0) c = ct (fun t => μ 14 0 t = c) (μ 13 0 (μ 11 0 1)).toNat := by
                      unfold deg
                      rw [xn]
                      show ct (fun s => ν7 14 0 s = c) _ = _
                      rw [x14]
                    have z2 := z.2 (fun q => n5 c a b q)
                    refine ⟨by rw [e2]; exact z.1, by rw [xn]; exact z2.1, ?_, fun s p q r => ?_⟩
                    · show ν7 14 0 (ν7 20 0 c) = c
                      rw [x14]; exact z2.2.1
                    · show ν7 17 0 (ν7 20 0 c) ≤ ν7 17 0 s
                      rw [xn] at q
                      have r : ν7 14 0 s = c := r
                      rw [x14] at r
                      rw [y17, y17]
                      exact z2.2.2 s p q r
              · have hfi := hfi.cg (q := fTh (Nt μ 0)) (fun c a b => by rw [hdeg c a b]; show (deg (Nt μ 0) c : Int) = 2 ↔ deg (Nt μ 0) c = 2; omega)
                have hfr := hfi.1
                refine e_callVr (M' := mX0_tells) (dec_at dX0_look 64) mlX0_31 (c_tellsY 7 v (by decide) (by omega) (by omega)) oX0_tells iX0_tells rfl rfl rfl rfl (by decide) (by decide) (Nat.le_of_ble_eq_true rfl) ?_
                refine e_pop (dec_at dX0_look 65) rfl ?_
                refine e_return (dec_at dX0_look 66) rfl ?_
                refine ⟨rfl, ?_, ?_, fun z => ?_⟩
                · intro k l1 i z
                  rw [mset_ne (by omega), mset_ne (by omega)]
                  exact fr4a k l1 i (by omega)
                · rw [mset_i (by decide), mset_eq, mset_eq]
                  exact Or.inr ⟨hP0, Or.inr ⟨n2, Or.inr ⟨n3, Or.inr ⟨n4, Or.inr ⟨n5, Or.inr ⟨n6, Or.inl ⟨rfl, hfi⟩⟩⟩⟩⟩⟩⟩
                · rw [mset_i (by decide), mset_eq] at z
                  exact absurd z (by decide)
            · have hfr := hfi.1
              refine e_callVr (M' := mX0_tells) (dec_at dX0_look 55) mlX0_31 (c_tellsY 6 v (by decide) (by omega) (by omega)) oX0_tells iX0_tells rfl rfl rfl rfl (by decide) (by decide) (Nat.le_of_ble_eq_true rfl) ?_
              refine e_if_eq 103 (dec_at dX0_look 56) (by decide) (by decide) (fun z => absurd z (by decide)) (fun _ => ?_)
              refine e_return (dec_at dX0_look 57) rfl ?_
              have hfi := hfi.cg hpin
              refine ⟨rfl, ?_, ?_, fun z => ?_⟩
              · intro k l1 i z
                rw [mset_ne (by omega), mset_ne (by omega)]
                exact fr4a k l1 i (by omega)
              · rw [mset_i (by decide), mset_eq, mset_eq]
                exact Or.inr ⟨hP0, Or.inr ⟨n2, Or.inr ⟨n3, Or.inr ⟨n4, Or.inr ⟨n5, Or.inl ⟨rfl, hfi⟩⟩⟩⟩⟩⟩
              · rw [mset_i (by decide), mset_eq] at z
                exact absurd z (by decide)
          · have hfr := hfi.1
            refine e_callVr (M' := mX0_tells) (dec_at dX0_look 47) mlX0_31 (c_tellsY 5 v (by decide) (by omega) (by omega)) oX0_tells iX0_tells rfl rfl rfl rfl (by decide) (by decide) (Nat.le_of_ble_eq_true rfl) ?_
            refine e_if_eq 88 (dec_at dX0_look 48) (by decide) (by decide) (fun z => absurd z (by decide)) (fun _ => ?_)
            refine e_return (dec_at dX0_look 49) rfl ?_
            have hfi := hfi.cg (q := fLo (Nt μ 0)) (fun c a b => by rw [hdeg c a b]; show (deg (Nt μ 0) c : Int) = 0 ↔ deg (Nt μ 0) c = 0; omega)
            refine ⟨rfl, ?_, ?_, fun z => ?_⟩
            · intro k l1 i z
              rw [mset_ne (by omega), mset_ne (by omega)]
              exact fr4a k l1 i (by omega)
            · rw [mset_i (by decide), mset_eq, mset_eq]
              exact Or.inr ⟨hP0, Or.inr ⟨n2, Or.inr ⟨n3, Or.inr ⟨n4, Or.inl ⟨rfl, hfi⟩⟩⟩⟩⟩
            · rw [mset_i (by decide), mset_eq] at z
              exact absurd z (by decide)
        · have hfr := hfi.1
          refine e_callVr (M' := mX0_tells) (dec_at dX0_look 34) mlX0_31 (c_tellsY 4 v (by decide) (by omega) (by omega)) oX0_tells iX0_tells rfl rfl rfl rfl (by decide) (by decide) (Nat.le_of_ble_eq_true rfl) ?_
          refine e_if_eq 65 (dec_at dX0_look 35) (by decide) (by decide) (fun z => absurd z (by decide)) (fun _ => ?_)
          refine e_return (dec_at dX0_look 36) rfl ?_
          refine ⟨rfl, ?_, ?_, fun z => ?_⟩
          · intro k l1 i z
            rw [mset_ne (by omega), mset_ne (by omega)]
            exact fr2a k l1 i (by omega)
          · rw [mset_i (by decide), mset_eq, mset_eq]
            exact Or.inr ⟨hP0, Or.inr ⟨n2, Or.inr ⟨n3, Or.inl ⟨rfl, hfi⟩⟩⟩⟩
          · rw [mset_i (by decide), mset_eq] at z
            exact absurd z (by decide)
      · have hfr := hfi.1
        refine e_callVr (M' := mX0_tells) (dec_at dX0_look 26) mlX0_31 (c_tellsY 3 v (by decide) (by omega) (by omega)) oX0_tells iX0_tells rfl rfl rfl rfl (by decide) (by decide) (Nat.le_of_ble_eq_true rfl) ?_
        refine e_if_eq 51 (dec_at dX0_look 27) (by decide) (by decide) (fun z => absurd z (by decide)) (fun _ => ?_)
        refine e_return (dec_at dX0_look 28) rfl ?_
        refine ⟨rfl, ?_, ?_, fun z => ?_⟩
        · intro k l1 i z
          rw [mset_ne (by omega), mset_ne (by omega)]
          exact fr1a k l1 i (by omega)
        · rw [mset_i (by decide), mset_eq, mset_eq]
          exact Or.inr ⟨hP0, Or.inr ⟨n2, Or.inl ⟨rfl, hfi⟩⟩⟩
        · rw [mset_i (by decide), mset_eq] at z
          exact absurd z (by decide)
    · have hfr := hfi.1
      refine e_callVr (M' := mX0_tells) (dec_at dX0_look 18) mlX0_31 (c_tellsY 2 v (by decide) (by omega) (by omega)) oX0_tells iX0_tells rfl rfl rfl rfl (by decide) (by decide) (Nat.le_of_ble_eq_true rfl) ?_
      refine e_if_eq 37 (dec_at dX0_look 19) (by decide) (by decide) (fun z => absurd z (by decide)) (fun _ => ?_)
      refine e_return (dec_at dX0_look 20) rfl ?_
      refine ⟨rfl, ?_, ?_, fun z => ?_⟩
      · intro k l1 i z
        rw [mset_ne (by omega), mset_ne (by omega)]
        exact fr0 k l1 i (by omega)
      · rw [mset_i (by decide), mset_eq, mset_eq]
        exact Or.inr ⟨hP0, Or.inl ⟨rfl, hfi⟩⟩
      · rw [mset_i (by decide), mset_eq] at z
        exact absurd z (by decide)
  · refine e_aload_n 0 (dec_at dX0_look 9) rfl rfl ?_
    refine e_iconst (dec_at dX0_look 10) ?_
    refine e_put 1 1 (dec_at dX0_look 11) flX0_15 fpX0_1 rfl rfl rfl (by omega) (fit_int _) ?_
    refine e_return (dec_at dX0_look 12) rfl ?_
    refine ⟨rfl, fun k l1 i z => ?_, ?_, fun z => ?_⟩
    · rw [mset_k (by omega), mset_k (by omega), mset_k (by omega)]
    · rw [mset_eq, mset_i (by decide), mset_eq]
      exact Or.inl ⟨h14, rfl, rfl⟩
    · rw [mset_eq] at z
      exact absurd z (by decide)
end
section
/-- the moves as the class keeps them -/
def ky (μ : Mm) (i : Int) : Int := 10000 * μ 8 0 i + μ 9 0 i
def Mv (μ : Mm) : Prop := (0 ≤ μ 7 0 3 ∧ μ 7 0 3 ≤ 40) ∧ (∀ i, 0 ≤ i → i < μ 7 0 3 → (1 ≤ μ 8 0 i ∧ μ 8 0 i ≤ 3) ∧ (0 ≤ μ 9 0 i ∧ μ 9 0 i ≤ 1000) ∧ ∀ a, 0 ≤ a → a < 3 → -1000 ≤ μ 10 0 (3 * i + a) ∧ μ 10 0 (3 * i + a) ≤ 1000) ∧ (∀ i j, 0 ≤ i → i < j → j < μ 7 0 3 → ky μ i < ky μ j)

set_option maxRecDepth 100000 in
set_option maxHeartbeats 4000000 in
theorem l_rank {μ : Mm} {L c : Int} (h : Mv μ) (hL : 1 ≤ L ∧ L ≤ 3) (hc : 0 ≤ c ∧ c ≤ 1000) : ∀ (q : Nat) (m : Int), (μ 7 0 3 - m).toNat = q → 0 ≤ m → m ≤ μ 7 0 3 → (∀ i, 0 ≤ i → i < m → ky μ i < 10000 * L + c) → Ev mX1_rank 0 2 [some (vR 7 0), some (vI L), some (vI c), some (vI m)] [] μ (fun r μ' => μ' = μ ∧ ∃ v, r = some (vI v) ∧ (0 ≤ v ∧ v ≤ μ 7 0 3) ∧ (∀ i, 0 ≤ i → i < v → ky μ i < 10000 * L + c) ∧ (∀ i, v ≤ i → i < μ 7 0 3 → 10000 * L + c ≤ ky μ i)) := by
  intro q
  induction q using Nat.strongRecOn with
  | _ q ih =>
  intro m hq h0 h1 hi
  have hm := h.1
  refine e_iload_n 3 (dec_at dX1_rank 2) rfl rfl ?_
  refine e_aload_n 0 (dec_at dX1_rank 3) rfl rfl ?_
  refine e_geti 3 3 (dec_at dX1_rank 4) flX1_21 rfl rfl rfl (fun r4 => ?_)
  refine e_icmp_ge 46 (dec_at dX1_rank 5) (by decide) (by omega) (by omega) (fun h7 => ?_) (fun h7 => ?_)
  · refine e_iload_n 3 (dec_at dX1_rank 26) rfl rfl ?_
    refine e_ireturn (dec_at dX1_rank 27) rfl ?_
    refine ⟨rfl, m, rfl, ⟨h0, h1⟩, hi, fun i a b => ?_⟩
    have hk : 10000 * L + c ≤ ky μ m := by
      have hq2 := h.2.1 m h0 (by omega)
      unfold ky
      omega
    by_cases q : i = m
    · subst q; exact hk
    · have := h.2.2 m i h0 (by omega) b
      omega
  · have hq2 := h.2.1 m h0 (by omega)
    refine e_aload_n 0 (dec_at dX1_rank 6) rfl rfl ?_
    refine e_getr 0 (dec_at dX1_rank 7) flX1_9 rfl rfl ?_
    refine e_iload_n 3 (dec_at dX1_rank 8) rfl rfl ?_
    refine e_iald (dec_at dX1_rank 9) rfl (by decide) (aLk_8 _) (by omega) (fun r15 => ?_)
    refine e_iload_n 1 (dec_at dX1_rank 10) rfl rfl ?_
    refine e_icmp_lt 40 (dec_at dX1_rank 11) (by decide) (by omega) (by omega) (fun h17 => ?_) (fun h17 => ?_)
    · refine e_ii3 (dec_at dX1_rank 24) (by decide) rfl ?_
      refine e_goto 2 (dec_at dX1_rank 25) (by decide) ?_
      refine ih _ (by omega) (m + 1) rfl (by omega) (by omega) (fun i a b => ?_)
      by_cases q : i = m
      · subst q
        unfold ky
        omega
      · exact hi i a (by omega)
    · refine e_aload_n 0 (dec_at dX1_rank 12) rfl rfl ?_
      refine e_getr 0 (dec_at dX1_rank 13) flX1_9 rfl rfl ?_
      refine e_iload_n 3 (dec_at dX1_rank 14) rfl rfl ?_
      refine e_iald (dec_at dX1_rank 15) rfl (by decide) (aLk_8 _) (by omega) (fun r25 => ?_)
      refine e_iload_n 1 (dec_at dX1_rank 16) rfl rfl ?_
      refine e_icmp_ne 46 (dec_at dX1_rank 17) (by decide) (by omega) (by omega) (fun h27 => ?_) (fun h27 => ?_)
      · refine e_iload_n 3 (dec_at dX1_rank 26) rfl rfl ?_
        refine e_ireturn (dec_at dX1_rank 27) rfl ?_
        refine ⟨rfl, m, rfl, ⟨h0, h1⟩, hi, fun i a b => ?_⟩
        have hk : 10000 * L + c ≤ ky μ m := by
          have hq2 := h.2.1 m h0 (by omega)
          unfold ky
          omega
        by_cases q : i = m
        · subst q; exact hk
        · have := h.2.2 m i h0 (by omega) b
          omega
      · refine e_aload_n 0 (dec_at dX1_rank 18) rfl rfl ?_
        refine e_getr 1 (dec_at dX1_rank 19) flX1_15 rfl rfl ?_
        refine e_iload_n 3 (dec_at dX1_rank 20) rfl rfl ?_
        refine e_iald (dec_at dX1_rank 21) rfl (by decide) (aLk_9 _) (by omega) (fun r35 => ?_)
        refine e_iload_n 2 (dec_at dX1_rank 22) rfl rfl ?_
        refine e_icmp_ge 46 (dec_at dX1_rank 23) (by decide) (by omega) (by omega) (fun h37 => ?_) (fun h37 => ?_)
        · refine e_iload_n 3 (dec_at dX1_rank 26) rfl rfl ?_
          refine e_ireturn (dec_at dX1_rank 27) rfl ?_
          refine ⟨rfl, m, rfl, ⟨h0, h1⟩, hi, fun i a b => ?_⟩
          have hk : 10000 * L + c ≤ ky μ m := by
            have hq2 := h.2.1 m h0 (by omega)
            unfold ky
            omega
          by_cases q : i = m
          · subst q; exact hk
          · have := h.2.2 m i h0 (by omega) b
            omega
        · refine e_ii3 (dec_at dX1_rank 24) (by decide) rfl ?_
          refine e_goto 2 (dec_at dX1_rank 25) (by decide) ?_
          refine ih _ (by omega) (m + 1) rfl (by omega) (by omega) (fun i a b => ?_)
          by_cases q : i = m
          · subst q
            unfold ky
            omega
          · exact hi i a (by omega)

set_option maxRecDepth 100000 in
set_option maxHeartbeats 4000000 in
theorem c_rank {μ : Mm} (L c : Int) (h : Mv μ) (hL : 1 ≤ L ∧ L ≤ 3) (hc : 0 ≤ c ∧ c ≤ 1000) : Mc mX1_rank 0 [vR 7 0, vI L, vI c] μ (fun r μ' => μ' = μ ∧ ∃ v, r = some (vI v) ∧ (0 ≤ v ∧ v ≤ μ 7 0 3) ∧ (∀ i, 0 ≤ i → i < v → ky μ i < 10000 * L + c) ∧ (∀ i, v ≤ i → i < μ 7 0 3 → 10000 * L + c ≤ ky μ i)) := by
  refine Mc.of (L := [some (vR 7 0), some (vI L), some (vI c), none]) (by decide +kernel) (by simp [leL, entA, isLong, mX1_rank]) (by simp [entA, isLong, mX1_rank]) ?_
  have hm := h.1
  refine e_iconst (dec_at dX1_rank 0) ?_
  refine e_is3 (dec_at dX1_rank 1) (by decide) rfl ?_
  exact l_rank h hL hc _ 0 rfl (by omega) (by omega) (fun i a b => by omega)

set_option maxRecDepth 100000 in
set_option maxHeartbeats 4000000 in
theorem c_find {μ : Mm} (L c : Int) (h : Mv μ) (hL : 1 ≤ L ∧ L ≤ 3) (hc : 0 ≤ c ∧ c ≤ 1000) : Mc mX1_find 1 [vR 7 0, vI L, vI c] μ (fun r μ' => μ' = μ ∧ ∃ v, r = some (vI v) ∧ (((0 ≤ v ∧ v < μ 7 0 3) ∧ μ 8 0 v = L ∧ μ 9 0 v = c) ∨ (v = -1 ∧ ∀ i, 0 ≤ i → i < μ 7 0 3 → ¬ (μ 8 0 i = L ∧ μ 9 0 i = c)))) := by
  refine Mc.of (L := [some (vR 7 0), some (vI L), some (vI c), none]) (by decide +kernel) (by simp [leL, entA, isLong, mX1_find]) (by simp [entA, isLong, mX1_find]) ?_
  have hm := h.1
  refine e_aload_n 0 (dec_at dX1_find 0) rfl rfl ?_
  refine e_iload_n 1 (dec_at dX1_find 1) rfl rfl ?_
  refine e_iload_n 2 (dec_at dX1_find 2) rfl rfl ?_
  refine e_callV (M' := mX1_rank) (dec_at dX1_find 3) mlX1_25 (c_rank (μ := μ) L c h hL hc) oX1_rank iX1_rank rfl rfl rfl rfl (by decide) (by decide) (Nat.le_of_ble_eq_true rfl) (fun r μ1 hQ => ?_)
  obtain ⟨rfl, v, rfl, v1, v2, v3⟩ := hQ
  show Ev mX1_find 1 6 _ [vI v] μ1 _
  refine e_is3 (dec_at dX1_find 4) (by decide) rfl ?_
  refine e_iload_n 3 (dec_at dX1_find 5) rfl rfl ?_
  refine e_aload_n 0 (dec_at dX1_find 6) rfl rfl ?_
  refine e_geti 3 3 (dec_at dX1_find 7) flX1_21 rfl rfl rfl (fun r9 => ?_)
  refine e_icmp_ge 39 (dec_at dX1_find 8) (by decide) (by omega) (by omega) (fun h12 => ?_) (fun h12 => ?_)
  · refine e_iconst (dec_at dX1_find 23) ?_
    refine e_ireturn (dec_at dX1_find 24) rfl ?_
    refine ⟨rfl, -1, rfl, Or.inr ⟨rfl, fun i a b z => ?_⟩⟩
    by_cases q : i < v
    · have := v2 i a q
      unfold ky at this
      omega
    · have y := v3 v (by omega) (by omega)
      have hq2 := h.2.1 v v1.1 (by omega)
      by_cases w : i = v
      · subst w; omega
      · have := h.2.2 v i v1.1 (by omega) b
        unfold ky at this y
        omega
  · have hq1 := h.2.1 v v1.1 (by omega)
    refine e_aload_n 0 (dec_at dX1_find 9) rfl rfl ?_
    refine e_getr 0 (dec_at dX1_find 10) flX1_9 rfl rfl ?_
    refine e_iload_n 3 (dec_at dX1_find 11) rfl rfl ?_
    refine e_iald (dec_at dX1_find 12) rfl (by decide) (aLk_8 _) (by omega) (fun r20 => ?_)
    refine e_iload_n 1 (dec_at dX1_find 13) rfl rfl ?_
    refine e_icmp_ne 39 (dec_at dX1_find 14) (by decide) (by omega) (by omega) (fun h22 => ?_) (fun h22 => ?_)
    · refine e_iconst (dec_at dX1_find 23) ?_
      refine e_ireturn (dec_at dX1_find 24) rfl ?_
      refine ⟨rfl, -1, rfl, Or.inr ⟨rfl, fun i a b z => ?_⟩⟩
      by_cases q : i < v
      · have := v2 i a q
        unfold ky at this
        omega
      · have y := v3 v (by omega) (by omega)
        have hq2 := h.2.1 v v1.1 (by omega)
        by_cases w : i = v
        · subst w; omega
        · have := h.2.2 v i v1.1 (by omega) b
          unfold ky at this y
          omega
    · refine e_aload_n 0 (dec_at dX1_find 15) rfl rfl ?_
      refine e_getr 1 (dec_at dX1_find 16) flX1_15 rfl rfl ?_
      refine e_iload_n 3 (dec_at dX1_find 17) rfl rfl ?_
      refine e_iald (dec_at dX1_find 18) rfl (by decide) (aLk_9 _) (by omega) (fun r30 => ?_)
      refine e_iload_n 2 (dec_at dX1_find 19) rfl rfl ?_
      refine e_icmp_ne 39 (dec_at dX1_find 20) (by decide) (by omega) (by omega) (fun h32 => ?_) (fun h32 => ?_)
      · refine e_iconst (dec_at dX1_find 23) ?_
        refine e_ireturn (dec_at dX1_find 24) rfl ?_
        refine ⟨rfl, -1, rfl, Or.inr ⟨rfl, fun i a b z => ?_⟩⟩
        by_cases q : i < v
        · have := v2 i a q
          unfold ky at this
          omega
        · have y := v3 v (by omega) (by omega)
          have hq2 := h.2.1 v v1.1 (by omega)
          by_cases w : i = v
          · subst w; omega
          · have := h.2.2 v i v1.1 (by omega) b
            unfold ky at this y
            omega
      · refine e_iload_n 3 (dec_at dX1_find 21) rfl rfl ?_
        refine e_goto 40 (dec_at dX1_find 22) (by decide) ?_
        refine e_ireturn (dec_at dX1_find 24) rfl ?_
        exact ⟨rfl, v, rfl, Or.inl ⟨⟨v1.1, by omega⟩, by omega, by omega⟩⟩

set_option maxRecDepth 100000 in
set_option maxHeartbeats 4000000 in
theorem c_shift {μ : Mm} (f t : Int) (hf : 0 ≤ f ∧ f < 40) (ht : 0 ≤ t ∧ t < 40) (hn : f ≠ t) : Mc mX1_shift 0 [vR 7 0, vI f, vI t] μ (fun r μ' => r = none ∧ (∀ k l1 i, ¬ (k = 8 ∧ i = t ∨ k = 9 ∧ i = t ∨ k = 10 ∧ 3 * t ≤ i ∧ i ≤ 3 * t + 2) → μ' k l1 i = μ k l1 i) ∧ μ' 8 0 t = μ 8 0 f ∧ μ' 9 0 t = μ 9 0 f ∧ ∀ a, 0 ≤ a → a < 3 → μ' 10 0 (3 * t + a) = μ 10 0 (3 * f + a)) := by
  refine Mc.of (L := [some (vR 7 0), some (vI f), some (vI t), none]) (by decide +kernel) (by simp [leL, entA, isLong, mX1_shift]) (by simp [entA, isLong, mX1_shift]) ?_
  refine e_aload_n 0 (dec_at dX1_shift 0) rfl rfl ?_
  refine e_getr 0 (dec_at dX1_shift 1) flX1_9 rfl rfl ?_
  refine e_iload_n 2 (dec_at dX1_shift 2) rfl rfl ?_
  refine e_aload_n 0 (dec_at dX1_shift 3) rfl rfl ?_
  refine e_getr 0 (dec_at dX1_shift 4) flX1_9 rfl rfl ?_
  refine e_iload_n 1 (dec_at dX1_shift 5) rfl rfl ?_
  refine e_iald (dec_at dX1_shift 6) rfl (by decide) (aLk_8 _) (by omega) (fun r10 => ?_)
  refine e_iast (dec_at dX1_shift 7) rfl (by decide) (aLk_8 _) (by omega) (by omega) ?_
  refine e_aload_n 0 (dec_at dX1_shift 8) rfl rfl ?_
  refine e_getr 1 (dec_at dX1_shift 9) flX1_15 rfl rfl ?_
  refine e_iload_n 2 (dec_at dX1_shift 10) rfl rfl ?_
  refine e_aload_n 0 (dec_at dX1_shift 11) rfl rfl ?_
  refine e_getr 1 (dec_at dX1_shift 12) flX1_15 rfl rfl ?_
  refine e_iload_n 1 (dec_at dX1_shift 13) rfl rfl ?_
  refine e_ialdv (μ 9 0 f) (dec_at dX1_shift 14) rfl (by decide) (aLk_9 _) (by omega) (by rw [mset_k (by decide)]) (fun r22 => ?_)
  refine e_iast (dec_at dX1_shift 15) rfl (by decide) (aLk_9 _) (by omega) (by omega) ?_
  refine e_iconst (dec_at dX1_shift 16) ?_
  refine e_is3 (dec_at dX1_shift 17) (by decide) rfl ?_
  refine e_iload_n 3 (dec_at dX1_shift 18) rfl rfl ?_
  refine e_iconst (dec_at dX1_shift 19) ?_
  refine e_icmp_ge 57 (dec_at dX1_shift 20) (by decide) (by decide) (by decide) (fun h => absurd h (by decide)) (fun _ => ?_)
  refine e_aload_n 0 (dec_at dX1_shift 21) rfl rfl ?_
  refine e_getr 2 (dec_at dX1_shift 22) flX1_18 rfl rfl ?_
  refine e_iconst (dec_at dX1_shift 23) ?_
  refine e_iload_n 2 (dec_at dX1_shift 24) rfl rfl ?_
  refine e_imul (dec_at dX1_shift 25) ?_
  refine e_iload_n 3 (dec_at dX1_shift 26) rfl rfl ?_
  refine e_iadd (dec_at dX1_shift 27) ?_
  refine e_aload_n 0 (dec_at dX1_shift 28) rfl rfl ?_
  refine e_getr 2 (dec_at dX1_shift 29) flX1_18 rfl rfl ?_
  refine e_iconst (dec_at dX1_shift 30) ?_
  refine e_iload_n 1 (dec_at dX1_shift 31) rfl rfl ?_
  refine e_imul (dec_at dX1_shift 32) ?_
  refine e_iload_n 3 (dec_at dX1_shift 33) rfl rfl ?_
  refine e_iadd (dec_at dX1_shift 34) ?_
  refine e_ialdv (μ 10 0 (3 * f + 0)) (dec_at dX1_shift 35) rfl (by decide) (aLk_10 _) (by omega) (by rw [mset_k (by decide), mset_k (by decide)]) (fun r49 => ?_)
  refine e_iast (dec_at dX1_shift 36) rfl (by decide) (aLk_10 _) (by omega) (by omega) ?_
  refine e_ii3 (dec_at dX1_shift 37) (by decide) rfl ?_
  refine e_goto 26 (dec_at dX1_shift 38) (by decide) ?_
  refine e_iload_n 3 (dec_at dX1_shift 18) rfl rfl ?_
  refine e_iconst (dec_at dX1_shift 19) ?_
  refine e_icmp_ge 57 (dec_at dX1_shift 20) (by decide) (by decide) (by decide) (fun h => absurd h (by decide)) (fun _ => ?_)
  refine e_aload_n 0 (dec_at dX1_shift 21) rfl rfl ?_
  refine e_getr 2 (dec_at dX1_shift 22) flX1_18 rfl rfl ?_
  refine e_iconst (dec_at dX1_shift 23) ?_
  refine e_iload_n 2 (dec_at dX1_shift 24) rfl rfl ?_
  refine e_imul (dec_at dX1_shift 25) ?_
  refine e_iload_n 3 (dec_at dX1_shift 26) rfl rfl ?_
  refine e_iadd (dec_at dX1_shift 27) ?_
  refine e_aload_n 0 (dec_at dX1_shift 28) rfl rfl ?_
  refine e_getr 2 (dec_at dX1_shift 29) flX1_18 rfl rfl ?_
  refine e_iconst (dec_at dX1_shift 30) ?_
  refine e_iload_n 1 (dec_at dX1_shift 31) rfl rfl ?_
  refine e_imul (dec_at dX1_shift 32) ?_
  refine e_iload_n 3 (dec_at dX1_shift 33) rfl rfl ?_
  refine e_iadd (dec_at dX1_shift 34) ?_
  refine e_ialdv (μ 10 0 (3 * f + (0 + 1))) (dec_at dX1_shift 35) rfl (by decide) (aLk_10 _) (by omega) (by rw [mset_i (by omega), mset_k (by decide), mset_k (by decide)]) (fun r49 => ?_)
  refine e_iast (dec_at dX1_shift 36) rfl (by decide) (aLk_10 _) (by omega) (by omega) ?_
  refine e_ii3 (dec_at dX1_shift 37) (by decide) rfl ?_
  refine e_goto 26 (dec_at dX1_shift 38) (by decide) ?_
  refine e_iload_n 3 (dec_at dX1_shift 18) rfl rfl ?_
  refine e_iconst (dec_at dX1_shift 19) ?_
  refine e_icmp_ge 57 (dec_at dX1_shift 20) (by decide) (by decide) (by decide) (fun h => absurd h (by decide)) (fun _ => ?_)
  refine e_aload_n 0 (dec_at dX1_shift 21) rfl rfl ?_
  refine e_getr 2 (dec_at dX1_shift 22) flX1_18 rfl rfl ?_
  refine e_iconst (dec_at dX1_shift 23) ?_
  refine e_iload_n 2 (dec_at dX1_shift 24) rfl rfl ?_
  refine e_imul (dec_at dX1_shift 25) ?_
  refine e_iload_n 3 (dec_at dX1_shift 26) rfl rfl ?_
  refine e_iadd (dec_at dX1_shift 27) ?_
  refine e_aload_n 0 (dec_at dX1_shift 28) rfl rfl ?_
  refine e_getr 2 (dec_at dX1_shift 29) flX1_18 rfl rfl ?_
  refine e_iconst (dec_at dX1_shift 30) ?_
  refine e_iload_n 1 (dec_at dX1_shift 31) rfl rfl ?_
  refine e_imul (dec_at dX1_shift 32) ?_
  refine e_iload_n 3 (dec_at dX1_shift 33) rfl rfl ?_
  refine e_iadd (dec_at dX1_shift 34) ?_
  refine e_ialdv (μ 10 0 (3 * f + (0 + 1 + 1))) (dec_at dX1_shift 35) rfl (by decide) (aLk_10 _) (by omega) (by rw [mset_i (by omega), mset_i (by omega), mset_k (by decide), mset_k (by decide)]) (fun r49 => ?_)
  refine e_iast (dec_at dX1_shift 36) rfl (by decide) (aLk_10 _) (by omega) (by omega) ?_
  refine e_ii3 (dec_at dX1_shift 37) (by decide) rfl ?_
  refine e_goto 26 (dec_at dX1_shift 38) (by decide) ?_
  refine e_iload_n 3 (dec_at dX1_shift 18) rfl rfl ?_
  refine e_iconst (dec_at dX1_shift 19) ?_
  refine e_icmp_ge 57 (dec_at dX1_shift 20) (by decide) (by decide) (by decide) (fun _ => ?_) (fun h => absurd h (by decide))
  refine e_return (dec_at dX1_shift 39) rfl ?_
  refine ⟨rfl, fun k l1 i z => ?_, ?_, ?_, fun a a0 a1 => ?_⟩
  · rw [mset_ne (by omega), mset_ne (by omega), mset_ne (by omega), mset_ne (by omega), mset_ne (by omega)]
  · rw [mset_k (by decide), mset_k (by decide), mset_k (by decide), mset_k (by decide), mset_eq]
  · rw [mset_k (by decide), mset_k (by decide), mset_k (by decide), mset_eq]
  · rcases (show a = 0 ∨ a = 1 ∨ a = 2 by omega) with rfl | rfl | rfl
    · rw [mset_i (by omega), mset_i (by omega)]
      exact mset_eq
    · rw [mset_i (by omega)]
      exact mset_eq
    · exact mset_eq

set_option maxRecDepth 100000 in
set_option maxHeartbeats 4000000 in
theorem c_mwrite {μ : Mm} (m x y z : Int) (hm : 0 ≤ m ∧ m < 40) (hx : inR x) (hy : inR y) (hz : inR z) : Mc mX1_write 0 [vR 7 0, vI m, vI x, vI y, vI z] μ (Rt none (mset (mset (mset μ 10 0 (3 * m) x) 10 0 (3 * m + 1) y) 10 0 (3 * m + 2) z)) := by
  refine Mc.of (L := [some (vR 7 0), some (vI m), some (vI x), some (vI y), some (vI z)]) (by decide +kernel) (by simp [leL, entA, isLong, mX1_write]) (by simp [entA, isLong, mX1_write]) ?_
  refine e_aload_n 0 (dec_at dX1_write 0) rfl rfl ?_
  refine e_getr 2 (dec_at dX1_write 1) flX1_18 rfl rfl ?_
  refine e_iconst (dec_at dX1_write 2) ?_
  refine e_iload_n 1 (dec_at dX1_write 3) rfl rfl ?_
  refine e_imul (dec_at dX1_write 4) ?_
  refine e_iload_n 2 (dec_at dX1_write 5) rfl rfl ?_
  refine e_iast (dec_at dX1_write 6) rfl (by decide) (aLk_10 _) (by omega) (by omega) ?_
  refine e_aload_n 0 (dec_at dX1_write 7) rfl rfl ?_
  refine e_getr 2 (dec_at dX1_write 8) flX1_18 rfl rfl ?_
  refine e_iconst (dec_at dX1_write 9) ?_
  refine e_iload_n 1 (dec_at dX1_write 10) rfl rfl ?_
  refine e_imul (dec_at dX1_write 11) ?_
  refine e_iconst (dec_at dX1_write 12) ?_
  refine e_iadd (dec_at dX1_write 13) ?_
  refine e_iload_n 3 (dec_at dX1_write 14) rfl rfl ?_
  refine e_iast (dec_at dX1_write 15) rfl (by decide) (aLk_10 _) (by omega) (by omega) ?_
  refine e_aload_n 0 (dec_at dX1_write 16) rfl rfl ?_
  refine e_getr 2 (dec_at dX1_write 17) flX1_18 rfl rfl ?_
  refine e_iconst (dec_at dX1_write 18) ?_
  refine e_iload_n 1 (dec_at dX1_write 19) rfl rfl ?_
  refine e_imul (dec_at dX1_write 20) ?_
  refine e_iconst (dec_at dX1_write 21) ?_
  refine e_iadd (dec_at dX1_write 22) ?_
  refine e_iload (dec_at dX1_write 23) rfl ?_
  refine e_iast (dec_at dX1_write 24) rfl (by decide) (aLk_10 _) (by omega) (by omega) ?_
  refine e_return (dec_at dX1_write 25) rfl ?_
  exact ⟨rfl, rfl⟩

set_option maxRecDepth 100000 in
set_option maxHeartbeats 4000000 in
theorem l_open2 {μ : Mm} {L c v : Int} (h : Mv μ) (hL : 1 ≤ L ∧ L ≤ 3) (hc : 0 ≤ c ∧ c ≤ 1000) (hn : ∀ i, 0 ≤ i → i < μ 7 0 3 → ¬ (μ 8 0 i = L ∧ μ 9 0 i = c)) (hM : μ 7 0 3 < 40) (v1 : 0 ≤ v ∧ v ≤ μ 7 0 3) (v2 : ∀ i, 0 ≤ i → i < v → ky μ i < 10000 * L + c) (v3 : ∀ i, v ≤ i → i < μ 7 0 3 → 10000 * L + c ≤ ky μ i) : ∀ (q : Nat) (i : Int) (ν : Mm), (i - v).toNat = q → v ≤ i → i ≤ μ 7 0 3 → (∀ k l1 i, ¬ (k = 8 ∨ k = 9 ∨ k = 10) → ν k l1 i = μ k l1 i) → (∀ j, 0 ≤ j → j < i → ν 8 0 (j) = μ 8 0 (j) ∧ ν 9 0 (j) = μ 9 0 (j) ∧ ∀ a, 0 ≤ a → a < 3 → ν 10 0 (3 * (j) + a) = μ 10 0 (3 * (j) + a)) → (∀ j, i < j → j ≤ μ 7 0 3 → ν 8 0 (j) = μ 8 0 (j - 1) ∧ ν 9 0 (j) = μ 9 0 (j - 1) ∧ ∀ a, 0 ≤ a → a < 3 → ν 10 0 (3 * (j) + a) = μ 10 0 (3 * (j - 1) + a)) → Ev mX1_open 2 38 [some (vR 7 0), some (vI L), some (vI c), some (vI v), some (vI i)] [] ν (fun r μ' => ∃ v, r = some (vI v) ∧ ((μ' = μ ∧ (0 ≤ v ∧ v < μ 7 0 3) ∧ μ 8 0 v = L ∧ μ 9 0 v = c) ∨ ((∀ i, 0 ≤ i → i < μ 7 0 3 → ¬ (μ 8 0 i = L ∧ μ 9 0 i = c)) ∧ ((μ' = μ ∧ v = -1 ∧ 40 ≤ μ 7 0 3) ∨ (μ 7 0 3 < 40 ∧ (0 ≤ v ∧ v ≤ μ 7 0 3) ∧ (∀ i, 0 ≤ i → i < v → ky μ i < 10000 * L + c) ∧ (∀ i, v ≤ i → i < μ 7 0 3 → 10000 * L + c ≤ ky μ i) ∧ (∀ k l1 i, ¬ (k = 8 ∨ k = 9 ∨ k = 10 ∨ k = 7 ∧ i = 3) → μ' k l1 i = μ k l1 i) ∧ μ' 7 0 3 = μ 7 0 3 + 1 ∧ (∀ i, 0 ≤ i → i < v → μ' 8 0 (i) = μ 8 0 (i) ∧ μ' 9 0 (i) = μ 9 0 (i) ∧ ∀ a, 0 ≤ a → a < 3 → μ' 10 0 (3 * (i) + a) = μ 10 0 (3 * (i) + a)) ∧ (μ' 8 0 v = L ∧ μ' 9 0 v = c) ∧ (∀ i, v < i → i ≤ μ 7 0 3 → μ' 8 0 (i) = μ 8 0 (i - 1) ∧ μ' 9 0 (i) = μ 9 0 (i - 1) ∧ ∀ a, 0 ≤ a → a < 3 → μ' 10 0 (3 * (i) + a) = μ 10 0 (3 * (i - 1) + a))))))) := by
  intro q
  induction q using Nat.strongRecOn with
  | _ q ih =>
  intro i ν hq h0 h1 fr ha hb
  have hm := h.1
  refine e_iload (dec_at dX1_open 24) rfl ?_
  refine e_iload_n 3 (dec_at dX1_open 25) rfl rfl ?_
  refine e_icmp_le 60 (dec_at dX1_open 26) (by decide) (by omega) (by omega) (fun h41 => ?_) (fun h41 => ?_)
  · refine e_aload_n 0 (dec_at dX1_open 35) rfl rfl ?_
    refine e_getr 0 (dec_at dX1_open 36) flX1_9 rfl rfl ?_
    refine e_iload_n 3 (dec_at dX1_open 37) rfl rfl ?_
    refine e_iload_n 1 (dec_at dX1_open 38) rfl rfl ?_
    refine e_iast (dec_at dX1_open 39) rfl (by decide) (aLk_8 _) (by omega) (by omega) ?_
    refine e_aload_n 0 (dec_at dX1_open 40) rfl rfl ?_
    refine e_getr 1 (dec_at dX1_open 41) flX1_15 rfl rfl ?_
    refine e_iload_n 3 (dec_at dX1_open 42) rfl rfl ?_
    refine e_iload_n 2 (dec_at dX1_open 43) rfl rfl ?_
    refine e_iast (dec_at dX1_open 44) rfl (by decide) (aLk_9 _) (by omega) (by omega) ?_
    refine e_aload_n 0 (dec_at dX1_open 45) rfl rfl ?_
    refine e_dup (dec_at dX1_open 46) rfl ?_
    refine e_getiv 3 3 (μ 7 0 3) (dec_at dX1_open 47) flX1_21 rfl rfl rfl (by rw [mset_k (by decide), mset_k (by decide)]; exact fr 7 0 3 (by omega)) (fun r76 => ?_)
    refine e_iconst (dec_at dX1_open 48) ?_
    refine e_iadd (dec_at dX1_open 49) ?_
    refine e_put 3 3 (dec_at dX1_open 50) flX1_21 fpX1_3 rfl rfl rfl (by omega) (fit_int _) ?_
    refine e_iload_n 3 (dec_at dX1_open 51) rfl rfl ?_
    refine e_ireturn (dec_at dX1_open 52) rfl ?_
    obtain rfl : i = v := by omega
    refine ⟨i, rfl, Or.inr ⟨hn, Or.inr ⟨hM, v1, v2, v3, fun k l1 j z => ?_, mset_eq, fun j a b => ?_, ⟨?_, ?_⟩, fun j a b => ?_⟩⟩⟩
    · rw [mset_ne (by omega), mset_ne (by omega), mset_ne (by omega)]; exact fr k l1 j (by omega)
    · rw [mset_k (by decide), mset_k (by decide), mset_i (by omega), mset_k (by decide), mset_i (by omega), mset_k (by decide)]
      refine ⟨(ha j a b).1, (ha j a b).2.1, fun x x0 x1 => ?_⟩
      rw [mset_k (by decide), mset_k (by decide), mset_k (by decide)]
      exact (ha j a b).2.2 x x0 x1
    · rw [mset_k (by decide), mset_k (by decide), mset_eq]
    · rw [mset_k (by decide), mset_eq]
    · rw [mset_k (by decide), mset_k (by decide), mset_i (by omega), mset_k (by decide), mset_i (by omega), mset_k (by decide)]
      refine ⟨(hb j a b).1, (hb j a b).2.1, fun x x0 x1 => ?_⟩
      rw [mset_k (by decide), mset_k (by decide), mset_k (by decide)]
      exact (hb j a b).2.2 x x0 x1
  · refine e_aload_n 0 (dec_at dX1_open 27) rfl rfl ?_
    refine e_iload (dec_at dX1_open 28) rfl ?_
    refine e_iconst (dec_at dX1_open 29) ?_
    refine e_isub (dec_at dX1_open 30) ?_
    refine e_iload (dec_at dX1_open 31) rfl ?_
    refine e_callV (M' := mX1_shift) (dec_at dX1_open 32) mlX1_32 (c_shift (μ := ν) (i - 1) i (by omega) (by omega) (by omega)) oX1_shift iX1_shift rfl rfl rfl rfl (by decide) (by decide) (Nat.le_of_ble_eq_true rfl) (fun r ν1 hQ => ?_)
    obtain ⟨rfl, f1, f2, f3, f4⟩ := hQ
    show Ev mX1_open 2 54 _ [] ν1 _
    refine e_ii4 (dec_at dX1_open 33) (by decide) rfl ?_
    refine e_goto 38 (dec_at dX1_open 34) (by decide) ?_
    refine ih _ (by omega) (i + -1) ν1 rfl (by omega) (by omega) (fun k l1 j z => ?_) (fun j a b => ?_) (fun j a b => ?_)
    · rw [f1 k l1 j (by omega)]; exact fr k l1 j z
    · have z := ha j a (by omega)
      refine ⟨by rw [f1 8 0 j (by omega)]; exact z.1, by rw [f1 9 0 j (by omega)]; exact z.2.1, fun x x0 x1 => ?_⟩
      rw [f1 10 0 _ (by omega)]; exact z.2.2 x x0 x1
    · by_cases q : j = i
      · subst q
        have z := ha (j - 1) (by omega) (by omega)
        refine ⟨f2.trans z.1, f3.trans z.2.1, fun x x0 x1 => (f4 x x0 x1).trans (z.2.2 x x0 x1)⟩
      · have z := hb j (by omega) b
        refine ⟨by rw [f1 8 0 j (by omega)]; exact z.1, by rw [f1 9 0 j (by omega)]; exact z.2.1, fun x x0 x1 => ?_⟩
        rw [f1 10 0 _ (by omega)]; exact z.2.2 x x0 x1

set_option maxRecDepth 100000 in
set_option maxHeartbeats 4000000 in
theorem c_mopen {μ : Mm} (L c : Int) (h : Mv μ) (hL : 1 ≤ L ∧ L ≤ 3) (hc : 0 ≤ c ∧ c ≤ 1000) : Mc mX1_open 2 [vR 7 0, vI L, vI c] μ (fun r μ' => ∃ v, r = some (vI v) ∧ ((μ' = μ ∧ (0 ≤ v ∧ v < μ 7 0 3) ∧ μ 8 0 v = L ∧ μ 9 0 v = c) ∨ ((∀ i, 0 ≤ i → i < μ 7 0 3 → ¬ (μ 8 0 i = L ∧ μ 9 0 i = c)) ∧ ((μ' = μ ∧ v = -1 ∧ 40 ≤ μ 7 0 3) ∨ (μ 7 0 3 < 40 ∧ (0 ≤ v ∧ v ≤ μ 7 0 3) ∧ (∀ i, 0 ≤ i → i < v → ky μ i < 10000 * L + c) ∧ (∀ i, v ≤ i → i < μ 7 0 3 → 10000 * L + c ≤ ky μ i) ∧ (∀ k l1 i, ¬ (k = 8 ∨ k = 9 ∨ k = 10 ∨ k = 7 ∧ i = 3) → μ' k l1 i = μ k l1 i) ∧ μ' 7 0 3 = μ 7 0 3 + 1 ∧ (∀ i, 0 ≤ i → i < v → μ' 8 0 (i) = μ 8 0 (i) ∧ μ' 9 0 (i) = μ 9 0 (i) ∧ ∀ a, 0 ≤ a → a < 3 → μ' 10 0 (3 * (i) + a) = μ 10 0 (3 * (i) + a)) ∧ (μ' 8 0 v = L ∧ μ' 9 0 v = c) ∧ (∀ i, v < i → i ≤ μ 7 0 3 → μ' 8 0 (i) = μ 8 0 (i - 1) ∧ μ' 9 0 (i) = μ 9 0 (i - 1) ∧ ∀ a, 0 ≤ a → a < 3 → μ' 10 0 (3 * (i) + a) = μ 10 0 (3 * (i - 1) + a))))))) := by
  refine Mc.of (L := [some (vR 7 0), some (vI L), some (vI c), none, none]) (by decide +kernel) (by simp [leL, entA, isLong, mX1_open]) (by simp [entA, isLong, mX1_open]) ?_
  have hm := h.1
  refine e_aload_n 0 (dec_at dX1_open 0) rfl rfl ?_
  refine e_iload_n 1 (dec_at dX1_open 1) rfl rfl ?_
  refine e_iload_n 2 (dec_at dX1_open 2) rfl rfl ?_
  refine e_callV (M' := mX1_find) (dec_at dX1_open 3) mlX1_29 (c_find (μ := μ) L c h hL hc) oX1_find iX1_find rfl rfl rfl rfl (by decide) (by decide) (Nat.le_of_ble_eq_true rfl) (fun r μ1 hQ => ?_)
  obtain ⟨rfl, w, rfl, hw⟩ := hQ
  have hwr : inR w := by rcases hw with q | q <;> omega
  show Ev mX1_open 2 6 _ [vI w] μ1 _
  refine e_is3 (dec_at dX1_open 4) (by decide) rfl ?_
  refine e_iload_n 3 (dec_at dX1_open 5) rfl rfl ?_
  refine e_iconst (dec_at dX1_open 6) ?_
  refine e_icmp_eq 14 (dec_at dX1_open 7) (by decide) (by omega) (by omega) (fun h9 => ?_) (fun h9 => ?_)
  · have hno := hw.resolve_left (fun q => by omega)
    refine e_aload_n 0 (dec_at dX1_open 10) rfl rfl ?_
    refine e_geti 3 3 (dec_at dX1_open 11) flX1_21 rfl rfl rfl (fun r15 => ?_)
    refine e_bipush (dec_at dX1_open 12) (by decide) ?_
    refine e_icmp_lt 25 (dec_at dX1_open 13) (by decide) (by omega) (by omega) (fun h20 => ?_) (fun h20 => ?_)
    · refine e_aload_n 0 (dec_at dX1_open 16) rfl rfl ?_
      refine e_iload_n 1 (dec_at dX1_open 17) rfl rfl ?_
      refine e_iload_n 2 (dec_at dX1_open 18) rfl rfl ?_
      refine e_callV (M' := mX1_rank) (dec_at dX1_open 19) mlX1_25 (c_rank (μ := μ1) L c h hL hc) oX1_rank iX1_rank rfl rfl rfl rfl (by decide) (by decide) (Nat.le_of_ble_eq_true rfl) (fun r μ2 hQ => ?_)
      obtain ⟨rfl, v, rfl, v1, v2, v3⟩ := hQ
      show Ev mX1_open 2 31 _ [vI v] μ2 _
      refine e_is3 (dec_at dX1_open 20) (by decide) rfl ?_
      refine e_aload_n 0 (dec_at dX1_open 21) rfl rfl ?_
      refine e_geti 3 3 (dec_at dX1_open 22) flX1_21 rfl rfl rfl (fun r33 => ?_)
      refine e_is4 (dec_at dX1_open 23) (by decide) rfl ?_
      exact l_open2 h hL hc hno.2 (by omega) v1 v2 v3 _ _ μ2 rfl (by omega) (by omega) (fun _ _ _ _ => rfl) (fun j a b => ⟨rfl, rfl, fun _ _ _ => rfl⟩) (fun j a b => by omega)
    · refine e_iconst (dec_at dX1_open 14) ?_
      refine e_ireturn (dec_at dX1_open 15) rfl ?_
      exact ⟨-1, rfl, Or.inr ⟨hno.2, Or.inl ⟨rfl, rfl, by omega⟩⟩⟩
  · refine e_iload_n 3 (dec_at dX1_open 8) rfl rfl ?_
    refine e_ireturn (dec_at dX1_open 9) rfl ?_
    rcases hw with q | q
    · exact ⟨w, rfl, Or.inl ⟨rfl, q⟩⟩
    · exact absurd q.1 h9

set_option maxRecDepth 100000 in
set_option maxHeartbeats 4000000 in
theorem l_drop {μ : Mm} {L c v : Int} (h : Mv μ) (v1 : 0 ≤ v ∧ v < μ 7 0 3) (v2 : μ 8 0 v = L ∧ μ 9 0 v = c) : ∀ (q : Nat) (i : Int) (ν : Mm), (μ 7 0 3 - i).toNat = q → v ≤ i → i ≤ μ 7 0 3 - 1 → (∀ k l1 i, ¬ (k = 8 ∨ k = 9 ∨ k = 10 ∨ k = 7 ∧ i = 3) → ν k l1 i = μ k l1 i) → ν 7 0 3 = μ 7 0 3 - 1 → (∀ j, 0 ≤ j → j < v → ν 8 0 (j) = μ 8 0 (j) ∧ ν 9 0 (j) = μ 9 0 (j) ∧ ∀ a, 0 ≤ a → a < 3 → ν 10 0 (3 * (j) + a) = μ 10 0 (3 * (j) + a)) → (∀ j, v ≤ j → j < i → ν 8 0 (j) = μ 8 0 (j + 1) ∧ ν 9 0 (j) = μ 9 0 (j + 1) ∧ ∀ a, 0 ≤ a → a < 3 → ν 10 0 (3 * (j) + a) = μ 10 0 (3 * (j + 1) + a)) → (∀ j, i ≤ j → j < μ 7 0 3 → ν 8 0 (j) = μ 8 0 (j) ∧ ν 9 0 (j) = μ 9 0 (j) ∧ ∀ a, 0 ≤ a → a < 3 → ν 10 0 (3 * (j) + a) = μ 10 0 (3 * (j) + a)) → Ev mX1_drop 2 26 [some (vR 7 0), some (vI L), some (vI c), some (vI v), some (vI i)] [] ν (fun r μ' => r = none ∧ ((μ' = μ ∧ ∀ i, 0 ≤ i → i < μ 7 0 3 → ¬ (μ 8 0 i = L ∧ μ 9 0 i = c)) ∨ ∃ v, (0 ≤ v ∧ v < μ 7 0 3) ∧ (μ 8 0 v = L ∧ μ 9 0 v = c) ∧ (∀ k l1 i, ¬ (k = 8 ∨ k = 9 ∨ k = 10 ∨ k = 7 ∧ i = 3) → μ' k l1 i = μ k l1 i) ∧ μ' 7 0 3 = μ 7 0 3 - 1 ∧ (∀ i, 0 ≤ i → i < v → μ' 8 0 (i) = μ 8 0 (i) ∧ μ' 9 0 (i) = μ 9 0 (i) ∧ ∀ a, 0 ≤ a → a < 3 → μ' 10 0 (3 * (i) + a) = μ 10 0 (3 * (i) + a)) ∧ (∀ i, v ≤ i → i < μ 7 0 3 - 1 → μ' 8 0 (i) = μ 8 0 (i + 1) ∧ μ' 9 0 (i) = μ 9 0 (i + 1) ∧ ∀ a, 0 ≤ a → a < 3 → μ' 10 0 (3 * (i) + a) = μ 10 0 (3 * (i + 1) + a)))) := by
  intro q
  induction q using Nat.strongRecOn with
  | _ q ih =>
  intro i ν hq h0 h1 fr hm1 ha hb hc
  have hm := h.1
  refine e_iload (dec_at dX1_drop 17) rfl ?_
  refine e_aload_n 0 (dec_at dX1_drop 18) rfl rfl ?_
  refine e_getiv 3 3 (μ 7 0 3 - 1) (dec_at dX1_drop 19) flX1_21 rfl rfl rfl (by exact hm1) (fun r29 => ?_)
  refine e_icmp_ge 51 (dec_at dX1_drop 20) (by decide) (by omega) (by omega) (fun h32 => ?_) (fun h32 => ?_)
  · refine e_return (dec_at dX1_drop 29) rfl ?_
    obtain rfl : i = μ 7 0 3 - 1 := by omega
    exact ⟨rfl, Or.inr ⟨v, v1, v2, fr, hm1, ha, hb⟩⟩
  · refine e_aload_n 0 (dec_at dX1_drop 21) rfl rfl ?_
    refine e_iload (dec_at dX1_drop 22) rfl ?_
    refine e_iconst (dec_at dX1_drop 23) ?_
    refine e_iadd (dec_at dX1_drop 24) ?_
    refine e_iload (dec_at dX1_drop 25) rfl ?_
    refine e_callV (M' := mX1_shift) (dec_at dX1_drop 26) mlX1_32 (c_shift (μ := ν) (i + 1) i (by omega) (by omega) (by omega)) oX1_shift iX1_shift rfl rfl rfl rfl (by decide) (by decide) (Nat.le_of_ble_eq_true rfl) (fun r ν1 hQ => ?_)
    obtain ⟨rfl, f1, f2, f3, f4⟩ := hQ
    show Ev mX1_drop 2 45 _ [] ν1 _
    refine e_ii4 (dec_at dX1_drop 27) (by decide) rfl ?_
    refine e_goto 26 (dec_at dX1_drop 28) (by decide) ?_
    have go : ∀ j jo, j ≠ i → (ν 8 0 (j) = μ 8 0 (jo) ∧ ν 9 0 (j) = μ 9 0 (jo) ∧ ∀ a, 0 ≤ a → a < 3 → ν 10 0 (3 * (j) + a) = μ 10 0 (3 * (jo) + a)) → (ν1 8 0 (j) = μ 8 0 (jo) ∧ ν1 9 0 (j) = μ 9 0 (jo) ∧ ∀ a, 0 ≤ a → a < 3 → ν1 10 0 (3 * (j) + a) = μ 10 0 (3 * (jo) + a)) := fun j jo q z => by
      refine ⟨by rw [f1 8 0 j (by omega)]; exact z.1, by rw [f1 9 0 j (by omega)]; exact z.2.1, fun x x0 x1 => ?_⟩
      rw [f1 10 0 _ (by omega)]; exact z.2.2 x x0 x1
    refine ih _ (by omega) (i + 1) ν1 rfl (by omega) (by omega) (fun k l1 j z => ?_) (by rw [f1 7 0 3 (by omega)]; exact hm1) (fun j a b => go j j (by omega) (ha j a b)) (fun j a b => ?_) (fun j a b => go j j (by omega) (hc j (by omega) b))
    · rw [f1 k l1 j (by omega)]; exact fr k l1 j z
    · by_cases q : j = i
      · subst q
        have z := hc (j + 1) (by omega) (by omega)
        exact ⟨f2.trans z.1, f3.trans z.2.1, fun x x0 x1 => (f4 x x0 x1).trans (z.2.2 x x0 x1)⟩
      · exact go j (j + 1) q (hb j a (by omega))

set_option maxRecDepth 100000 in
set_option maxHeartbeats 4000000 in
theorem c_drop {μ : Mm} (L c : Int) (h : Mv μ) (hL : 1 ≤ L ∧ L ≤ 3) (hc : 0 ≤ c ∧ c ≤ 1000) : Mc mX1_drop 2 [vR 7 0, vI L, vI c] μ (fun r μ' => r = none ∧ ((μ' = μ ∧ ∀ i, 0 ≤ i → i < μ 7 0 3 → ¬ (μ 8 0 i = L ∧ μ 9 0 i = c)) ∨ ∃ v, (0 ≤ v ∧ v < μ 7 0 3) ∧ (μ 8 0 v = L ∧ μ 9 0 v = c) ∧ (∀ k l1 i, ¬ (k = 8 ∨ k = 9 ∨ k = 10 ∨ k = 7 ∧ i = 3) → μ' k l1 i = μ k l1 i) ∧ μ' 7 0 3 = μ 7 0 3 - 1 ∧ (∀ i, 0 ≤ i → i < v → μ' 8 0 (i) = μ 8 0 (i) ∧ μ' 9 0 (i) = μ 9 0 (i) ∧ ∀ a, 0 ≤ a → a < 3 → μ' 10 0 (3 * (i) + a) = μ 10 0 (3 * (i) + a)) ∧ (∀ i, v ≤ i → i < μ 7 0 3 - 1 → μ' 8 0 (i) = μ 8 0 (i + 1) ∧ μ' 9 0 (i) = μ 9 0 (i + 1) ∧ ∀ a, 0 ≤ a → a < 3 → μ' 10 0 (3 * (i) + a) = μ 10 0 (3 * (i + 1) + a)))) := by
  refine Mc.of (L := [some (vR 7 0), some (vI L), some (vI c), none, none]) (by decide +kernel) (by simp [leL, entA, isLong, mX1_drop]) (by simp [entA, isLong, mX1_drop]) ?_
  have hm := h.1
  refine e_aload_n 0 (dec_at dX1_drop 0) rfl rfl ?_
  refine e_iload_n 1 (dec_at dX1_drop 1) rfl rfl ?_
  refine e_iload_n 2 (dec_at dX1_drop 2) rfl rfl ?_
  refine e_callV (M' := mX1_find) (dec_at dX1_drop 3) mlX1_29 (c_find (μ := μ) L c h hL hc) oX1_find iX1_find rfl rfl rfl rfl (by decide) (by decide) (Nat.le_of_ble_eq_true rfl) (fun r μ1 hQ => ?_)
  obtain ⟨rfl, w, rfl, hw⟩ := hQ
  have hwr : inR w := by rcases hw with q | q <;> omega
  show Ev mX1_drop 2 6 _ [vI w] μ1 _
  refine e_is3 (dec_at dX1_drop 4) (by decide) rfl ?_
  refine e_iload_n 3 (dec_at dX1_drop 5) rfl rfl ?_
  refine e_iconst (dec_at dX1_drop 6) ?_
  refine e_icmp_ne 13 (dec_at dX1_drop 7) (by decide) (by omega) (by omega) (fun h9 => ?_) (fun h9 => ?_)
  · have hw1 := hw.resolve_right (fun q => h9 q.1)
    refine e_aload_n 0 (dec_at dX1_drop 9) rfl rfl ?_
    refine e_dup (dec_at dX1_drop 10) rfl ?_
    refine e_geti 3 3 (dec_at dX1_drop 11) flX1_21 rfl rfl rfl (fun r15 => ?_)
    refine e_iconst (dec_at dX1_drop 12) ?_
    refine e_isub (dec_at dX1_drop 13) ?_
    refine e_put 3 3 (dec_at dX1_drop 14) flX1_21 fpX1_3 rfl rfl rfl (by omega) (fit_int _) ?_
    refine e_iload_n 3 (dec_at dX1_drop 15) rfl rfl ?_
    refine e_is4 (dec_at dX1_drop 16) (by decide) rfl ?_
    refine l_drop h hw1.1 hw1.2 _ _ _ rfl (by omega) (by omega) (fr_set (fun _ _ _ _ => rfl) (by omega)) mset_eq (fun j a b => ?_) (fun j a b => by omega) (fun j a b => ?_)
    · exact ⟨mset_k (by decide), mset_k (by decide), fun _ _ _ => mset_k (by decide)⟩
    · exact ⟨mset_k (by decide), mset_k (by decide), fun _ _ _ => mset_k (by decide)⟩
  · refine e_return (dec_at dX1_drop 8) rfl ?_
    exact ⟨rfl, Or.inl ⟨rfl, (hw.resolve_left (fun q => by omega)).2⟩⟩

set_option maxRecDepth 100000 in
set_option maxHeartbeats 4000000 in
theorem l_mixAll {μ : Mm} (h : Mv μ) : ∀ (q : Nat) (m : Int) (a : Int), (μ 7 0 3 - m).toNat = q → 0 ≤ m → m ≤ μ 7 0 3 → Ev mX1_mixAll 1 2 [some (vR 7 0), some (vL a), none, some (vI m), none] [] μ (Rt (some (vL (flo (fun m a => 31 * (31 * (31 * (31 * a + μ 9 0 m) + μ 10 0 (3 * m + 0)) + μ 10 0 (3 * m + (0 + 1))) + μ 10 0 (3 * m + (0 + 1 + 1))) m (μ 7 0 3) a))) μ) := by
  intro q
  induction q using Nat.strongRecOn with
  | _ q ih =>
  intro m a hq h0 h1
  have hm := h.1
  refine e_iload_n 3 (dec_at dX1_mixAll 2) rfl rfl ?_
  refine e_aload_n 0 (dec_at dX1_mixAll 3) rfl rfl ?_
  refine e_geti 3 3 (dec_at dX1_mixAll 4) flX1_21 rfl rfl rfl (fun r4 => ?_)
  refine e_icmp_ge 58 (dec_at dX1_mixAll 5) (by decide) (by omega) (by omega) (fun h7 => ?_) (fun h7 => ?_)
  · refine e_lload_n 1 (dec_at dX1_mixAll 33) rfl rfl ?_
    refine e_lreturn (dec_at dX1_mixAll 34) rfl ?_
    exact ⟨by rw [flo_stop (by omega)], rfl⟩
  · refine e_lload_n 1 (dec_at dX1_mixAll 6) rfl rfl ?_
    refine e_aload_n 0 (dec_at dX1_mixAll 7) rfl rfl ?_
    refine e_getr 1 (dec_at dX1_mixAll 8) flX1_15 rfl rfl ?_
    refine e_iload_n 3 (dec_at dX1_mixAll 9) rfl rfl ?_
    refine e_iald (dec_at dX1_mixAll 10) rfl (by decide) (aLk_9 _) (by omega) (fun r16 => ?_)
    refine e_callNr (M' := mX5_mix) (dec_at dX1_mixAll 11) (fun s h => h.2) (c_mix a _ r16) oX5_mix sX5_mix rfl rfl (by decide) (by decide) (Nat.le_of_ble_eq_true rfl) ?_
    refine e_ls1 (dec_at dX1_mixAll 12) (by decide) rfl ?_
    refine e_iconst (dec_at dX1_mixAll 13) ?_
    refine e_is4 (dec_at dX1_mixAll 14) (by decide) rfl ?_
    refine e_iload (dec_at dX1_mixAll 15) rfl ?_
    refine e_iconst (dec_at dX1_mixAll 16) ?_
    refine e_icmp_ge 52 (dec_at dX1_mixAll 17) (by decide) (by decide) (by decide) (fun h => absurd h (by decide)) (fun _ => ?_)
    refine e_lload_n 1 (dec_at dX1_mixAll 18) rfl rfl ?_
    refine e_aload_n 0 (dec_at dX1_mixAll 19) rfl rfl ?_
    refine e_getr 2 (dec_at dX1_mixAll 20) flX1_18 rfl rfl ?_
    refine e_iconst (dec_at dX1_mixAll 21) ?_
    refine e_iload_n 3 (dec_at dX1_mixAll 22) rfl rfl ?_
    refine e_imul (dec_at dX1_mixAll 23) ?_
    refine e_iload (dec_at dX1_mixAll 24) rfl ?_
    refine e_iadd (dec_at dX1_mixAll 25) ?_
    refine e_iald (dec_at dX1_mixAll 26) rfl (by decide) (aLk_10 _) (by omega) (fun r41 => ?_)
    refine e_callNr (M' := mX5_mix) (dec_at dX1_mixAll 27) (fun s h => h.2) (c_mix _ _ r41) oX5_mix sX5_mix rfl rfl (by decide) (by decide) (Nat.le_of_ble_eq_true rfl) ?_
    refine e_ls1 (dec_at dX1_mixAll 28) (by decide) rfl ?_
    refine e_ii4 (dec_at dX1_mixAll 29) (by decide) rfl ?_
    refine e_goto 24 (dec_at dX1_mixAll 30) (by decide) ?_
    refine e_iload (dec_at dX1_mixAll 15) rfl ?_
    refine e_iconst (dec_at dX1_mixAll 16) ?_
    refine e_icmp_ge 52 (dec_at dX1_mixAll 17) (by decide) (by decide) (by decide) (fun h => absurd h (by decide)) (fun _ => ?_)
    refine e_lload_n 1 (dec_at dX1_mixAll 18) rfl rfl ?_
    refine e_aload_n 0 (dec_at dX1_mixAll 19) rfl rfl ?_
    refine e_getr 2 (dec_at dX1_mixAll 20) flX1_18 rfl rfl ?_
    refine e_iconst (dec_at dX1_mixAll 21) ?_
    refine e_iload_n 3 (dec_at dX1_mixAll 22) rfl rfl ?_
    refine e_imul (dec_at dX1_mixAll 23) ?_
    refine e_iload (dec_at dX1_mixAll 24) rfl ?_
    refine e_iadd (dec_at dX1_mixAll 25) ?_
    refine e_iald (dec_at dX1_mixAll 26) rfl (by decide) (aLk_10 _) (by omega) (fun r41 => ?_)
    refine e_callNr (M' := mX5_mix) (dec_at dX1_mixAll 27) (fun s h => h.2) (c_mix _ _ r41) oX5_mix sX5_mix rfl rfl (by decide) (by decide) (Nat.le_of_ble_eq_true rfl) ?_
    refine e_ls1 (dec_at dX1_mixAll 28) (by decide) rfl ?_
    refine e_ii4 (dec_at dX1_mixAll 29) (by decide) rfl ?_
    refine e_goto 24 (dec_at dX1_mixAll 30) (by decide) ?_
    refine e_iload (dec_at dX1_mixAll 15) rfl ?_
    refine e_iconst (dec_at dX1_mixAll 16) ?_
    refine e_icmp_ge 52 (dec_at dX1_mixAll 17) (by decide) (by decide) (by decide) (fun h => absurd h (by decide)) (fun _ => ?_)
    refine e_lload_n 1 (dec_at dX1_mixAll 18) rfl rfl ?_
    refine e_aload_n 0 (dec_at dX1_mixAll 19) rfl rfl ?_
    refine e_getr 2 (dec_at dX1_mixAll 20) flX1_18 rfl rfl ?_
    refine e_iconst (dec_at dX1_mixAll 21) ?_
    refine e_iload_n 3 (dec_at dX1_mixAll 22) rfl rfl ?_
    refine e_imul (dec_at dX1_mixAll 23) ?_
    refine e_iload (dec_at dX1_mixAll 24) rfl ?_
    refine e_iadd (dec_at dX1_mixAll 25) ?_
    refine e_iald (dec_at dX1_mixAll 26) rfl (by decide) (aLk_10 _) (by omega) (fun r41 => ?_)
    refine e_callNr (M' := mX5_mix) (dec_at dX1_mixAll 27) (fun s h => h.2) (c_mix _ _ r41) oX5_mix sX5_mix rfl rfl (by decide) (by decide) (Nat.le_of_ble_eq_true rfl) ?_
    refine e_ls1 (dec_at dX1_mixAll 28) (by decide) rfl ?_
    refine e_ii4 (dec_at dX1_mixAll 29) (by decide) rfl ?_
    refine e_goto 24 (dec_at dX1_mixAll 30) (by decide) ?_
    refine e_iload (dec_at dX1_mixAll 15) rfl ?_
    refine e_iconst (dec_at dX1_mixAll 16) ?_
    refine e_icmp_ge 52 (dec_at dX1_mixAll 17) (by decide) (by decide) (by decide) (fun _ => ?_) (fun h => absurd h (by decide))
    refine e_ii3 (dec_at dX1_mixAll 31) (by decide) rfl ?_
    refine e_goto 2 (dec_at dX1_mixAll 32) (by decide) ?_
    rw [flo_step (by omega)]
    exact e_le [some (vR 7 0), some (vL _), none, some (vI (m + 1)), none] (by simp [leL]) (ih _ (by omega) (m + 1) _ rfl (by omega) (by omega))

set_option maxRecDepth 100000 in
set_option maxHeartbeats 4000000 in
theorem c_mixAll {μ : Mm} (a : Int) (h : Mv μ) : Mc mX1_mixAll 1 [vR 7 0, vL a] μ (Rt (some (vL (flo (fun m a => 31 * (31 * (31 * (31 * a + μ 9 0 m) + μ 10 0 (3 * m + 0)) + μ 10 0 (3 * m + (0 + 1))) + μ 10 0 (3 * m + (0 + 1 + 1))) 0 (μ 7 0 3) a))) μ) := by
  refine Mc.of (L := [some (vR 7 0), some (vL a), none, none, none]) (by decide +kernel) (by simp [leL, entA, isLong, mX1_mixAll]) (by simp [entA, isLong, mX1_mixAll]) ?_
  have hm := h.1
  refine e_iconst (dec_at dX1_mixAll 0) ?_
  refine e_is3 (dec_at dX1_mixAll 1) (by decide) rfl ?_
  exact l_mixAll h _ _ _ rfl (by omega) (by omega)
end
section
/-- a number of the move of a corner, 0 where there is none -/
def HM (μ : Mm) (L c i : Int) : Prop := (0 ≤ i ∧ i < μ 7 0 3) ∧ μ 8 0 i = L ∧ μ 9 0 i = c
noncomputable def mvx (μ : Mm) (L c a : Int) : Int := @ite Int (∃ i, HM μ L c i) (Classical.propDecidable _) (μ 10 0 (3 * Classical.epsilon (HM μ L c) + a)) 0
theorem HM.uq {μ : Mm} (h : Mv μ) {L c i j : Int} (hi : HM μ L c i) (hj : HM μ L c j) : i = j := by
  have e : ky μ i = ky μ j := by unfold ky; rw [hi.2.1, hi.2.2, hj.2.1, hj.2.2]
  rcases Int.lt_trichotomy i j with q | q | q
  · have := h.2.2 i j hi.1.1 q hj.1.2; omega
  · exact q
  · have := h.2.2 j i hj.1.1 q hi.1.2; omega
theorem mvx_at {μ : Mm} (h : Mv μ) {L c i : Int} (hi : HM μ L c i) (a : Int) : mvx μ L c a = μ 10 0 (3 * i + a) := by
  have hx : ∃ i, HM μ L c i := ⟨i, hi⟩
  unfold mvx
  rw [if_pos hx, HM.uq h (Classical.epsilon_spec hx) hi]
theorem mvx_no {μ : Mm} {L c : Int} (hn : ¬ ∃ i, HM μ L c i) (a : Int) : mvx μ L c a = 0 := by
  unfold mvx
  rw [if_neg hn]
theorem mvx_in {μ : Mm} (h : Mv μ) {L c a : Int} (h0 : 0 ≤ a) (h1 : a < 3) : -1000 ≤ mvx μ L c a ∧ mvx μ L c a ≤ 1000 := by
  by_cases q : ∃ i, HM μ L c i
  · obtain ⟨i, hi⟩ := q
    rw [mvx_at h hi]
    exact (h.2.1 i hi.1.1 hi.1.2).2.2 a h0 h1
  · rw [mvx_no q]; omega

theorem NB1.fr2 {μ ν : Mm} {l : Int} (h : NB1 μ l) (fr : ∀ (k : Nat) (l1 i : Int), ¬ (k = 12 ∧ l1 = l + 1) → ν k l1 i = μ k l1 i) : NB1 ν l := h.fr (fun k i => fr k l i (by omega))
theorem NB2.fr2 {μ ν : Mm} {l : Int} (h : NB2 μ l) (fr : ∀ (k : Nat) (l1 i : Int), ¬ (k = 12 ∧ l1 = l + 1) → ν k l1 i = μ k l1 i) : NB2 ν l := h.fr (fun k i => fr k l i (by omega))

set_option maxRecDepth 100000 in
set_option maxHeartbeats 4000000 in
theorem l_sumFrom {μ : Mm} {l : Int} (hb1 : NB1 μ l) (hb2 : NB2 μ l) (hE1 : μ 11 l 2 ≤ capC (l + 1)) (hs : ∀ i, 0 ≤ i → i < 3 * μ 11 l 0 → -100000000 ≤ μ 12 l i ∧ μ 12 l i ≤ 100000000) : ∀ (q : Nat) (e : Int) (ν : Mm), (μ 11 l 2 - e).toNat = q → 0 ≤ e → e ≤ μ 11 l 2 → (∀ k l1 i, ¬ (k = 12 ∧ l1 = l + 1) → ν k l1 i = μ k l1 i) → (∀ j, 0 ≤ j → j < e → ∀ a, 0 ≤ a → a < 3 → ν 12 (l + 1) (3 * j + a) = μ 12 l (3 * μ 14 l (μ 18 l j) + a) + μ 12 l (3 * μ 14 l (nxF (μ 13 l) (μ 15 l) (μ 18 l j)) + a)) → Ev mX2_sumFrom 3 2 [some (vR 11 (l + 1)), some (vR 11 l), some (vI e), none, none, none] [] ν (fun r μ' => r = none ∧ (∀ k l1 i, ¬ (k = 12 ∧ l1 = l + 1) → μ' k l1 i = μ k l1 i) ∧ (∀ j, 0 ≤ j → j < μ 11 l 2 → ∀ a, 0 ≤ a → a < 3 → μ' 12 (l + 1) (3 * j + a) = μ 12 l (3 * μ 14 l (μ 18 l j) + a) + μ 12 l (3 * μ 14 l (nxF (μ 13 l) (μ 15 l) (μ 18 l j)) + a))) := by
  intro q
  induction q using Nat.strongRecOn with
  | _ q ih =>
  intro e ν hq h0 h1 fr hi
  have hCc := capC_in l
  have hCp := capP_in l
  have hCe := capE_in l
  have hCc1 := capC_in (l + 1)
  have hE := hb2.1
  have hC := hb1.1
  have hn := hb1.2.2.1
  refine e_iload_n 2 (dec_at dX2_sumFrom 2) rfl rfl ?_
  refine e_aload_n 1 (dec_at dX2_sumFrom 3) rfl rfl ?_
  refine e_getiv 2 2 (μ 11 l 2) (dec_at dX2_sumFrom 4) flX2_61 rfl rfl rfl (by exact fr 11 l 2 (by omega)) (fun r4 => ?_)
  refine e_icmp_ge 79 (dec_at dX2_sumFrom 5) (by decide) (by omega) (by omega) (fun h7 => ?_) (fun h7 => ?_)
  · refine e_return (dec_at dX2_sumFrom 48) rfl ?_
    obtain rfl : e = μ 11 l 2 := by omega
    exact ⟨rfl, fr, hi⟩
  · have he := hb2.2 e h0 (by omega)
    have hw := hb1.2.2.2.2 _ he.1 he.2
    have hx := hb1.nx he.1 he.2
    have ht := hb1.2.2.2.2 _ hx.1 hx.2
    have s0 := hs (3 * μ 14 l (μ 18 l e) + 0) (by omega) (by omega)
    have s1 := hs (3 * μ 14 l (μ 18 l e) + (0 + 1)) (by omega) (by omega)
    have s2 := hs (3 * μ 14 l (μ 18 l e) + (0 + 1 + 1)) (by omega) (by omega)
    have t0 := hs (3 * μ 14 l (nxF (μ 13 l) (μ 15 l) (μ 18 l e)) + 0) (by omega) (by omega)
    have t1 := hs (3 * μ 14 l (nxF (μ 13 l) (μ 15 l) (μ 18 l e)) + (0 + 1)) (by omega) (by omega)
    have t2 := hs (3 * μ 14 l (nxF (μ 13 l) (μ 15 l) (μ 18 l e)) + (0 + 1 + 1)) (by omega) (by omega)
    refine e_iconst (dec_at dX2_sumFrom 6) ?_
    refine e_aload_n 1 (dec_at dX2_sumFrom 7) rfl rfl ?_
    refine e_iload_n 2 (dec_at dX2_sumFrom 8) rfl rfl ?_
    refine e_callVr (M' := mX2_whence) (dec_at dX2_sumFrom 9) mlX2_81 ((c_whence (μ := ν) l e (hb1.fr2 fr) (hb2.fr2 fr) h0 (by rw [fr 11 l 2 (by omega)]; omega)).rt (r' := some (vI (μ 14 l (μ 18 l e)))) (by rw [fr 18 l _ (by omega), fr 14 l _ (by omega)]) rfl) oX2_whence iX2_whence rfl rfl rfl rfl (by decide) (by decide) (Nat.le_of_ble_eq_true rfl) ?_
    refine e_imul (dec_at dX2_sumFrom 10) ?_
    refine e_is3 (dec_at dX2_sumFrom 11) (by decide) rfl ?_
    refine e_iconst (dec_at dX2_sumFrom 12) ?_
    refine e_aload_n 1 (dec_at dX2_sumFrom 13) rfl rfl ?_
    refine e_iload_n 2 (dec_at dX2_sumFrom 14) rfl rfl ?_
    refine e_callVr (M' := mX2_whither) (dec_at dX2_sumFrom 15) mlX2_84 ((c_whither (μ := ν) l e (hb1.fr2 fr) (hb2.fr2 fr) h0 (by rw [fr 11 l 2 (by omega)]; omega)).rt (r' := some (vI (μ 14 l (nxF (μ 13 l) (μ 15 l) (μ 18 l e))))) (by rw [fr 18 l _ (by omega), show ν 13 l = μ 13 l from funext (fun i => fr 13 l i (by omega)), show ν 15 l = μ 15 l from funext (fun i => fr 15 l i (by omega)), fr 14 l _ (by omega)]) rfl) oX2_whither iX2_whither rfl rfl rfl rfl (by decide) (by decide) (Nat.le_of_ble_eq_true rfl) ?_
    refine e_imul (dec_at dX2_sumFrom 16) ?_
    refine e_is4 (dec_at dX2_sumFrom 17) (by decide) rfl ?_
    refine e_iconst (dec_at dX2_sumFrom 18) ?_
    refine e_is5 (dec_at dX2_sumFrom 19) (by decide) rfl ?_
    refine e_iload (dec_at dX2_sumFrom 20) rfl ?_
    refine e_iconst (dec_at dX2_sumFrom 21) ?_
    refine e_icmp_ge 73 (dec_at dX2_sumFrom 22) (by decide) (by decide) (by decide) (fun h => absurd h (by decide)) (fun _ => ?_)
    refine e_aload_n 0 (dec_at dX2_sumFrom 23) rfl rfl ?_
    refine e_getr 3 (dec_at dX2_sumFrom 24) flX2_9 rfl rfl ?_
    refine e_iconst (dec_at dX2_sumFrom 25) ?_
    refine e_iload_n 2 (dec_at dX2_sumFrom 26) rfl rfl ?_
    refine e_imul (dec_at dX2_sumFrom 27) ?_
    refine e_iload (dec_at dX2_sumFrom 28) rfl ?_
    refine e_iadd (dec_at dX2_sumFrom 29) ?_
    refine e_aload_n 1 (dec_at dX2_sumFrom 30) rfl rfl ?_
    refine e_getr 3 (dec_at dX2_sumFrom 31) flX2_9 rfl rfl ?_
    refine e_iload_n 3 (dec_at dX2_sumFrom 32) rfl rfl ?_
    refine e_iload (dec_at dX2_sumFrom 33) rfl ?_
    refine e_iadd (dec_at dX2_sumFrom 34) ?_
    refine e_ialdv (μ 12 l (3 * μ 14 l (μ 18 l e) + 0)) (dec_at dX2_sumFrom 35) rfl (by decide) (aLk_12 _) (by omega) (by rw [fr 12 l _ (by omega)]) (fun r54 => ?_)
    refine e_aload_n 1 (dec_at dX2_sumFrom 36) rfl rfl ?_
    refine e_getr 3 (dec_at dX2_sumFrom 37) flX2_9 rfl rfl ?_
    refine e_iload (dec_at dX2_sumFrom 38) rfl ?_
    refine e_iload (dec_at dX2_sumFrom 39) rfl ?_
    refine e_iadd (dec_at dX2_sumFrom 40) ?_
    refine e_ialdv (μ 12 l (3 * μ 14 l (nxF (μ 13 l) (μ 15 l) (μ 18 l e)) + 0)) (dec_at dX2_sumFrom 41) rfl (by decide) (aLk_12 _) (by omega) (by rw [fr 12 l _ (by omega)]) (fun r64 => ?_)
    refine e_iadd (dec_at dX2_sumFrom 42) ?_
    refine e_iast (dec_at dX2_sumFrom 43) rfl (by decide) (aLk_12 _) (by omega) (by omega) ?_
    refine e_ii5 (dec_at dX2_sumFrom 44) (by decide) rfl ?_
    refine e_goto 30 (dec_at dX2_sumFrom 45) (by decide) ?_
    refine e_iload (dec_at dX2_sumFrom 20) rfl ?_
    refine e_iconst (dec_at dX2_sumFrom 21) ?_
    refine e_icmp_ge 73 (dec_at dX2_sumFrom 22) (by decide) (by decide) (by decide) (fun h => absurd h (by decide)) (fun _ => ?_)
    refine e_aload_n 0 (dec_at dX2_sumFrom 23) rfl rfl ?_
    refine e_getr 3 (dec_at dX2_sumFrom 24) flX2_9 rfl rfl ?_
    refine e_iconst (dec_at dX2_sumFrom 25) ?_
    refine e_iload_n 2 (dec_at dX2_sumFrom 26) rfl rfl ?_
    refine e_imul (dec_at dX2_sumFrom 27) ?_
    refine e_iload (dec_at dX2_sumFrom 28) rfl ?_
    refine e_iadd (dec_at dX2_sumFrom 29) ?_
    refine e_aload_n 1 (dec_at dX2_sumFrom 30) rfl rfl ?_
    refine e_getr 3 (dec_at dX2_sumFrom 31) flX2_9 rfl rfl ?_
    refine e_iload_n 3 (dec_at dX2_sumFrom 32) rfl rfl ?_
    refine e_iload (dec_at dX2_sumFrom 33) rfl ?_
    refine e_iadd (dec_at dX2_sumFrom 34) ?_
    refine e_ialdv (μ 12 l (3 * μ 14 l (μ 18 l e) + (0 + 1))) (dec_at dX2_sumFrom 35) rfl (by decide) (aLk_12 _) (by omega) (by rw [mset_l (by omega), fr 12 l _ (by omega)]) (fun r54 => ?_)
    refine e_aload_n 1 (dec_at dX2_sumFrom 36) rfl rfl ?_
    refine e_getr 3 (dec_at dX2_sumFrom 37) flX2_9 rfl rfl ?_
    refine e_iload (dec_at dX2_sumFrom 38) rfl ?_
    refine e_iload (dec_at dX2_sumFrom 39) rfl ?_
    refine e_iadd (dec_at dX2_sumFrom 40) ?_
    refine e_ialdv (μ 12 l (3 * μ 14 l (nxF (μ 13 l) (μ 15 l) (μ 18 l e)) + (0 + 1))) (dec_at dX2_sumFrom 41) rfl (by decide) (aLk_12 _) (by omega) (by rw [mset_l (by omega), fr 12 l _ (by omega)]) (fun r64 => ?_)
    refine e_iadd (dec_at dX2_sumFrom 42) ?_
    refine e_iast (dec_at dX2_sumFrom 43) rfl (by decide) (aLk_12 _) (by omega) (by omega) ?_
    refine e_ii5 (dec_at dX2_sumFrom 44) (by decide) rfl ?_
    refine e_goto 30 (dec_at dX2_sumFrom 45) (by decide) ?_
    refine e_iload (dec_at dX2_sumFrom 20) rfl ?_
    refine e_iconst (dec_at dX2_sumFrom 21) ?_
    refine e_icmp_ge 73 (dec_at dX2_sumFrom 22) (by decide) (by decide) (by decide) (fun h => absurd h (by decide)) (fun _ => ?_)
    refine e_aload_n 0 (dec_at dX2_sumFrom 23) rfl rfl ?_
    refine e_getr 3 (dec_at dX2_sumFrom 24) flX2_9 rfl rfl ?_
    refine e_iconst (dec_at dX2_sumFrom 25) ?_
    refine e_iload_n 2 (dec_at dX2_sumFrom 26) rfl rfl ?_
    refine e_imul (dec_at dX2_sumFrom 27) ?_
    refine e_iload (dec_at dX2_sumFrom 28) rfl ?_
    refine e_iadd (dec_at dX2_sumFrom 29) ?_
    refine e_aload_n 1 (dec_at dX2_sumFrom 30) rfl rfl ?_
    refine e_getr 3 (dec_at dX2_sumFrom 31) flX2_9 rfl rfl ?_
    refine e_iload_n 3 (dec_at dX2_sumFrom 32) rfl rfl ?_
    refine e_iload (dec_at dX2_sumFrom 33) rfl ?_
    refine e_iadd (dec_at dX2_sumFrom 34) ?_
    refine e_ialdv (μ 12 l (3 * μ 14 l (μ 18 l e) + (0 + 1 + 1))) (dec_at dX2_sumFrom 35) rfl (by decide) (aLk_12 _) (by omega) (by rw [mset_l (by omega), mset_l (by omega), fr 12 l _ (by omega)]) (fun r54 => ?_)
    refine e_aload_n 1 (dec_at dX2_sumFrom 36) rfl rfl ?_
    refine e_getr 3 (dec_at dX2_sumFrom 37) flX2_9 rfl rfl ?_
    refine e_iload (dec_at dX2_sumFrom 38) rfl ?_
    refine e_iload (dec_at dX2_sumFrom 39) rfl ?_
    refine e_iadd (dec_at dX2_sumFrom 40) ?_
    refine e_ialdv (μ 12 l (3 * μ 14 l (nxF (μ 13 l) (μ 15 l) (μ 18 l e)) + (0 + 1 + 1))) (dec_at dX2_sumFrom 41) rfl (by decide) (aLk_12 _) (by omega) (by rw [mset_l (by omega), mset_l (by omega), fr 12 l _ (by omega)]) (fun r64 => ?_)
    refine e_iadd (dec_at dX2_sumFrom 42) ?_
    refine e_iast (dec_at dX2_sumFrom 43) rfl (by decide) (aLk_12 _) (by omega) (by omega) ?_
    refine e_ii5 (dec_at dX2_sumFrom 44) (by decide) rfl ?_
    refine e_goto 30 (dec_at dX2_sumFrom 45) (by decide) ?_
    refine e_iload (dec_at dX2_sumFrom 20) rfl ?_
    refine e_iconst (dec_at dX2_sumFrom 21) ?_
    refine e_icmp_ge 73 (dec_at dX2_sumFrom 22) (by decide) (by decide) (by decide) (fun _ => ?_) (fun h => absurd h (by decide))
    refine e_ii2 (dec_at dX2_sumFrom 46) (by decide) rfl ?_
    refine e_goto 2 (dec_at dX2_sumFrom 47) (by decide) ?_
    refine e_le [some (vR 11 (l + 1)), some (vR 11 l), some (vI (e + 1)), none, none, none] (by simp [leL]) (ih _ (by omega) (e + 1) _ rfl (by omega) (by omega) (fr_set (fr_set (fr_set fr ⟨rfl, rfl⟩) ⟨rfl, rfl⟩) ⟨rfl, rfl⟩) (fun j a b x x0 x1 => ?_))
    by_cases q : j = e
    · subst q
      rcases (show x = 0 ∨ x = 1 ∨ x = 2 by omega) with rfl | rfl | rfl
      · rw [mset_i (by omega), mset_i (by omega)]
        exact mset_eq
      · rw [mset_i (by omega)]
        exact mset_eq
      · exact mset_eq
    · rw [mset_i (by omega), mset_i (by omega), mset_i (by omega)]
      exact hi j a (by omega) x x0 x1

set_option maxRecDepth 100000 in
set_option maxHeartbeats 4000000 in
theorem c_sumFrom {μ : Mm} (l : Int) (hb1 : NB1 μ l) (hb2 : NB2 μ l) (hE1 : μ 11 l 2 ≤ capC (l + 1)) (hs : ∀ i, 0 ≤ i → i < 3 * μ 11 l 0 → -100000000 ≤ μ 12 l i ∧ μ 12 l i ≤ 100000000) : Mc mX2_sumFrom 3 [vR 11 (l + 1), vR 11 l] μ (fun r μ' => r = none ∧ (∀ k l1 i, ¬ (k = 12 ∧ l1 = l + 1) → μ' k l1 i = μ k l1 i) ∧ (∀ j, 0 ≤ j → j < μ 11 l 2 → ∀ a, 0 ≤ a → a < 3 → μ' 12 (l + 1) (3 * j + a) = μ 12 l (3 * μ 14 l (μ 18 l j) + a) + μ 12 l (3 * μ 14 l (nxF (μ 13 l) (μ 15 l) (μ 18 l j)) + a))) := by
  refine Mc.of (L := [some (vR 11 (l + 1)), some (vR 11 l), none, none, none, none]) (by decide +kernel) (by simp [leL, entA, isLong, mX2_sumFrom]) (by simp [entA, isLong, mX2_sumFrom]) ?_
  have hCc := capC_in l
  have hCp := capP_in l
  have hCe := capE_in l
  have hCc1 := capC_in (l + 1)
  have hE := hb2.1
  have hC := hb1.1
  have hn := hb1.2.2.1
  refine e_iconst (dec_at dX2_sumFrom 0) ?_
  refine e_is2 (dec_at dX2_sumFrom 1) (by decide) rfl ?_
  exact l_sumFrom hb1 hb2 hE1 hs _ 0 μ rfl (by omega) (by omega) (fun _ _ _ _ => rfl) (fun j a b => by omega)

set_option maxRecDepth 100000 in
set_option maxHeartbeats 4000000 in
theorem l_addTo {μ : Mm} {l : Int} (h : Mv μ) (hC : 0 ≤ μ 11 l 0 ∧ μ 11 l 0 ≤ capC l) (hl : inR l) (hs : ∀ i, 0 ≤ i → i < 3 * μ 11 l 0 → -100000000 ≤ μ 12 l i ∧ μ 12 l i ≤ 100000000) : ∀ (q : Nat) (m : Int) (ν : Mm), (μ 7 0 3 - m).toNat = q → 0 ≤ m → m ≤ μ 7 0 3 → (∀ k l1 i, ¬ (k = 12 ∧ l1 = l) → ν k l1 i = μ k l1 i) → (∀ c a, 0 ≤ c → c < μ 11 l 0 → 0 ≤ a → a < 3 → (∀ i, 0 ≤ i → i < m → μ 8 0 i = l → μ 9 0 i = c → ν 12 l (3 * c + a) = μ 12 l (3 * c + a) + μ 10 0 (3 * i + a)) ∧ ((∀ i, 0 ≤ i → i < m → ¬ (μ 8 0 i = l ∧ μ 9 0 i = c)) → ν 12 l (3 * c + a) = μ 12 l (3 * c + a))) → Ev mX1_addTo 1 2 [some (vR 7 0), some (vR 11 l), some (vI l), some (vI m), none] [] ν (fun r μ' => r = none ∧ (∀ k l1 i, ¬ (k = 12 ∧ l1 = l) → μ' k l1 i = μ k l1 i) ∧ ∀ c a, 0 ≤ c → c < μ 11 l 0 → 0 ≤ a → a < 3 → μ' 12 l (3 * c + a) = μ 12 l (3 * c + a) + mvx μ l c a) := by
  intro q
  induction q using Nat.strongRecOn with
  | _ q ih =>
  intro m ν hq h0 h1 fr hi
  have hCc := capC_in l
  have hm := h.1
  refine e_iload_n 3 (dec_at dX1_addTo 2) rfl rfl ?_
  refine e_aload_n 0 (dec_at dX1_addTo 3) rfl rfl ?_
  refine e_getiv 3 3 (μ 7 0 3) (dec_at dX1_addTo 4) flX1_21 rfl rfl rfl (by exact fr 7 0 3 (by omega)) (fun r4 => ?_)
  refine e_icmp_ge 84 (dec_at dX1_addTo 5) (by decide) (by omega) (by omega) (fun h7 => ?_) (fun h7 => ?_)
  · refine e_return (dec_at dX1_addTo 50) rfl ?_
    obtain rfl : m = μ 7 0 3 := by omega
    refine ⟨rfl, fr, fun c a c0 c1 a0 a1 => ?_⟩
    have z := hi c a c0 c1 a0 a1
    by_cases q : ∃ i, HM μ l c i
    · obtain ⟨i, hx⟩ := q
      rw [mvx_at h hx]
      exact z.1 i hx.1.1 hx.1.2 hx.2.1 hx.2.2
    · rw [mvx_no q, Int.add_zero]
      exact z.2 (fun i i0 i1 w => q ⟨i, ⟨i0, i1⟩, w.1, w.2⟩)
  · have hq1 := h.2.1 m h0 (by omega)
    refine e_aload_n 0 (dec_at dX1_addTo 6) rfl rfl ?_
    refine e_getr 0 (dec_at dX1_addTo 7) flX1_9 rfl rfl ?_
    refine e_iload_n 3 (dec_at dX1_addTo 8) rfl rfl ?_
    refine e_ialdv (μ 8 0 m) (dec_at dX1_addTo 9) rfl (by decide) (aLk_8 _) (by omega) (by exact fr 8 0 m (by omega)) (fun r15 => ?_)
    refine e_iload_n 2 (dec_at dX1_addTo 10) rfl rfl ?_
    refine e_icmp_ne 78 (dec_at dX1_addTo 11) (by decide) (by omega) (by omega) (fun h17 => ?_) (fun h17 => ?_)
    · refine e_ii3 (dec_at dX1_addTo 48) (by decide) rfl ?_
      refine e_goto 2 (dec_at dX1_addTo 49) (by decide) ?_
      refine ih _ (by omega) (m + 1) ν rfl (by omega) (by omega) fr (fun c a c0 c1 a0 a1 => ?_)
      have z := hi c a c0 c1 a0 a1
      refine ⟨fun i i0 i1 e1 e2 => ?_, fun hno => z.2 (fun i i0 i1 => hno i i0 (by omega))⟩
      by_cases q : i = m
      · subst q; omega
      · exact z.1 i i0 (by omega) e1 e2
    · refine e_aload_n 1 (dec_at dX1_addTo 12) rfl rfl ?_
      refine e_aload_n 0 (dec_at dX1_addTo 13) rfl rfl ?_
      refine e_getr 1 (dec_at dX1_addTo 14) flX1_15 rfl rfl ?_
      refine e_iload_n 3 (dec_at dX1_addTo 15) rfl rfl ?_
      refine e_ialdv (μ 9 0 m) (dec_at dX1_addTo 16) rfl (by decide) (aLk_9 _) (by omega) (by exact fr 9 0 m (by omega)) (fun r26 => ?_)
      refine e_callVr (M' := mX2_hasCorner) (dec_at dX1_addTo 17) mlX1_36 ((c_hasCorner (μ := ν) l (μ 9 0 m) (by omega)).rt (r' := some (vI (b01 (0 ≤ μ 9 0 m ∧ μ 9 0 m < μ 11 l 0)))) (by rw [fr 11 l 0 (by omega)]) rfl) oX2_hasCorner iX2_hasCorner rfl rfl rfl rfl (by decide) (by decide) (Nat.le_of_ble_eq_true rfl) ?_
      refine e_beq 78 (dec_at dX1_addTo 18) (by decide) (fun h30 => ?_) (fun h30 => ?_)
      · have hnb := h30
        refine e_ii3 (dec_at dX1_addTo 48) (by decide) rfl ?_
        refine e_goto 2 (dec_at dX1_addTo 49) (by decide) ?_
        refine ih _ (by omega) (m + 1) ν rfl (by omega) (by omega) fr (fun c a c0 c1 a0 a1 => ?_)
        have z := hi c a c0 c1 a0 a1
        refine ⟨fun i i0 i1 e1 e2 => ?_, fun hno => z.2 (fun i i0 i1 => hno i i0 (by omega))⟩
        by_cases q : i = m
        · subst q; omega
        · exact z.1 i i0 (by omega) e1 e2
      · have hb := h30
        have hnm : ∀ i, 0 ≤ i → i < m → ¬ (μ 8 0 i = l ∧ μ 9 0 i = μ 9 0 m) := fun i i0 i1 z => by
          have := HM.uq h (L := l) (c := μ 9 0 m) (i := i) (j := m) ⟨by omega, z.1, z.2⟩ ⟨by omega, by omega, rfl⟩
          omega
        have s0 := hs (3 * μ 9 0 m + 0) (by omega) (by omega)
        have s1 := hs (3 * μ 9 0 m + (0 + 1)) (by omega) (by omega)
        have s2 := hs (3 * μ 9 0 m + (0 + 1 + 1)) (by omega) (by omega)
        have u0 := hq1.2.2 0 (by decide) (by decide)
        have u1 := hq1.2.2 (0 + 1) (by decide) (by decide)
        have u2 := hq1.2.2 (0 + 1 + 1) (by decide) (by decide)
        refine e_iconst (dec_at dX1_addTo 19) ?_
        refine e_is4 (dec_at dX1_addTo 20) (by decide) rfl ?_
        refine e_iload (dec_at dX1_addTo 21) rfl ?_
        refine e_iconst (dec_at dX1_addTo 22) ?_
        refine e_icmp_ge 78 (dec_at dX1_addTo 23) (by decide) (by decide) (by decide) (fun h => absurd h (by decide)) (fun _ => ?_)
        refine e_aload_n 1 (dec_at dX1_addTo 24) rfl rfl ?_
        refine e_getr 3 (dec_at dX1_addTo 25) flX1_42 rfl rfl ?_
        refine e_iconst (dec_at dX1_addTo 26) ?_
        refine e_aload_n 0 (dec_at dX1_addTo 27) rfl rfl ?_
        refine e_getr 1 (dec_at dX1_addTo 28) flX1_15 rfl rfl ?_
        refine e_iload_n 3 (dec_at dX1_addTo 29) rfl rfl ?_
        refine e_ialdv (μ 9 0 m) (dec_at dX1_addTo 30) rfl (by decide) (aLk_9 _) (by omega) (by rw [fr 9 0 m (by omega)]) (fun r52 => ?_)
        refine e_imul (dec_at dX1_addTo 31) ?_
        refine e_iload (dec_at dX1_addTo 32) rfl ?_
        refine e_iadd (dec_at dX1_addTo 33) ?_
        refine e_dup2 (dec_at dX1_addTo 34) rfl rfl ?_
        refine e_ialdv (μ 12 l (3 * μ 9 0 m + 0)) (dec_at dX1_addTo 35) rfl (by decide) (aLk_12 _) (by omega) (by exact (hi (μ 9 0 m) 0 hb.1 hb.2 (by decide) (by decide)).2 hnm) (fun r58 => ?_)
        refine e_aload_n 0 (dec_at dX1_addTo 36) rfl rfl ?_
        refine e_getr 2 (dec_at dX1_addTo 37) flX1_18 rfl rfl ?_
        refine e_iconst (dec_at dX1_addTo 38) ?_
        refine e_iload_n 3 (dec_at dX1_addTo 39) rfl rfl ?_
        refine e_imul (dec_at dX1_addTo 40) ?_
        refine e_iload (dec_at dX1_addTo 41) rfl ?_
        refine e_iadd (dec_at dX1_addTo 42) ?_
        refine e_ialdv (μ 10 0 (3 * m + 0)) (dec_at dX1_addTo 43) rfl (by decide) (aLk_10 _) (by omega) (by rw [fr 10 0 _ (by omega)]) (fun r69 => ?_)
        refine e_iadd (dec_at dX1_addTo 44) ?_
        refine e_iast (dec_at dX1_addTo 45) rfl (by decide) (aLk_12 _) (by omega) (by omega) ?_
        refine e_ii4 (dec_at dX1_addTo 46) (by decide) rfl ?_
        refine e_goto 36 (dec_at dX1_addTo 47) (by decide) ?_
        refine e_iload (dec_at dX1_addTo 21) rfl ?_
        refine e_iconst (dec_at dX1_addTo 22) ?_
        refine e_icmp_ge 78 (dec_at dX1_addTo 23) (by decide) (by decide) (by decide) (fun h => absurd h (by decide)) (fun _ => ?_)
        refine e_aload_n 1 (dec_at dX1_addTo 24) rfl rfl ?_
        refine e_getr 3 (dec_at dX1_addTo 25) flX1_42 rfl rfl ?_
        refine e_iconst (dec_at dX1_addTo 26) ?_
        refine e_aload_n 0 (dec_at dX1_addTo 27) rfl rfl ?_
        refine e_getr 1 (dec_at dX1_addTo 28) flX1_15 rfl rfl ?_
        refine e_iload_n 3 (dec_at dX1_addTo 29) rfl rfl ?_
        refine e_ialdv (μ 9 0 m) (dec_at dX1_addTo 30) rfl (by decide) (aLk_9 _) (by omega) (by rw [mset_k (by decide), fr 9 0 m (by omega)]) (fun r52 => ?_)
        refine e_imul (dec_at dX1_addTo 31) ?_
        refine e_iload (dec_at dX1_addTo 32) rfl ?_
        refine e_iadd (dec_at dX1_addTo 33) ?_
        refine e_dup2 (dec_at dX1_addTo 34) rfl rfl ?_
        refine e_ialdv (μ 12 l (3 * μ 9 0 m + (0 + 1))) (dec_at dX1_addTo 35) rfl (by decide) (aLk_12 _) (by omega) (by rw [mset_i (by omega)]; exact (hi (μ 9 0 m) (0 + 1) hb.1 hb.2 (by decide) (by decide)).2 hnm) (fun r58 => ?_)
        refine e_aload_n 0 (dec_at dX1_addTo 36) rfl rfl ?_
        refine e_getr 2 (dec_at dX1_addTo 37) flX1_18 rfl rfl ?_
        refine e_iconst (dec_at dX1_addTo 38) ?_
        refine e_iload_n 3 (dec_at dX1_addTo 39) rfl rfl ?_
        refine e_imul (dec_at dX1_addTo 40) ?_
        refine e_iload (dec_at dX1_addTo 41) rfl ?_
        refine e_iadd (dec_at dX1_addTo 42) ?_
        refine e_ialdv (μ 10 0 (3 * m + (0 + 1))) (dec_at dX1_addTo 43) rfl (by decide) (aLk_10 _) (by omega) (by rw [mset_k (by decide), fr 10 0 _ (by omega)]) (fun r69 => ?_)
        refine e_iadd (dec_at dX1_addTo 44) ?_
        refine e_iast (dec_at dX1_addTo 45) rfl (by decide) (aLk_12 _) (by omega) (by omega) ?_
        refine e_ii4 (dec_at dX1_addTo 46) (by decide) rfl ?_
        refine e_goto 36 (dec_at dX1_addTo 47) (by decide) ?_
        refine e_iload (dec_at dX1_addTo 21) rfl ?_
        refine e_iconst (dec_at dX1_addTo 22) ?_
        refine e_icmp_ge 78 (dec_at dX1_addTo 23) (by decide) (by decide) (by decide) (fun h => absurd h (by decide)) (fun _ => ?_)
        refine e_aload_n 1 (dec_at dX1_addTo 24) rfl rfl ?_
        refine e_getr 3 (dec_at dX1_addTo 25) flX1_42 rfl rfl ?_
        refine e_iconst (dec_at dX1_addTo 26) ?_
        refine e_aload_n 0 (dec_at dX1_addTo 27) rfl rfl ?_
        refine e_getr 1 (dec_at dX1_addTo 28) flX1_15 rfl rfl ?_
        refine e_iload_n 3 (dec_at dX1_addTo 29) rfl rfl ?_
        refine e_ialdv (μ 9 0 m) (dec_at dX1_addTo 30) rfl (by decide) (aLk_9 _) (by omega) (by rw [mset_k (by decide), mset_k (by decide), fr 9 0 m (by omega)]) (fun r52 => ?_)
        refine e_imul (dec_at dX1_addTo 31) ?_
        refine e_iload (dec_at dX1_addTo 32) rfl ?_
        refine e_iadd (dec_at dX1_addTo 33) ?_
        refine e_dup2 (dec_at dX1_addTo 34) rfl rfl ?_
        refine e_ialdv (μ 12 l (3 * μ 9 0 m + (0 + 1 + 1))) (dec_at dX1_addTo 35) rfl (by decide) (aLk_12 _) (by omega) (by rw [mset_i (by omega), mset_i (by omega)]; exact (hi (μ 9 0 m) (0 + 1 + 1) hb.1 hb.2 (by decide) (by decide)).2 hnm) (fun r58 => ?_)
        refine e_aload_n 0 (dec_at dX1_addTo 36) rfl rfl ?_
        refine e_getr 2 (dec_at dX1_addTo 37) flX1_18 rfl rfl ?_
        refine e_iconst (dec_at dX1_addTo 38) ?_
        refine e_iload_n 3 (dec_at dX1_addTo 39) rfl rfl ?_
        refine e_imul (dec_at dX1_addTo 40) ?_
        refine e_iload (dec_at dX1_addTo 41) rfl ?_
        refine e_iadd (dec_at dX1_addTo 42) ?_
        refine e_ialdv (μ 10 0 (3 * m + (0 + 1 + 1))) (dec_at dX1_addTo 43) rfl (by decide) (aLk_10 _) (by omega) (by rw [mset_k (by decide), mset_k (by decide), fr 10 0 _ (by omega)]) (fun r69 => ?_)
        refine e_iadd (dec_at dX1_addTo 44) ?_
        refine e_iast (dec_at dX1_addTo 45) rfl (by decide) (aLk_12 _) (by omega) (by omega) ?_
        refine e_ii4 (dec_at dX1_addTo 46) (by decide) rfl ?_
        refine e_goto 36 (dec_at dX1_addTo 47) (by decide) ?_
        refine e_iload (dec_at dX1_addTo 21) rfl ?_
        refine e_iconst (dec_at dX1_addTo 22) ?_
        refine e_icmp_ge 78 (dec_at dX1_addTo 23) (by decide) (by decide) (by decide) (fun _ => ?_) (fun h => absurd h (by decide))
        refine e_ii3 (dec_at dX1_addTo 48) (by decide) rfl ?_
        refine e_goto 2 (dec_at dX1_addTo 49) (by decide) ?_
        refine e_le [some (vR 7 0), some (vR 11 l), some (vI l), some (vI (m + 1)), none] (by simp [leL]) (ih _ (by omega) (m + 1) _ rfl (by omega) (by omega) (fr_set (fr_set (fr_set fr ⟨rfl, rfl⟩) ⟨rfl, rfl⟩) ⟨rfl, rfl⟩) (fun c a c0 c1 a0 a1 => ?_))
        have z := hi c a c0 c1 a0 a1
        by_cases q : c = μ 9 0 m
        · subst q
          refine ⟨fun i i0 i1 e1 e2 => ?_, fun hno => absurd ⟨by omega, rfl⟩ (hno m h0 (by omega))⟩
          obtain rfl : i = m := HM.uq h (L := l) (c := μ 9 0 m) ⟨by omega, e1, e2⟩ ⟨by omega, by omega, rfl⟩
          rcases (show a = 0 ∨ a = 1 ∨ a = 2 by omega) with rfl | rfl | rfl
          · rw [mset_i (by omega), mset_i (by omega)]
            exact mset_eq
          · rw [mset_i (by omega)]
            exact mset_eq
          · exact mset_eq
        · rw [mset_i (by omega), mset_i (by omega), mset_i (by omega)]
          refine ⟨fun i i0 i1 e1 e2 => ?_, fun hno => z.2 (fun i i0 i1 => hno i i0 (by omega))⟩
          by_cases w : i = m
          · subst w; exact absurd e2.symm q
          · exact z.1 i i0 (by omega) e1 e2

set_option maxRecDepth 100000 in
set_option maxHeartbeats 4000000 in
theorem c_addTo {μ : Mm} (l : Int) (h : Mv μ) (hC : 0 ≤ μ 11 l 0 ∧ μ 11 l 0 ≤ capC l) (hl : inR l) (hs : ∀ i, 0 ≤ i → i < 3 * μ 11 l 0 → -100000000 ≤ μ 12 l i ∧ μ 12 l i ≤ 100000000) : Mc mX1_addTo 1 [vR 7 0, vR 11 l, vI l] μ (fun r μ' => r = none ∧ (∀ k l1 i, ¬ (k = 12 ∧ l1 = l) → μ' k l1 i = μ k l1 i) ∧ ∀ c a, 0 ≤ c → c < μ 11 l 0 → 0 ≤ a → a < 3 → μ' 12 l (3 * c + a) = μ 12 l (3 * c + a) + mvx μ l c a) := by
  refine Mc.of (L := [some (vR 7 0), some (vR 11 l), some (vI l), none, none]) (by decide +kernel) (by simp [leL, entA, isLong, mX1_addTo]) (by simp [entA, isLong, mX1_addTo]) ?_
  have hm := h.1
  refine e_iconst (dec_at dX1_addTo 0) ?_
  refine e_is3 (dec_at dX1_addTo 1) (by decide) rfl ?_
  exact l_addTo h hC hl hs _ 0 μ rfl (by omega) (by omega) (fun _ _ _ _ => rfl) (fun c a _ _ _ _ => ⟨fun i i0 i1 => by omega, fun _ => rfl⟩)
end
section
section AGR
variable {A B D : Net}
theorem Agr.n (h : Agr A B) (hP : 0 ≤ A 0 1) : nN A = nN B := h.1.n hP
theorem Agr.nxe (h : Agr A B) (g : GP A) {s : Int} (h0 : 0 ≤ s) (h1 : s < nN A) : nx B s = nx A s := by
  have a := g.2.2.2 s h0 h1
  show nxF (B 2) (B 4) s = nxF (A 2) (A 4) s
  unfold nxF
  rw [← (h.2.2.1 s h0 h1).1, ← h.1.2.2.1 (A 4 s) a.1.1 (by omega), ← h.1.2.2.1 (A 4 s + 1) (by omega) (by omega)]
theorem Agr.pve (h : Agr A B) (g : GP A) {s : Int} (h0 : 0 ≤ s) (h1 : s < nN A) : pv B s = pv A s := by
  have a := g.2.2.2 s h0 h1
  show pvF (B 2) (B 4) s = pvF (A 2) (A 4) s
  unfold pvF
  rw [← (h.2.2.1 s h0 h1).1, ← h.1.2.2.1 (A 4 s) a.1.1 (by omega), ← h.1.2.2.1 (A 4 s + 1) (by omega) (by omega)]
theorem Agr.rhe (h : Agr A B) (g : GC A) {s : Int} (h0 : 0 ≤ s) (h1 : s < nN A) : rho B s = rho A s := by
  have a := g.2.1.pvr h0 h1
  show B 5 (pv B s) = A 5 (pv A s)
  rw [h.pve g.2.1 h0 h1, (h.2.2.1 _ a.1.1 a.1.2).2.1]
theorem Agr.ite (h : Agr A B) (g : GC A) {s : Int} (h0 : 0 ≤ s) (h1 : s < nN A) (k : Nat) : it (rho B) k s = it (rho A) k s := by
  induction k with
  | zero => rfl
  | succ k ih =>
    have a := g.itr h0 h1 k
    show rho B _ = rho A _
    rw [ih, h.rhe g a.1.1 a.1.2]
theorem Agr.good (h : Agr A B) (g : Good A) : Good B := by
  have gp := g.1.2.1
  have hn := h.n gp.1
  have e4 := fun s h0 h1 => (h.2.2.1 s h0 h1).1
  have e5 := fun s h0 h1 => (h.2.2.1 s h0 h1).2.1
  have e6 := fun s h0 h1 => (h.2.2.1 s h0 h1).2.2
  have e3 := h.1.2.2.2
  have gpb : GP B := by
    refine ⟨by rw [← h.1.2.1]; exact gp.1, by rw [← h.1.2.2.1 0 (by omega) gp.1]; exact gp.2.1, fun f h0 h1 => ?_, fun s h0 h1 => ?_⟩
    · rw [← h.1.2.1] at h1
      rw [← h.1.2.2.1 f h0 (by omega), ← h.1.2.2.1 (f + 1) (by omega) (by omega)]
      exact gp.2.2.1 f h0 h1
    · rw [← hn] at h1
      have a := gp.2.2.2 s h0 h1
      rw [← e4 s h0 h1, ← h.1.2.1, ← h.1.2.2.1 (A 4 s) a.1.1 (by omega), ← h.1.2.2.1 (A 4 s + 1) (by omega) (by omega)]
      exact a
  have gbb : GB B := by
    refine ⟨fun s h0 h1 => ?_, fun s t h0 h1 g0 g1 q1 q2 => ?_, fun s h0 h1 => ?_⟩
    · rw [← hn] at h1 ⊢
      have a := g.1.b1 h0 h1
      have b := gp.nxr h0 h1
      rw [h.nxe gp h0 h1, ← h.1.1, ← e3 s h0 h1, ← e5 s h0 h1, ← e5 _ a.2.1.1 a.2.1.2, ← e3 _ a.2.1.1 a.2.1.2, ← e3 _ b.1.1 b.1.2]
      exact a
    · rw [← hn] at h1 g1
      have b := gp.nxr h0 h1
      have c := gp.nxr g0 g1
      rw [← e3 s h0 h1, ← e3 t g0 g1] at q1
      rw [h.nxe gp h0 h1, h.nxe gp g0 g1, ← e3 _ b.1.1 b.1.2, ← e3 _ c.1.1 c.1.2] at q2
      exact g.1.u h0 h1 g0 g1 q1 q2
    · rw [← hn] at h1
      have b := gp.nxr h0 h1
      rw [h.nxe gp h0 h1, ← e3 s h0 h1, ← e3 _ b.1.1 b.1.2]
      exact g.1.nl h0 h1
  have dg : ∀ c, deg A c = deg B c := h.1.dge gp.1
  have gcb : GC B := by
    refine ⟨by rw [← h.1.1]; exact g.1.1, gpb, gbb, fun c h0 h1 => ?_⟩
    rw [← h.1.1] at h1
    obtain ⟨d3, x, hx, hc, hr⟩ := g.1.2.2.2 c h0 h1
    rw [← dg c, ← hn]
    refine ⟨d3, x, hx, by rw [← e3 x hx.1 hx.2]; exact hc, fun k k0 k1 => ?_⟩
    rw [h.ite g.1 hx.1 hx.2]
    exact hr k k0 k1
  refine ⟨gcb, ⟨?_, fun s h0 h1 => ?_, fun s h0 h1 hs => ?_⟩, fun c h0 h1 => ?_⟩
  · rw [← h.2.1, g.2.1.1, ← hn]; exact cE_cg e5 (by omega)
  · rw [← hn] at h1
    have a := g.1.b1 h0 h1
    rw [← e6 s h0 h1, ← e5 s h0 h1, g.2.1.2.1 s h0 h1, cE_cg e5 (s := A 5 s) (by omega), cE_cg e5 (s := s) (by omega)]
  · rw [← hn] at h1
    have hs2 : fm (A 5) s := by unfold fm at hs ⊢; rw [e5 s h0 h1]; exact hs
    have a := g.2.1.2.2 s h0 h1 hs2
    have b := cE_lt h0 h1 hs2
    rw [← g.2.1.1] at b
    rw [← cE_cg e5 (s := s) (by omega), ← h.2.2.2.1 _ (cE_0 _ _) b]
    exact a
  · rw [← h.1.1] at h1
    have a := g.2.2 c h0 h1
    have b := h.2.2.2.2 c h0 h1
    rw [← b.1, ← b.2, ← dg c, ← hn, ← e3 _ a.2.1.1 a.2.1.2]
    refine ⟨a.1, a.2.1, a.2.2.1, fun s s0 s1 sc => ?_⟩
    rw [← e3 s s0 s1] at sc
    rw [← e6 _ a.2.1.1 a.2.1.2, ← e6 s s0 s1]
    exact a.2.2.2 s s0 s1 sc
theorem Agr.tr (h : Agr A B) (k : Agr B D) (hP : 0 ≤ A 0 1) : Agr A D := by
  have hn := h.n hP
  refine ⟨⟨h.1.1.trans k.1.1, h.1.2.1.trans k.1.2.1, fun f a b => (h.1.2.2.1 f a b).trans (k.1.2.2.1 f a (by rw [← h.1.2.1]; exact b)), fun s a b => (h.1.2.2.2 s a b).trans (k.1.2.2.2 s a (by rw [← hn]; exact b))⟩, h.2.1.trans k.2.1, fun s a b => ?_, fun e a b => (h.2.2.2.1 e a b).trans (k.2.2.2.1 e a (by rw [← h.2.1]; exact b)), fun c a b => ?_⟩
  · have x := h.2.2.1 s a b
    have y := k.2.2.1 s a (by rw [← hn]; exact b)
    exact ⟨x.1.trans y.1, x.2.1.trans y.2.1, x.2.2.trans y.2.2⟩
  · have x := h.2.2.2.2 c a b
    have y := k.2.2.2.2 c a (by rw [← h.1.1]; exact b)
    exact ⟨x.1.trans y.1, x.2.trans y.2⟩
theorem Agr.ste (h : Agr A B) (g : GC A) (c : Int) : st A c = st B c := by
  have hn := h.n g.2.1.1
  unfold st
  rw [← hn, ct_cg (q := fun s => B 3 s < c) (nN A).toNat (fun i a b => by rw [h.1.2.2.2 i a (by omega)])]
/-- the next levels of nets that agree, agree -/
theorem Agr.rfe (h : Agr A B) (g : Good A) : Agr (rfA A) (rfA B) := by
  have gb := h.good g
  have hn := h.n g.1.2.1.1
  refine Good.uniq ⟨h.2.1, ?_, fun f a b => ?_, fun s a b => ?_⟩ (rf_good g) (rf_good gb)
  · show A 0 1 + A 0 0 = B 0 1 + B 0 0
    rw [h.1.1, h.1.2.1]
  · show (if f < A 0 1 then A 2 f else st A (f - A 0 1)) = (if f < B 0 1 then B 2 f else st B (f - B 0 1))
    rw [← h.1.2.1, h.ste g.1]
    by_cases q : f < A 0 1
    · rw [if_pos q, if_pos q]; exact h.1.2.2.1 f a (by omega)
    · rw [if_neg q, if_neg q]
  · rw [rf_n g.1] at b
    by_cases q : s < nN A
    · rw [rf_3l q, rf_3l (by omega)]; exact (h.2.2.1 s a q).2.2
    · rw [rf_3h (by omega), rf_3h (by omega)]
      obtain ⟨c, k, hc, hk, hs, hu⟩ := un_ex g (s := s) (by omega) b
      have d := g.door hc.1 hc.2
      have u2 := un_at gb (c := c) hc.1 (by rw [← h.1.1]; exact hc.2) (k := k) (by rw [← h.1.dge g.1.2.1.1]; exact hk)
      have e : un B s = un A s := by
        rw [hu, hs, h.ste g.1, u2.2.2, ← (h.2.2.2.2 c hc.1 hc.2).2, h.ite g.1 d.1.1 d.1.2]
      have r := un_r g (s := s) (by omega) b
      rw [e]; exact (h.2.2.1 _ r.1.1 r.1.2).2.2
theorem Good.half (g : Good A) : 2 * A 0 2 ≤ nN A := by
  rw [g.2.1.1]
  exact cE_half g.1.2.1.n0 (fun s h0 h1 => ⟨(g.1.b1 h0 h1).2.1, (g.1.b1 h0 h1).2.2.1, g.1.bne h0 h1⟩)
end AGR
/-- the levels fit -/
def Cap (A : Net) (l : Int) : Prop := A 0 0 ≤ capC l ∧ A 0 1 ≤ capP l ∧ nN A ≤ 2 * capE l ∧ A 0 2 ≤ capE l
theorem Cap.step {A : Net} {l : Int} (g : Good A) (h : Cap A l) (hE : capE l ≤ capC (l + 1)) (hP : capP l + capC l ≤ capP (l + 1)) (hn : 2 * capE l ≤ capE (l + 1)) : Cap (rfA A) (l + 1) := by
  have G := rf_good g
  have hh := G.half
  have en := rf_n g.1
  have e0 : rfA A 0 0 = A 0 2 := rfl
  have e1 : rfA A 0 1 = A 0 1 + A 0 0 := rfl
  obtain ⟨a, b, c, d⟩ := h
  refine ⟨by omega, by omega, by omega, by omega⟩
theorem lev_cap {A : Net} (g : Good (bN A)) (h : A 0 0 ≤ 14 ∧ A 0 1 ≤ 14 ∧ nN A ≤ 84) : ∀ l : Nat, l < 4 → Cap (lev A l) l := by
  have c0 : Cap (lev A 0) (0 : Nat) := by
    have hh := g.half
    have e0 : bN A 0 0 = A 0 0 := rfl
    have e1 : bN A 0 1 = A 0 1 := rfl
    have en : nN (bN A) = nN A := rfl
    refine ⟨?_, ?_, ?_, ?_⟩
    · show bN A 0 0 ≤ 14; omega
    · show bN A 0 1 ≤ 14; omega
    · show nN (bN A) ≤ 84; omega
    · show bN A 0 2 ≤ 42; omega
  have c1 : Cap (lev A 1) (1 : Nat) := Cap.step (lev_good g 0) c0 (by decide) (by decide) (by decide)
  have c2 : Cap (lev A 2) (2 : Nat) := Cap.step (lev_good g 1) c1 (by decide) (by decide) (by decide)
  have c3 : Cap (lev A 3) (3 : Nat) := Cap.step (lev_good g 2) c2 (by decide) (by decide) (by decide)
  intro l hl
  match l, hl with
  | 0, _ => exact c0
  | 1, _ => exact c1
  | 2, _ => exact c2
  | 3, _ => exact c3
/-- what a base is, alone -/
def bs (A : Net) : Net := fun j i => match j with
  | 0 => if i = 0 then A 0 0 else if i = 1 then A 0 1 else 0
  | 2 => A 2 i
  | 3 => A 3 i
  | 4 => A 4 i
  | _ => 0
theorem bs_eq {A B : Net} (h0 : A 0 0 = B 0 0) (h1 : A 0 1 = B 0 1) (h2 : A 2 = B 2) (h3 : A 3 = B 3) (h4 : A 4 = B 4) : bs A = bs B := by
  funext j i
  match j with
  | 0 => show (if i = 0 then A 0 0 else if i = 1 then A 0 1 else 0) = (if i = 0 then B 0 0 else if i = 1 then B 0 1 else 0)
         rw [h0, h1]
  | 1 => rfl
  | 2 => show A 2 i = B 2 i
         rw [h2]
  | 3 => show A 3 i = B 3 i
         rw [h3]
  | 4 => show A 4 i = B 4 i
         rw [h4]
  | j + 5 => rfl
theorem bN_bs (A : Net) : bN (bs A) = bN A := rfl
theorem lev_bs (A : Net) : ∀ l, lev (bs A) l = lev A l
  | 0 => rfl
  | l + 1 => by show rfA (lev (bs A) l) = rfA (lev A l); rw [lev_bs A l]
theorem lev_cg {A B : Net} (h : bs A = bs B) : lev A = lev B := by
  funext l
  rw [← lev_bs A, ← lev_bs B, h]
theorem IsF_bs (A : Net) (k p : Int) : IsF (bs A) k p = IsF A k p := rfl
theorem IsF_cg {A B : Net} (h : bs A = bs B) {k p : Int} (f : IsF A k p) : IsF B k p := by
  rw [← IsF_bs] at f ⊢
  rw [← h]; exact f
theorem Bas_bs (A : Net) : Bas (bs A) = Bas A := rfl
end
section
/-- the numbers of the levels' corners -/
def nmF (lv : Nat → Net) (b0 : Int → Int) (mv : Int → Int → Int → Int) : Nat → Int → Int → Int
  | 0, c, a => b0 (3 * c + a)
  | l + 1, e, a => nmF lv b0 mv l (lv l 3 (lv l 7 e)) a + nmF lv b0 mv l (lv l 3 (nx (lv l) (lv l 7 e))) a + mv ((l : Int) + 1) e a
noncomputable def nm (μ : Mm) : Nat → Int → Int → Int := nmF (lev (Nt μ 0)) (μ 12 0) (mvx μ)
def XN (μ : Mm) : Prop := ∀ i, 0 ≤ i → i < 3 * μ 11 0 0 → -1000 ≤ μ 12 0 i ∧ μ 12 0 i ≤ 1000
def bnd : Nat → Int
  | 0 => 1000
  | l + 1 => 2 * bnd l + 1000
theorem nm_in {μ : Mm} (hN : XN μ) (hM : Mv μ) (g : Good (bN (Nt μ 0))) : ∀ (l : Nat) (c a : Int), 0 ≤ c → c < lev (Nt μ 0) l 0 0 → 0 ≤ a → a < 3 → -bnd l ≤ nm μ l c a ∧ nm μ l c a ≤ bnd l
  | 0, c, a, h0, h1, a0, a1 => by
    have h1 : c < μ 11 0 0 := h1
    exact hN (3 * c + a) (by omega) (by omega)
  | l + 1, e, a, h0, h1, a0, a1 => by
    have G := lev_good g l
    have h1 : e < lev (Nt μ 0) l 0 2 := h1
    have m := G.mt h0 h1
    have b := (G.1.b1 m.1.1 m.1.2).1
    have x := G.1.2.1.nxr m.1.1 m.1.2
    have y := (G.1.b1 x.1.1 x.1.2).1
    have i1 := nm_in hN hM g l _ a b.1 b.2 a0 a1
    have i2 := nm_in hN hM g l _ a y.1 y.2 a0 a1
    have v := mvx_in hM (L := (l : Int) + 1) (c := e) a0 a1
    show -(2 * bnd l + 1000) ≤ nm μ l _ a + nm μ l _ a + mvx μ ((l : Int) + 1) e a ∧ nm μ l _ a + nm μ l _ a + mvx μ ((l : Int) + 1) e a ≤ 2 * bnd l + 1000
    omega
theorem bnd_le : ∀ l : Nat, l < 4 → bnd l ≤ 15000 := by decide
/-- what the class remembers is right -/
def XC (μ : Mm) : Prop := (μ 3 0 4 = 0 ∧ μ 3 0 5 = 0 ∧ μ 3 0 6 = 0) ∨ (μ 3 0 4 = 1 ∧ IsF (Nt μ 0) (μ 5 0 1) (μ 5 0 2) ∧ (0 ≤ μ 3 0 6 ∧ μ 3 0 6 ≤ μ 3 0 5 ∧ μ 3 0 5 ≤ 3) ∧ (μ 5 0 1 ≠ 0 → μ 3 0 5 = 0) ∧ (μ 5 0 1 = 0 → (∀ l : Nat, (l : Int) ≤ μ 3 0 5 → Agr (lev (Nt μ 0) l) (Nt μ l)) ∧ (∀ l : Nat, (l : Int) ≤ μ 3 0 6 → ∀ c a, 0 ≤ c → c < μ 11 l 0 → 0 ≤ a → a < 3 → μ 12 l (3 * c + a) = nm μ l c a)))
/-- the same base, the same moves -/
def SB (μ ν : Mm) : Prop := ∀ (k : Nat) (l i : Int), (k = 7 ∨ k = 8 ∨ k = 9 ∨ k = 10 ∨ (l = 0 ∧ 11 ≤ k ∧ k ≤ 15 ∧ ¬ (k = 11 ∧ i = 2))) → ν k l i = μ k l i
section SBS
variable {μ ν : Mm}
theorem SB.bse (h : SB μ ν) : bs (Nt ν 0) = bs (Nt μ 0) :=
  bs_eq (h 11 0 0 (by omega)) (h 11 0 1 (by omega)) (funext (fun i => h 13 0 i (by omega))) (funext (fun i => h 14 0 i (by omega))) (funext (fun i => h 15 0 i (by omega)))
theorem SB.mve (h : SB μ ν) : mvx ν = mvx μ := by
  have e7 : ν 7 0 3 = μ 7 0 3 := h 7 0 3 (by omega)
  have e8 : ν 8 0 = μ 8 0 := funext (fun i => h 8 0 i (by omega))
  have e9 : ν 9 0 = μ 9 0 := funext (fun i => h 9 0 i (by omega))
  have e10 : ν 10 0 = μ 10 0 := funext (fun i => h 10 0 i (by omega))
  have eh : HM ν = HM μ := by
    funext L c i
    unfold HM
    rw [e7, e8, e9]
  funext L c a
  unfold mvx
  rw [eh, e10]
theorem SB.nme (h : SB μ ν) : nm ν = nm μ := by
  unfold nm
  rw [lev_cg h.bse, h.mve, show ν 12 0 = μ 12 0 from funext (fun i => h 12 0 i (by omega))]
theorem SB.leve (h : SB μ ν) : lev (Nt ν 0) = lev (Nt μ 0) := lev_cg h.bse
theorem SB.xb (h : SB μ ν) (g : XB μ) : XB ν := g.tr (fun k i a b c => h k 0 i (by omega))
theorem SB.xn (h : SB μ ν) (g : XN μ) : XN ν := by
  unfold XN at g ⊢
  rw [h 11 0 0 (by omega), show ν 12 0 = μ 12 0 from funext (fun i => h 12 0 i (by omega))]
  exact g
theorem SB.mv (h : SB μ ν) (g : Mv μ) : Mv ν := by
  have e7 : ν 7 0 3 = μ 7 0 3 := h 7 0 3 (by omega)
  have e8 : ν 8 0 = μ 8 0 := funext (fun i => h 8 0 i (by omega))
  have e9 : ν 9 0 = μ 9 0 := funext (fun i => h 9 0 i (by omega))
  have e10 : ν 10 0 = μ 10 0 := funext (fun i => h 10 0 i (by omega))
  unfold Mv ky at g ⊢
  rw [e7, e8, e9, e10]
  exact g
theorem SB.tr {ρ : Mm} (h : SB μ ν) (k : SB ν ρ) : SB μ ρ := fun a b c d => (k a b c d).trans (h a b c d)
theorem SB.isf (h : SB μ ν) {a b : Int} (g : IsF (Nt μ 0) a b) : IsF (Nt ν 0) a b := IsF_cg h.bse.symm g
end SBS
theorem cap_next {l : Int} (h0 : 0 ≤ l) (h1 : l < 3) : capE l ≤ capC (l + 1) ∧ capP l + capC l ≤ capP (l + 1) ∧ 2 * capE l ≤ capE (l + 1) := by
  rcases (show l = 0 ∨ l = 1 ∨ l = 2 by omega) with rfl | rfl | rfl <;> decide

set_option maxRecDepth 100000 in
set_option maxHeartbeats 4000000 in
theorem c_findFault {μ : Mm} (h : XB μ) (hx : XC μ) : Mc mX4_findFault 4 [vR 3 0] μ (fun r μ' => r = some (vI (μ' 5 0 1)) ∧ (∀ k l1 i, ¬ (k = 3 ∧ i = 4 ∨ k = 5 ∨ k = 6 ∨ (l1 = 0 ∧ (16 ≤ k ∧ k ≤ 20 ∨ k = 11 ∧ i = 2))) → μ' k l1 i = μ k l1 i) ∧ XC μ' ∧ μ' 3 0 4 = 1 ∧ inR (μ' 5 0 1)) := by
  refine Mc.of (L := [some (vR 3 0)]) (by decide +kernel) (by simp [leL, entA, isLong, mX4_findFault]) (by simp [entA, isLong, mX4_findFault]) ?_
  refine e_aload_n 0 (dec_at dX4_findFault 0) rfl rfl ?_
  refine e_geti 4 4 (dec_at dX4_findFault 1) flX4_38 rfl rfl rfl (fun r1 => ?_)
  refine e_if_ne 23 (dec_at dX4_findFault 2) (by decide) (by omega) (fun h4 => ?_) (fun h4 => ?_)
  · obtain hz | hz := hx
    · exact absurd hz.1 h4
    refine e_aload_n 0 (dec_at dX4_findFault 11) rfl rfl ?_
    refine e_getr 2 (dec_at dX4_findFault 12) flX4_27 rfl rfl ?_
    refine e_geti 1 1 (dec_at dX4_findFault 13) flX4_59 rfl rfl rfl (fun r27 => ?_)
    refine e_ireturn (dec_at dX4_findFault 14) rfl ?_
    exact ⟨rfl, fun _ _ _ _ => rfl, Or.inr hz, hz.1, r27⟩
  · have hz := hx.resolve_right (fun q => by omega)
    refine e_aload_n 0 (dec_at dX4_findFault 3) rfl rfl ?_
    refine e_getr 2 (dec_at dX4_findFault 4) flX4_27 rfl rfl ?_
    refine e_aload_n 0 (dec_at dX4_findFault 5) rfl rfl ?_
    refine e_getr 1 (dec_at dX4_findFault 6) flX4_20 rfl rfl ?_
    refine e_callV (M' := mX0_look) (dec_at dX4_findFault 7) mlX4_55 (c_look (μ := μ) h) oX0_look iX0_look rfl rfl rfl rfl (by decide) (by decide) (Nat.le_of_ble_eq_true rfl) (fun r ν hQ => ?_)
    obtain ⟨rfl, fr, hF, hA⟩ := hQ
    show Ev mX4_findFault 4 18 _ [] ν _
    refine e_aload_n 0 (dec_at dX4_findFault 8) rfl rfl ?_
    refine e_iconst (dec_at dX4_findFault 9) ?_
    refine e_put 4 4 (dec_at dX4_findFault 10) flX4_38 fpX4_4 rfl rfl rfl (by omega) (fit_bool (by first | exact Or.inl rfl | exact Or.inr rfl)) ?_
    refine e_aload_n 0 (dec_at dX4_findFault 11) rfl rfl ?_
    refine e_getr 2 (dec_at dX4_findFault 12) flX4_27 rfl rfl ?_
    refine e_geti 1 1 (dec_at dX4_findFault 13) flX4_59 rfl rfl rfl (fun r27 => ?_)
    refine e_ireturn (dec_at dX4_findFault 14) rfl ?_
    have hSB : SB μ (mset ν 3 0 4 1) := fun k l i z => by rw [mset_k (by omega)]; exact fr k l i (by omega)
    have hNl : Nt (mset ν 3 0 4 1) 0 = Nt ν 0 := Nt_eq (fun k i z => mset_k (by omega))
    refine ⟨rfl, fun k l1 i z => ?_, Or.inr ⟨mset_eq, ?_, ?_, ?_, fun z => ⟨fun l hl => ?_, fun l hl c a c0 c1 a0 a1 => ?_⟩⟩, mset_eq, r27⟩
    · rw [mset_ne (by omega)]; exact fr k l1 i (by omega)
    · rw [mset_k (by decide), mset_k (by decide)]; exact hSB.isf hF
    · rw [mset_i (by decide), mset_i (by decide), fr 3 0 6 (by omega), fr 3 0 5 (by omega)]; omega
    · rw [mset_i (by decide), fr 3 0 5 (by omega)]; exact fun _ => hz.2.1
    · rw [mset_i (by decide), fr 3 0 5 (by omega)] at hl
      obtain rfl : l = 0 := by omega
      rw [mset_k (by decide)] at z
      rw [hSB.leve]
      show Agr (bN (Nt μ 0)) (Nt (mset ν 3 0 4 1) 0)
      rw [hNl]
      exact hA z
    · rw [mset_i (by decide), fr 3 0 6 (by omega)] at hl
      obtain rfl : l = 0 := by omega
      rfl

set_option maxRecDepth 100000 in
set_option maxHeartbeats 4000000 in
theorem c_forgetShapes {μ : Mm} : Mc mX4_forgetShapes 0 [vR 3 0] μ (Rt none (mset (mset (mset μ 3 0 4 0) 3 0 5 0) 3 0 6 0)) := by
  refine Mc.of (L := [some (vR 3 0)]) (by decide +kernel) (by simp [leL, entA, isLong, mX4_forgetShapes]) (by simp [entA, isLong, mX4_forgetShapes]) ?_
  refine e_aload_n 0 (dec_at dX4_forgetShapes 0) rfl rfl ?_
  refine e_iconst (dec_at dX4_forgetShapes 1) ?_
  refine e_put 4 4 (dec_at dX4_forgetShapes 2) flX4_38 fpX4_4 rfl rfl rfl (by omega) (fit_bool (by first | exact Or.inl rfl | exact Or.inr rfl)) ?_
  refine e_aload_n 0 (dec_at dX4_forgetShapes 3) rfl rfl ?_
  refine e_iconst (dec_at dX4_forgetShapes 4) ?_
  refine e_put 5 5 (dec_at dX4_forgetShapes 5) flX4_42 fpX4_5 rfl rfl rfl (by omega) (fit_int _) ?_
  refine e_aload_n 0 (dec_at dX4_forgetShapes 6) rfl rfl ?_
  refine e_iconst (dec_at dX4_forgetShapes 7) ?_
  refine e_put 6 6 (dec_at dX4_forgetShapes 8) flX4_46 fpX4_6 rfl rfl rfl (by omega) (fit_int _) ?_
  refine e_return (dec_at dX4_forgetShapes 9) rfl ?_
  exact ⟨rfl, rfl⟩

set_option maxRecDepth 100000 in
set_option maxHeartbeats 4000000 in
theorem c_forgetNumbers {μ : Mm} (l : Int) (hl : inR l) : Mc mX4_forgetNumbersAbove 1 [vR 3 0, vI l] μ (Rt none (mset μ 3 0 6 (min (μ 3 0 6) l))) := by
  refine Mc.of (L := [some (vR 3 0), some (vI l)]) (by decide +kernel) (by simp [leL, entA, isLong, mX4_forgetNumbersAbove]) (by simp [entA, isLong, mX4_forgetNumbersAbove]) ?_
  refine e_aload_n 0 (dec_at dX4_forgetNumbersAbove 0) rfl rfl ?_
  refine e_aload_n 0 (dec_at dX4_forgetNumbersAbove 1) rfl rfl ?_
  refine e_geti 6 6 (dec_at dX4_forgetNumbersAbove 2) flX4_46 rfl rfl rfl (fun r2 => ?_)
  refine e_iload_n 1 (dec_at dX4_forgetNumbersAbove 3) rfl rfl ?_
  refine e_min (dec_at dX4_forgetNumbersAbove 4) mjX4_49 mj_min (by decide) (Nat.le_of_ble_eq_true rfl) (by omega) (by omega) ?_
  refine e_put 6 6 (dec_at dX4_forgetNumbersAbove 5) flX4_46 fpX4_6 rfl rfl rfl (by omega) (fit_int _) ?_
  refine e_return (dec_at dX4_forgetNumbersAbove 6) rfl ?_
  exact ⟨rfl, rfl⟩

set_option maxRecDepth 100000 in
set_option maxHeartbeats 4000000 in
theorem l_reach2 {μ : Mm} {v : Int} (h : XB μ) (hN : XN μ) (hM : Mv μ) (hv : 0 ≤ v ∧ v < 4) : ∀ (q : Nat) (ν : Mm), (v - ν 3 0 6).toNat = q → (∀ k l1 i, ¬ (k = 3 ∨ k = 5 ∨ k = 6 ∨ (11 ≤ k ∧ k ≤ 20 ∧ ¬ (l1 = 0 ∧ k ≤ 15 ∧ ¬ (k = 11 ∧ i = 2)))) → ν k l1 i = μ k l1 i) → XC ν → ν 3 0 4 = 1 → ν 5 0 1 = 0 → v ≤ ν 3 0 5 → Ev mX4_reach 5 53 [some (vR 3 0), some (vI v)] [] ν (fun r μ' => (∀ k l1 i, ¬ (k = 3 ∨ k = 5 ∨ k = 6 ∨ (11 ≤ k ∧ k ≤ 20 ∧ ¬ (l1 = 0 ∧ k ≤ 15 ∧ ¬ (k = 11 ∧ i = 2)))) → μ' k l1 i = μ k l1 i) ∧ XC μ' ∧ μ' 3 0 4 = 1 ∧ ((μ' 5 0 1 ≠ 0 ∧ r = some vN) ∨ (μ' 5 0 1 = 0 ∧ r = some (vR 11 v) ∧ v ≤ μ' 3 0 6))) := by
  intro q
  induction q using Nat.strongRecOn with
  | _ q ih =>
  intro ν hq fr hx h4 h5 h3
  have hSB : SB μ ν := fun k l i z => fr k l i (by omega)
  have hxr := hx.resolve_left (fun q => by omega)
  have hXb := hSB.xb h
  have hgd := (IsF.good hXb.1 (p := ν 5 0 2) (by have z := hxr.2.1; rw [h5] at z; exact z)).1
  have hA := (hxr.2.2.2.2 h5).1
  have hNm := (hxr.2.2.2.2 h5).2
  have hr := hxr.2.2.1
  have hXN := hSB.xn hN
  have hXM := hSB.mv hM
  refine e_aload_n 0 (dec_at dX4_reach 29) rfl rfl ?_
  refine e_geti 6 6 (dec_at dX4_reach 30) flX4_46 rfl rfl rfl (fun r54 => ?_)
  refine e_iload_n 1 (dec_at dX4_reach 31) rfl rfl ?_
  refine e_icmp_ge 121 (dec_at dX4_reach 32) (by decide) (by omega) (by omega) (fun h58 => ?_) (fun h58 => ?_)
  · refine e_aload_n 0 (dec_at dX4_reach 67) rfl rfl ?_
    refine e_getr 0 (dec_at dX4_reach 68) flX4_11 rfl rfl ?_
    refine e_iload_n 1 (dec_at dX4_reach 69) rfl rfl ?_
    refine e_aald (dec_at dX4_reach 70) (by omega) ?_
    refine e_areturn (dec_at dX4_reach 71) rfl ?_
    exact ⟨fr, hx, h4, Or.inr ⟨h5, rfl, by omega⟩⟩
  · obtain ⟨j, hj⟩ : ∃ j : Nat, ν 3 0 6 = (j : Int) := ⟨(ν 3 0 6).toNat, by omega⟩
    have gA := lev_good hgd j
    have aA := hA j (by omega)
    have gB := aA.good gA
    have cp := lev_cap hgd hXb.2 j (by omega)
    have cn := cap_next (l := (j : Int)) (by omega) (by omega)
    have q0 : lev (Nt ν 0) j 0 0 = ν 11 (j : Int) 0 := aA.1.1
    have q1 : lev (Nt ν 0) j 0 1 = ν 11 (j : Int) 1 := aA.1.2.1
    have q2 : lev (Nt ν 0) j 0 2 = ν 11 (j : Int) 2 := aA.2.1
    have qn : nN (lev (Nt ν 0) j) = ν 13 (j : Int) (ν 11 (j : Int) 1) := aA.n gA.1.2.1.1
    obtain ⟨cp1, cp2, cp3, cp4⟩ := cp
    rw [q0] at cp1
    rw [q1] at cp2
    rw [qn] at cp3
    rw [q2] at cp4
    have nbs : NB1 ν (ν 3 0 6) ∧ NB2 ν (ν 3 0 6) := by rw [hj]; exact gB.nb cp1 cp2 cp3 cp4
    have hbl := bnd_le j (by omega)
    have hbd : ∀ i, 0 ≤ i → i < 3 * ν 11 (ν 3 0 6) 0 → -100000000 ≤ ν 12 (ν 3 0 6) i ∧ ν 12 (ν 3 0 6) i ≤ 100000000 := by
      rw [hj]
      intro i i0 i1
      have z := hNm j (by omega) (i / 3) (i % 3) (by omega) (by omega) (by omega) (by omega)
      rw [show 3 * (i / 3) + i % 3 = i by omega] at z
      have w := nm_in hXN hXM hgd j (i / 3) (i % 3) (by omega) (by rw [q0]; omega) (by omega) (by omega)
      omega
    have aA1 := hA (j + 1) (by omega)
    have eC1 : ν 11 ((j : Int) + 1) 0 = ν 11 (j : Int) 2 := by
      have z : lev (Nt ν 0) (j + 1) 0 0 = ν 11 ((j + 1 : Nat) : Int) 0 := aA1.1.1
      have w : lev (Nt ν 0) (j + 1) 0 0 = lev (Nt ν 0) j 0 2 := rfl
      rw [← q2, ← w, z]
      rfl
    have hE0 := nbs.2.1
    rw [hj] at hE0
    have hC1 : 0 ≤ ν 11 ((j : Int) + 1) 0 ∧ ν 11 ((j : Int) + 1) 0 ≤ capC ((j : Int) + 1) := by rw [eC1]; omega
    refine e_aload_n 0 (dec_at dX4_reach 33) rfl rfl ?_
    refine e_getr 0 (dec_at dX4_reach 34) flX4_11 rfl rfl ?_
    refine e_aload_n 0 (dec_at dX4_reach 35) rfl rfl ?_
    refine e_geti 6 6 (dec_at dX4_reach 36) flX4_46 rfl rfl rfl (fun r66 => ?_)
    refine e_iconst (dec_at dX4_reach 37) ?_
    refine e_iadd (dec_at dX4_reach 38) ?_
    refine e_aald (dec_at dX4_reach 39) (by omega) ?_
    refine e_aload_n 0 (dec_at dX4_reach 40) rfl rfl ?_
    refine e_getr 0 (dec_at dX4_reach 41) flX4_11 rfl rfl ?_
    refine e_aload_n 0 (dec_at dX4_reach 42) rfl rfl ?_
    refine e_geti 6 6 (dec_at dX4_reach 43) flX4_46 rfl rfl rfl (fun r77 => ?_)
    refine e_aald (dec_at dX4_reach 44) (by omega) ?_
    refine e_callV (M' := mX2_sumFrom) (dec_at dX4_reach 45) mlX4_69 (c_sumFrom (μ := ν) (ν 3 0 6) nbs.1 nbs.2 (by rw [hj]; omega) hbd) oX2_sumFrom iX2_sumFrom rfl rfl rfl rfl (by decide) (by decide) (Nat.le_of_ble_eq_true rfl) (fun r ν1 hQ => ?_)
    obtain ⟨rfl, f1, f2⟩ := hQ
    have e36 : ν1 3 0 6 = ν 3 0 6 := f1 3 0 6 (by omega)
    show Ev mX4_reach 5 84 _ [] ν1 _
    have hSB1 : SB ν ν1 := fun k l i z => f1 k l i (by omega)
    have hM1 : Mv ν1 := hSB1.mv hXM
    have hs1 : ∀ i, 0 ≤ i → i < 3 * ν1 11 (ν 3 0 6 + 1) 0 → -100000000 ≤ ν1 12 (ν 3 0 6 + 1) i ∧ ν1 12 (ν 3 0 6 + 1) i ≤ 100000000 := by
      intro i i0 i1
      rw [f1 11 _ 0 (by omega), hj, eC1] at i1
      rw [hj] at f2 ⊢
      have z := f2 (i / 3) (by omega) (by omega) (i % 3) (by omega) (by omega)
      rw [show 3 * (i / 3) + i % 3 = i by omega] at z
      rw [hj] at hbd nbs
      have e0 := nbs.2.2 (i / 3) (by omega) (by omega)
      have e1 := nbs.1.2.2.2.2 _ e0.1 e0.2
      have e2 := nbs.1.nx e0.1 e0.2
      have e3 := nbs.1.2.2.2.2 _ e2.1 e2.2
      have y1 := hNm j (by omega) (ν 14 (j : Int) (ν 18 (j : Int) (i / 3))) (i % 3) e1.1.1 e1.1.2 (by omega) (by omega)
      have y2 := hNm j (by omega) (ν 14 (j : Int) (nxF (ν 13 (j : Int)) (ν 15 (j : Int)) (ν 18 (j : Int) (i / 3)))) (i % 3) e3.1.1 e3.1.2 (by omega) (by omega)
      have w1 := nm_in hXN hXM hgd j _ (i % 3) e1.1.1 (by rw [q0]; exact e1.1.2) (by omega) (by omega)
      have w2 := nm_in hXN hXM hgd j _ (i % 3) e3.1.1 (by rw [q0]; exact e3.1.2) (by omega) (by omega)
      omega
    refine e_aload_n 0 (dec_at dX4_reach 46) rfl rfl ?_
    refine e_getr 3 (dec_at dX4_reach 47) flX4_34 rfl rfl ?_
    refine e_aload_n 0 (dec_at dX4_reach 48) rfl rfl ?_
    refine e_getr 0 (dec_at dX4_reach 49) flX4_11 rfl rfl ?_
    refine e_aload_n 0 (dec_at dX4_reach 50) rfl rfl ?_
    refine e_getiv 6 6 (ν 3 0 6) (dec_at dX4_reach 51) flX4_46 rfl rfl rfl (by exact e36) (fun r93 => ?_)
    refine e_iconst (dec_at dX4_reach 52) ?_
    refine e_iadd (dec_at dX4_reach 53) ?_
    refine e_aald (dec_at dX4_reach 54) (by omega) ?_
    refine e_aload_n 0 (dec_at dX4_reach 55) rfl rfl ?_
    refine e_getiv 6 6 (ν 3 0 6) (dec_at dX4_reach 56) flX4_46 rfl rfl rfl (by exact e36) (fun r100 => ?_)
    refine e_iconst (dec_at dX4_reach 57) ?_
    refine e_iadd (dec_at dX4_reach 58) ?_
    refine e_callV (M' := mX1_addTo) (dec_at dX4_reach 59) mlX4_72 (c_addTo (μ := ν1) (ν 3 0 6 + 1) hM1 (by rw [f1 11 _ 0 (by omega), hj]; exact hC1) (by omega) hs1) oX1_addTo iX1_addTo rfl rfl rfl rfl (by decide) (by decide) (Nat.le_of_ble_eq_true rfl) (fun r ν2 hQ => ?_)
    obtain ⟨rfl, g1, g2⟩ := hQ
    have e36b : ν2 3 0 6 = ν 3 0 6 := (g1 3 0 6 (by omega)).trans e36
    show Ev mX4_reach 5 108 _ [] ν2 _
    refine e_aload_n 0 (dec_at dX4_reach 60) rfl rfl ?_
    refine e_dup (dec_at dX4_reach 61) rfl ?_
    refine e_getiv 6 6 (ν 3 0 6) (dec_at dX4_reach 62) flX4_46 rfl rfl rfl (by exact e36b) (fun r110 => ?_)
    refine e_iconst (dec_at dX4_reach 63) ?_
    refine e_iadd (dec_at dX4_reach 64) ?_
    refine e_put 6 6 (dec_at dX4_reach 65) flX4_46 fpX4_6 rfl rfl rfl (by omega) (fit_int _) ?_
    refine e_goto 53 (dec_at dX4_reach 66) (by decide) ?_
    have hSB2 : SB ν (mset ν2 3 0 6 (ν 3 0 6 + 1)) := fun k l i z => by rw [mset_k (by omega), g1 k l i (by omega), f1 k l i (by omega)]
    have G : ∀ (k : Nat) (l i : Int), ¬ (k = 12 ∧ l = ν 3 0 6 + 1) → k ≠ 3 → mset ν2 3 0 6 (ν 3 0 6 + 1) k l i = ν k l i := fun k l i z w => by rw [mset_k w, g1 k l i z, f1 k l i z]
    have G3 : ∀ (i : Int), i ≠ 6 → mset ν2 3 0 6 (ν 3 0 6 + 1) 3 0 i = ν 3 0 i := fun i w => by rw [mset_i w, g1 3 0 i (by omega), f1 3 0 i (by omega)]
    refine ih _ (by rw [mset_eq]; omega) _ rfl (fun k l1 i z => ?_) (Or.inr ⟨by rw [G3 4 (by decide)]; exact h4, ?_, ?_, ?_, fun z => ⟨fun l hl => ?_, fun l hl c a c0 c1 a0 a1 => ?_⟩⟩) (by rw [G3 4 (by decide)]; exact h4) (by rw [G 5 0 1 (by omega) (by decide)]; exact h5) (by rw [G3 5 (by decide)]; exact h3)
    · rw [mset_k (by omega), g1 k l1 i (by omega), f1 k l1 i (by omega)]; exact fr k l1 i z
    · rw [G 5 0 1 (by omega) (by decide), G 5 0 2 (by omega) (by decide)]; exact hSB2.isf hxr.2.1
    · rw [mset_eq, G3 5 (by decide)]; omega
    · rw [G 5 0 1 (by omega) (by decide)]; exact fun z => absurd h5 z
    · rw [G3 5 (by decide)] at hl
      have e : Agr (Nt ν l) (Nt (mset ν2 3 0 6 (ν 3 0 6 + 1)) l) := by
        refine ⟨⟨(G 11 l 0 (by omega) (by decide)).symm, (G 11 l 1 (by omega) (by decide)).symm, fun f _ _ => (G 13 l f (by omega) (by decide)).symm, fun s _ _ => (G 14 l s (by omega) (by decide)).symm⟩, (G 11 l 2 (by omega) (by decide)).symm, fun s _ _ => ⟨(G 15 l s (by omega) (by decide)).symm, (G 16 l s (by omega) (by decide)).symm, (G 17 l s (by omega) (by decide)).symm⟩, fun e _ _ => (G 18 l e (by omega) (by decide)).symm, fun c _ _ => ⟨(G 19 l c (by omega) (by decide)).symm, (G 20 l c (by omega) (by decide)).symm⟩⟩
      rw [hSB2.leve]
      exact (hA l hl).tr e (lev_good hgd l).1.2.1.1
    · rw [mset_eq] at hl
      rw [G 11 l 0 (by omega) (by decide)] at c1
      rw [hSB2.nme]
      by_cases q : l = j + 1
      · subst q
        have c1 : c < ν 11 ((j : Int) + 1) 0 := c1
        rw [eC1] at c1
        have x1 : mset ν2 3 0 6 (ν 3 0 6 + 1) 12 ((j + 1 : Nat) : Int) (3 * c + a) = ν2 12 (ν 3 0 6 + 1) (3 * c + a) := by rw [mset_k (by decide), hj]; rfl
        have x2 := g2 c a c0 (by rw [f1 11 _ 0 (by omega), hj, eC1]; exact c1) a0 a1
        have x3 := f2 c c0 (by rw [hj]; exact c1) a a0 a1
        rw [x1, x2, x3, hSB1.mve, hj]
        rw [hj] at nbs
        have e0 := nbs.2.2 c c0 c1
        have e1 := nbs.1.2.2.2.2 _ e0.1 e0.2
        have e2 := nbs.1.nx e0.1 e0.2
        have e3 := nbs.1.2.2.2.2 _ e2.1 e2.2
        rw [hNm j (by omega) _ a e1.1.1 e1.1.2 a0 a1, hNm j (by omega) _ a e3.1.1 e3.1.2 a0 a1]
        show _ = nm ν j (lev (Nt ν 0) j 3 (lev (Nt ν 0) j 7 c)) a + nm ν j (lev (Nt ν 0) j 3 (nx (lev (Nt ν 0) j) (lev (Nt ν 0) j 7 c))) a + mvx ν ((j : Int) + 1) c a
        have m := gA.mt c0 (by rw [q2]; exact c1)
        have y := gA.1.2.1.nxr m.1.1 m.1.2
        have z1 : lev (Nt ν 0) j 7 c = ν 18 (j : Int) c := aA.2.2.2.1 c c0 (by rw [q2]; exact c1)
        have z2 : lev (Nt ν 0) j 3 (lev (Nt ν 0) j 7 c) = ν 14 (j : Int) (lev (Nt ν 0) j 7 c) := aA.1.2.2.2 _ m.1.1 m.1.2
        have z3 : lev (Nt ν 0) j 3 (nx (lev (Nt ν 0) j) (lev (Nt ν 0) j 7 c)) = ν 14 (j : Int) (nx (lev (Nt ν 0) j) (lev (Nt ν 0) j 7 c)) := aA.1.2.2.2 _ y.1.1 y.1.2
        have z4 : nx (Nt ν j) (lev (Nt ν 0) j 7 c) = nx (lev (Nt ν 0) j) (lev (Nt ν 0) j 7 c) := aA.nxe gA.1.2.1 m.1.1 m.1.2
        have z5 : nx (Nt ν j) (ν 18 (j : Int) c) = nxF (ν 13 (j : Int)) (ν 15 (j : Int)) (ν 18 (j : Int) c) := rfl
        rw [z2, z3, ← z4, z1, z5]
      · rw [G 12 l _ (by omega) (by decide)]
        exact hNm l (by omega) c a c0 c1 a0 a1

set_option maxRecDepth 100000 in
set_option maxHeartbeats 4000000 in
theorem l_reach1 {μ : Mm} {v : Int} (h : XB μ) (hN : XN μ) (hM : Mv μ) (hv : 0 ≤ v ∧ v < 4) : ∀ (q : Nat) (ν : Mm), (v - ν 3 0 5).toNat = q → (∀ k l1 i, ¬ (k = 3 ∨ k = 5 ∨ k = 6 ∨ (11 ≤ k ∧ k ≤ 20 ∧ ¬ (l1 = 0 ∧ k ≤ 15 ∧ ¬ (k = 11 ∧ i = 2)))) → ν k l1 i = μ k l1 i) → XC ν → ν 3 0 4 = 1 → ν 5 0 1 = 0 → Ev mX4_reach 5 9 [some (vR 3 0), some (vI v)] [] ν (fun r μ' => (∀ k l1 i, ¬ (k = 3 ∨ k = 5 ∨ k = 6 ∨ (11 ≤ k ∧ k ≤ 20 ∧ ¬ (l1 = 0 ∧ k ≤ 15 ∧ ¬ (k = 11 ∧ i = 2)))) → μ' k l1 i = μ k l1 i) ∧ XC μ' ∧ μ' 3 0 4 = 1 ∧ ((μ' 5 0 1 ≠ 0 ∧ r = some vN) ∨ (μ' 5 0 1 = 0 ∧ r = some (vR 11 v) ∧ v ≤ μ' 3 0 6))) := by
  intro q
  induction q using Nat.strongRecOn with
  | _ q ih =>
  intro ν hq fr hx h4 h5
  have hSB : SB μ ν := fun k l i z => fr k l i (by omega)
  have hxr := hx.resolve_left (fun q => by omega)
  have hXb := hSB.xb h
  have hgd := (IsF.good hXb.1 (p := ν 5 0 2) (by have z := hxr.2.1; rw [h5] at z; exact z)).1
  have hA := (hxr.2.2.2.2 h5).1
  have hNm := (hxr.2.2.2.2 h5).2
  have hr := hxr.2.2.1
  have hXN := hSB.xn hN
  have hXM := hSB.mv hM
  refine e_aload_n 0 (dec_at dX4_reach 5) rfl rfl ?_
  refine e_geti 5 5 (dec_at dX4_reach 6) flX4_42 rfl rfl rfl (fun r10 => ?_)
  refine e_iload_n 1 (dec_at dX4_reach 7) rfl rfl ?_
  refine e_icmp_ge 53 (dec_at dX4_reach 8) (by decide) (by omega) (by omega) (fun h14 => ?_) (fun h14 => ?_)
  · exact l_reach2 h hN hM hv _ ν rfl fr hx h4 h5 (by omega)
  · obtain ⟨j, hj⟩ : ∃ j : Nat, ν 3 0 5 = (j : Int) := ⟨(ν 3 0 5).toNat, by omega⟩
    have gA := lev_good hgd j
    have aA := hA j (by omega)
    have gB := aA.good gA
    have cp := lev_cap hgd hXb.2 j (by omega)
    have cn := cap_next (l := (j : Int)) (by omega) (by omega)
    have q0 : lev (Nt ν 0) j 0 0 = ν 11 (j : Int) 0 := aA.1.1
    have q1 : lev (Nt ν 0) j 0 1 = ν 11 (j : Int) 1 := aA.1.2.1
    have q2 : lev (Nt ν 0) j 0 2 = ν 11 (j : Int) 2 := aA.2.1
    have qn : nN (lev (Nt ν 0) j) = ν 13 (j : Int) (ν 11 (j : Int) 1) := aA.n gA.1.2.1.1
    obtain ⟨cp1, cp2, cp3, cp4⟩ := cp
    rw [q0] at cp1
    rw [q1] at cp2
    rw [qn] at cp3
    rw [q2] at cp4
    refine e_aload_n 0 (dec_at dX4_reach 9) rfl rfl ?_
    refine e_getr 0 (dec_at dX4_reach 10) flX4_11 rfl rfl ?_
    refine e_aload_n 0 (dec_at dX4_reach 11) rfl rfl ?_
    refine e_geti 5 5 (dec_at dX4_reach 12) flX4_42 rfl rfl rfl (fun r22 => ?_)
    refine e_iconst (dec_at dX4_reach 13) ?_
    refine e_iadd (dec_at dX4_reach 14) ?_
    refine e_aald (dec_at dX4_reach 15) (by omega) ?_
    refine e_aload_n 0 (dec_at dX4_reach 16) rfl rfl ?_
    refine e_getr 0 (dec_at dX4_reach 17) flX4_11 rfl rfl ?_
    refine e_aload_n 0 (dec_at dX4_reach 18) rfl rfl ?_
    refine e_geti 5 5 (dec_at dX4_reach 19) flX4_42 rfl rfl rfl (fun r33 => ?_)
    refine e_aald (dec_at dX4_reach 20) (by omega) ?_
    refine e_callV (M' := mX2_shapeFrom) (dec_at dX4_reach 21) mlX4_66 (c_shapeFrom (μ := ν) (ν 3 0 5) (by rw [hj]; exact gB) (by rw [hj]; exact cp1) (by rw [hj]; exact cp2) (by rw [hj]; exact cp3) (by rw [hj]; exact cp4) (by rw [hj]; omega) (by rw [hj]; omega) (by rw [hj]; omega) (by
        rw [hj]
        have hh := (rf_good gB).half
        rw [rf_n gB.1, (rf_good gB).2.1.1, rf_n gB.1] at hh
        have e : nN (Nt ν j) = ν 13 (j : Int) (ν 11 (j : Int) 1) := rfl
        rw [e] at hh
        omega)) oX2_shapeFrom iX2_shapeFrom rfl rfl rfl rfl (by decide) (by decide) (Nat.le_of_ble_eq_true rfl) (fun r ν1 hQ => ?_)
    obtain ⟨rfl, f1, f2⟩ := hQ
    have e35 : ν1 3 0 5 = ν 3 0 5 := f1 3 0 5 (by omega)
    show Ev mX4_reach 5 40 _ [] ν1 _
    refine e_aload_n 0 (dec_at dX4_reach 22) rfl rfl ?_
    refine e_dup (dec_at dX4_reach 23) rfl ?_
    refine e_getiv 5 5 (ν 3 0 5) (dec_at dX4_reach 24) flX4_42 rfl rfl rfl (by exact e35) (fun r42 => ?_)
    refine e_iconst (dec_at dX4_reach 25) ?_
    refine e_iadd (dec_at dX4_reach 26) ?_
    refine e_put 5 5 (dec_at dX4_reach 27) flX4_42 fpX4_5 rfl rfl rfl (by omega) (fit_int _) ?_
    refine e_goto 9 (dec_at dX4_reach 28) (by decide) ?_
    have hSB2 : SB ν (mset ν1 3 0 5 (ν 3 0 5 + 1)) := fun k l i z => by rw [mset_k (by omega), f1 k l i (by omega)]
    have G : ∀ (k : Nat) (l i : Int), ¬ (l = ν 3 0 5 + 1 ∧ 11 ≤ k ∧ k ≤ 20 ∧ k ≠ 12) → k ≠ 3 → mset ν1 3 0 5 (ν 3 0 5 + 1) k l i = ν k l i := fun k l i z w => by rw [mset_k w, f1 k l i z]
    have G3 : ∀ (i : Int), i ≠ 5 → mset ν1 3 0 5 (ν 3 0 5 + 1) 3 0 i = ν 3 0 i := fun i w => by rw [mset_i w, f1 3 0 i (by omega)]
    refine ih _ (by rw [mset_eq]; omega) _ rfl (fun k l1 i z => ?_) (Or.inr ⟨by rw [G3 4 (by decide)]; exact h4, ?_, ?_, ?_, fun z => ⟨fun l hl => ?_, fun l hl c a c0 c1 a0 a1 => ?_⟩⟩) (by rw [G3 4 (by decide)]; exact h4) (by rw [G 5 0 1 (by omega) (by decide)]; exact h5)
    · rw [mset_k (by omega), f1 k l1 i (by omega)]; exact fr k l1 i z
    · rw [G 5 0 1 (by omega) (by decide), G 5 0 2 (by omega) (by decide)]; exact hSB2.isf hxr.2.1
    · rw [mset_eq, G3 6 (by decide)]; omega
    · rw [G 5 0 1 (by omega) (by decide)]; exact fun z => absurd h5 z
    · rw [mset_eq] at hl
      rw [hSB2.leve]
      by_cases q : l = j + 1
      · subst q
        have e : Nt (mset ν1 3 0 5 (ν 3 0 5 + 1)) ((j + 1 : Nat) : Int) = Nt ν1 (ν 3 0 5 + 1) := by
          rw [hj]
          exact Nt_eq (fun k i z => mset_k (by omega))
        rw [e]
        rw [hj] at f2 ⊢
        exact (aA.rfe gA).tr f2 (rf_good gA).1.2.1.1
      · have e : Agr (Nt ν l) (Nt (mset ν1 3 0 5 (ν 3 0 5 + 1)) l) := by
          refine ⟨⟨(G 11 l 0 (by omega) (by decide)).symm, (G 11 l 1 (by omega) (by decide)).symm, fun f _ _ => (G 13 l f (by omega) (by decide)).symm, fun s _ _ => (G 14 l s (by omega) (by decide)).symm⟩, (G 11 l 2 (by omega) (by decide)).symm, fun s _ _ => ⟨(G 15 l s (by omega) (by decide)).symm, (G 16 l s (by omega) (by decide)).symm, (G 17 l s (by omega) (by decide)).symm⟩, fun e _ _ => (G 18 l e (by omega) (by decide)).symm, fun c _ _ => ⟨(G 19 l c (by omega) (by decide)).symm, (G 20 l c (by omega) (by decide)).symm⟩⟩
        exact (hA l (by omega)).tr e (lev_good hgd l).1.2.1.1
    · rw [G3 6 (by decide)] at hl
      rw [G 11 l 0 (by omega) (by decide)] at c1
      rw [hSB2.nme, G 12 l _ (by omega) (by decide)]
      exact hNm l hl c a c0 c1 a0 a1

set_option maxRecDepth 100000 in
set_option maxHeartbeats 4000000 in
theorem c_reach {μ : Mm} (v : Int) (h : XB μ) (hN : XN μ) (hM : Mv μ) (hv : 0 ≤ v ∧ v < 4) (hx : XC μ) : Mc mX4_reach 5 [vR 3 0, vI v] μ (fun r μ' => (∀ k l1 i, ¬ (k = 3 ∨ k = 5 ∨ k = 6 ∨ (11 ≤ k ∧ k ≤ 20 ∧ ¬ (l1 = 0 ∧ k ≤ 15 ∧ ¬ (k = 11 ∧ i = 2)))) → μ' k l1 i = μ k l1 i) ∧ XC μ' ∧ μ' 3 0 4 = 1 ∧ ((μ' 5 0 1 ≠ 0 ∧ r = some vN) ∨ (μ' 5 0 1 = 0 ∧ r = some (vR 11 v) ∧ v ≤ μ' 3 0 6))) := by
  refine Mc.of (L := [some (vR 3 0), some (vI v)]) (by decide +kernel) (by simp [leL, entA, isLong, mX4_reach]) (by simp [entA, isLong, mX4_reach]) ?_
  refine e_aload_n 0 (dec_at dX4_reach 0) rfl rfl ?_
  refine e_callV (M' := mX4_findFault) (dec_at dX4_reach 1) mlX4_62 (c_findFault (μ := μ) h hx) oX4_findFault iX4_findFault rfl rfl rfl rfl (by decide) (by decide) (Nat.le_of_ble_eq_true rfl) (fun r ν hQ => ?_)
  obtain ⟨rfl, fr, hx1, h41, hr5⟩ := hQ
  show Ev mX4_reach 5 4 _ [vI (ν 5 0 1)] ν _
  refine e_if_eq 9 (dec_at dX4_reach 2) (by decide) (by exact hr5) (fun h4 => ?_) (fun h4 => ?_)
  · exact l_reach1 h hN hM hv _ ν rfl (fun k l1 i z => fr k l1 i (by omega)) hx1 h41 h4
  · refine e_null (dec_at dX4_reach 3) ?_
    refine e_areturn (dec_at dX4_reach 4) rfl ?_
    exact ⟨fun k l1 i z => fr k l1 i (by omega), hx1, h41, Or.inl ⟨h4, rfl⟩⟩
end
section
/-! WHAT IS ANSWERED, by the base, the moves and the fault -/
noncomputable abbrev Lv (μ : Mm) (l : Int) : Net := lev (Nt μ 0) l.toNat
noncomputable abbrev Wn (μ : Mm) (l c a : Int) : Int := nm μ l.toNat c a
def wdA (w : Int → Int → Int) (p q r : Int) : Int := w p 0 * (w q 1 * w r 2 - w q 2 * w r 1) + w p 1 * (w q 2 * w r 0 - w q 0 * w r 2) + w p 2 * (w q 0 * w r 1 - w q 1 * w r 0)
def sqA (w : Int → Int → Int) (x y z c : Int) : Int := (w c 0 - x) * (w c 0 - x) + (w c 1 - y) * (w c 1 - y) + (w c 2 - z) * (w c 2 - z)
noncomputable def manyA (μ : Mm) (l w k : Int) : Int := if ¬ (0 ≤ l ∧ l < 4) then -101 else if ¬ (0 ≤ w ∧ w ≤ 5) then -102 else if k ≠ 0 then -103 else if w = 0 then Lv μ l 0 0 else if w = 1 then Lv μ l 0 2 else if w = 2 then Lv μ l 0 1 else if w = 3 then flo (fun c a => if Lv μ l 8 c = 4 then a else a + 1) 0 (Lv μ l 0 0) 0 else if w = 4 then flo (fun f a => if Lv μ l 2 (f + 1) - Lv μ l 2 f = 4 then a else a + 1) 0 (Lv μ l 0 1) 0 else Lv μ l 0 0 + Lv μ l 0 1 - Lv μ l 0 2
noncomputable def atA (μ : Mm) (l c a k : Int) : Int := if ¬ ((0 ≤ l ∧ l < 4) ∧ (0 ≤ a ∧ a < 3)) then -2000000001 else if k ≠ 0 then -2000000003 else if ¬ (0 ≤ c ∧ c < Lv μ l 0 0) then -2000000001 else Wn μ l c a
noncomputable def edgeA (μ : Mm) (l e s k : Int) : Int := if ¬ (0 ≤ l ∧ l < 4) then -101 else if ¬ (s = 0 ∨ s = 1) then -102 else if k ≠ 0 then -103 else if ¬ (0 ≤ e ∧ e < Lv μ l 0 2) then -101 else if s = 0 then Lv μ l 3 (Lv μ l 7 e) else Lv μ l 3 (nx (Lv μ l) (Lv μ l 7 e))
noncomputable def sizeA (μ : Mm) (l f k : Int) : Int := if ¬ (0 ≤ l ∧ l < 4) then -101 else if k ≠ 0 then -103 else if ¬ (0 ≤ f ∧ f < Lv μ l 0 1) then -101 else Lv μ l 2 (f + 1) - Lv μ l 2 f
noncomputable def ringA (μ : Mm) (l f j k : Int) : Int := if ¬ (0 ≤ l ∧ l < 4) then -101 else if k ≠ 0 then -103 else if ¬ (0 ≤ f ∧ f < Lv μ l 0 1) then -101 else if ¬ (0 ≤ j ∧ j < Lv μ l 2 (f + 1) - Lv μ l 2 f) then -1 else Lv μ l 3 (Lv μ l 2 f + j)
noncomputable def middleA (μ : Mm) (l f a k : Int) : Int := if ¬ ((0 ≤ l ∧ l < 4) ∧ (0 ≤ a ∧ a < 3)) then -2000000001 else if k ≠ 0 then -2000000003 else if ¬ (0 ≤ f ∧ f < Lv μ l 0 1) then -2000000001 else flo (fun s x => x + Wn μ l (Lv μ l 3 s) a) (Lv μ l 2 f) (Lv μ l 2 (f + 1)) 0
noncomputable def boxA (μ : Mm) (l a s k : Int) : Int := if ¬ ((0 ≤ l ∧ l < 4) ∧ (0 ≤ a ∧ a < 3)) then -2000000001 else if ¬ (s = 0 ∨ s = 1) then -2000000002 else if k ≠ 0 then -2000000003 else if s = 0 then flo (fun c x => min x (Wn μ l c a)) 1 (Lv μ l 0 0) (Wn μ l 0 a) else flo (fun c x => max x (Wn μ l c a)) 1 (Lv μ l 0 0) (Wn μ l 0 a)
noncomputable def roomA (μ : Mm) (l k : Int) : Int := if ¬ (0 ≤ l ∧ l < 4) then -101 else if k ≠ 0 then -103 else flo (fun f x => flo (fun s y => y + wdA (Wn μ l) (Lv μ l 3 (Lv μ l 2 f)) (Lv μ l 3 s) (Lv μ l 3 (s + 1))) (Lv μ l 2 f + 1) (Lv μ l 2 (f + 1) - 1) x) 0 (Lv μ l 0 1) 0
noncomputable def cutA (μ : Mm) (l a v k : Int) : Int := if ¬ ((0 ≤ l ∧ l < 4) ∧ (0 ≤ a ∧ a < 3)) then -101 else if k ≠ 0 then -103 else flo (fun e x => if (Wn μ l (Lv μ l 3 (Lv μ l 7 e)) a < v ↔ Wn μ l (Lv μ l 3 (nx (Lv μ l) (Lv μ l 7 e))) a < v) then x else x + 1) 0 (Lv μ l 0 2) 0
noncomputable def nearA (μ : Mm) (l x y z k : Int) : Int := if ¬ (0 ≤ l ∧ l < 4) then -101 else if ¬ ((-100000 ≤ x ∧ x ≤ 100000) ∧ (-100000 ≤ y ∧ y ≤ 100000) ∧ (-100000 ≤ z ∧ z ≤ 100000)) then -102 else if k ≠ 0 then -103 else (flo (fun c q => if sqA (Wn μ l) x y z c < q.2 then (c, sqA (Wn μ l) x y z c) else q) 1 (Lv μ l 0 0) (0, sqA (Wn μ l) x y z 0)).1
noncomputable def digestA (μ : Mm) (k : Int) : Int :=
  let h := 31 * flo (fun m a => 31 * (31 * (31 * (31 * a + μ 9 0 m) + μ 10 0 (3 * m + 0)) + μ 10 0 (3 * m + 1)) + μ 10 0 (3 * m + 2)) 0 (μ 7 0 3) (flo (fun f a => flo (fun s b => 31 * b + μ 14 0 s) (μ 13 0 f) (μ 13 0 (f + 1)) (31 * a + (μ 13 0 (f + 1) - μ 13 0 f))) 0 (μ 11 0 1) (flo (fun i a => 31 * a + μ 12 0 i) 0 (3 * μ 11 0 0) 149)) + k
  if k ≠ 0 then h else flo (fun i a => 31 * a + Wn μ 2 (i / 3) (i % 3)) 0 (3 * Lv μ 2 0 0) h
/-- the class's own state, right -/
def XI (μ : Mm) : Prop := XB μ ∧ XN μ ∧ Mv μ ∧ XC μ
/-- what a query may change of the class -/
def FX (μ ν : Mm) : Prop := ∀ (k : Nat) (l1 i : Int), ¬ (k = 3 ∨ k = 5 ∨ k = 6 ∨ (11 ≤ k ∧ k ≤ 20 ∧ ¬ (l1 = 0 ∧ k ≤ 15 ∧ ¬ (k = 11 ∧ i = 2)))) → ν k l1 i = μ k l1 i
theorem FX.sb {μ ν : Mm} (h : FX μ ν) : SB μ ν := fun k l i z => h k l i (by omega)
theorem FX.rf {μ : Mm} : FX μ μ := fun _ _ _ _ => rfl
theorem XI.go {μ ν : Mm} (h : XI μ) (f : FX μ ν) (hx : XC ν) : XI ν := ⟨f.sb.xb h.1, f.sb.xn h.2.1, f.sb.mv h.2.2.1, hx⟩
/-- a query's end: the answer by whatever the fault is -/
abbrev QQ (μ : Mm) (f : Int → Vv) : Option Vv → Mm → Prop := fun r μ' => FX μ μ' ∧ XI μ' ∧ ∀ k p, IsF (Nt μ 0) k p → r = some (f k)
theorem lev_pos {A : Net} (g : Good (bN A)) (hP : A 0 1 ≠ 0) : ∀ l, 0 < nN (lev A l)
  | 0 => by
    have a := g.1.2.1
    have b := a.mono (f := 0) (g := bN A 0 1) (by omega) a.1 (by omega)
    have c : bN A 0 1 = A 0 1 := rfl
    have d : bN A 2 0 = 0 := a.2.1
    have e : nN (bN A) = bN A 2 (bN A 0 1) := rfl
    have f := a.1
    show 0 < nN (bN A)
    omega
  | l + 1 => by
    have := lev_pos g hP l
    show 0 < nN (rfA (lev A l))
    rw [rf_n (lev_good g l).1]
    omega
theorem Good.c1 {A : Net} (g : Good A) (h : 0 < nN A) : 1 ≤ A 0 0 := by
  have := (g.1.b1 (s := 0) (by omega) h).1
  omega
/-- what is known of a level that is reached -/
theorem XL {μ ν : Mm} {v : Int} (hI : XI μ) (f : FX μ ν) (hx : XC ν) (h4 : ν 3 0 4 = 1) (h5 : ν 5 0 1 = 0) (hv : 0 ≤ v ∧ v < 4) (h6 : v ≤ ν 3 0 6) :
    NB1 ν v ∧ NB2 ν v ∧ NS ν v ∧ 1 ≤ ν 11 v 0 ∧ Good (Lv μ v) ∧ Agr (Lv μ v) (Nt ν v) ∧ (∀ c a, 0 ≤ c → c < ν 11 v 0 → 0 ≤ a → a < 3 → ν 12 v (3 * c + a) = Wn μ v c a) ∧ IsF (Nt μ 0) 0 (ν 5 0 2) := by
  have S := f.sb
  have hxr := hx.resolve_left (fun q => by omega)
  have hF : IsF (Nt ν 0) 0 (ν 5 0 2) := by have z := hxr.2.1; rw [h5] at z; exact z
  have hXb := S.xb hI.1
  have hg := IsF.good hXb.1 hF
  obtain ⟨j, hj⟩ : ∃ j : Nat, v = (j : Int) := ⟨v.toNat, by omega⟩
  have hr := hxr.2.2.1
  have aA := (hxr.2.2.2.2 h5).1 j (by omega)
  have hNm := (hxr.2.2.2.2 h5).2 j (by omega)
  have gA := lev_good hg.1 j
  have gB := aA.good gA
  have cp := lev_cap hg.1 hXb.2 j (by omega)
  have q0 : lev (Nt ν 0) j 0 0 = ν 11 (j : Int) 0 := aA.1.1
  have q1 : lev (Nt ν 0) j 0 1 = ν 11 (j : Int) 1 := aA.1.2.1
  have q2 : lev (Nt ν 0) j 0 2 = ν 11 (j : Int) 2 := aA.2.1
  have qn : nN (lev (Nt ν 0) j) = ν 13 (j : Int) (ν 11 (j : Int) 1) := aA.n gA.1.2.1.1
  obtain ⟨cp1, cp2, cp3, cp4⟩ := cp
  rw [q0] at cp1
  rw [q1] at cp2
  rw [qn] at cp3
  rw [q2] at cp4
  have nb := gB.nb cp1 cp2 cp3 cp4
  have hl : v.toNat = j := by omega
  have e1 : Lv μ v = lev (Nt ν 0) j := by show lev (Nt μ 0) v.toNat = _; rw [hl, S.leve]
  have e2 : ∀ c a, Wn μ v c a = nm ν j c a := fun c a => by show nm μ v.toNat c a = _; rw [hl, S.nme]
  have hb := bnd_le j (by omega)
  have c1 := gA.c1 (lev_pos hg.1 hg.2 j)
  rw [e1]
  subst hj
  refine ⟨nb.1, nb.2, fun i i0 i1 => ?_, by rw [← q0]; exact c1, gA, aA, fun c a c0 c1 a0 a1 => by rw [e2]; exact hNm c a c0 c1 a0 a1, IsF_cg S.bse hF⟩
  have z := hNm (i / 3) (i % 3) (by omega) (by omega) (by omega) (by omega)
  rw [show 3 * (i / 3) + i % 3 = i by omega] at z
  have w := nm_in (S.xn hI.2.1) (S.mv hI.2.2.1) hg.1 j (i / 3) (i % 3) (by omega) (by rw [q0]; omega) (by omega) (by omega)
  omega
theorem Fi_ex {p : Int → Prop} {N : Int} : ∀ (n : Nat) (i : Int), 0 ≤ i → (N - i).toNat = n → (∀ j, 0 ≤ j → j < i → ¬ p j) → No p N ∨ ∃ r, Fi p N r := by
  intro n
  induction n with
  | zero => intro i h0 hn hi; exact Or.inl (fun j a b => hi j a (by omega))
  | succ n ih =>
    intro i h0 hn hi
    by_cases q : p i
    · exact Or.inr ⟨i, ⟨h0, by omega⟩, q, hi⟩
    · refine ih (i + 1) (by omega) (by omega) (fun j a b => ?_)
      by_cases w : j = i
      · subst w; exact q
      · exact hi j a (by omega)
theorem No_or (p : Int → Prop) (N : Int) : No p N ∨ ∃ r, Fi p N r := Fi_ex _ 0 (by omega) rfl (fun j a b => by omega)
theorem IsF_ex (A : Net) : ∃ k p, IsF A k p := by
  by_cases q : A 0 1 = 0
  · exact ⟨1, -1, Or.inl ⟨q, rfl, rfl⟩⟩
  rcases No_or (fTw A) (A 0 1) with n2 | ⟨r, h⟩
  rcases No_or (fDb A) (A 0 1) with n3 | ⟨r, h⟩
  rcases No_or (fOp A) (A 0 1) with n4 | ⟨r, h⟩
  rcases No_or (fLo A) (A 0 0) with n5 | ⟨r, h⟩
  rcases No_or (fPi A) (A 0 0) with n6 | ⟨r, h⟩
  rcases No_or (fTh A) (A 0 0) with n7 | ⟨r, h⟩
  · exact ⟨0, -1, Or.inr ⟨q, Or.inr ⟨n2, Or.inr ⟨n3, Or.inr ⟨n4, Or.inr ⟨n5, Or.inr ⟨n6, Or.inr ⟨n7, rfl, rfl⟩⟩⟩⟩⟩⟩⟩⟩
  · exact ⟨7, r, Or.inr ⟨q, Or.inr ⟨n2, Or.inr ⟨n3, Or.inr ⟨n4, Or.inr ⟨n5, Or.inr ⟨n6, Or.inl ⟨rfl, h⟩⟩⟩⟩⟩⟩⟩⟩
  · exact ⟨6, r, Or.inr ⟨q, Or.inr ⟨n2, Or.inr ⟨n3, Or.inr ⟨n4, Or.inr ⟨n5, Or.inl ⟨rfl, h⟩⟩⟩⟩⟩⟩⟩
  · exact ⟨5, r, Or.inr ⟨q, Or.inr ⟨n2, Or.inr ⟨n3, Or.inr ⟨n4, Or.inl ⟨rfl, h⟩⟩⟩⟩⟩⟩
  · exact ⟨4, r, Or.inr ⟨q, Or.inr ⟨n2, Or.inr ⟨n3, Or.inl ⟨rfl, h⟩⟩⟩⟩⟩
  · exact ⟨3, r, Or.inr ⟨q, Or.inr ⟨n2, Or.inl ⟨rfl, h⟩⟩⟩⟩
  · exact ⟨2, r, Or.inr ⟨q, Or.inl ⟨rfl, h⟩⟩⟩
theorem flo_eq {α : Type} {f g : Int → α → α} {i e i' e' : Int} {a a' : α} (hi : i = i') (he : e = e') (ha : a = a') (h : ∀ j b, i ≤ j → j < e → f j b = g j b) : flo f i e a = flo g i' e' a' := by
  subst hi; subst he; subst ha
  exact flo_cg _ i a rfl h
end
section
set_option maxRecDepth 100000 in
set_option maxHeartbeats 4000000 in
theorem x_at {μ : Mm} (l c a : Int) (h_l : inR l) (h_c : inR c) (h_a : inR a) (hI : XI μ) : Mc mX5_at 6 [vR 0 0, vI l, vI c, vI a] μ (QQ μ (fun k => vI (atA μ l c a k))) := by
  refine Mc.of (L := [some (vR 0 0), some (vI l), some (vI c), some (vI a), none]) (by decide +kernel) (by simp [leL, entA, isLong, mX5_at]) (by simp [entA, isLong, mX5_at]) ?_
  refine e_iload_n 1 (dec_at dX5_at 0) rfl rfl ?_
  refine e_callSr (M' := mX5_isLevel) (dec_at dX5_at 1) mlX5_126 (c_isLevel l h_l) oX5_isLevel sX5_isLevel rfl rfl (by decide) (by decide) (Nat.le_of_ble_eq_true rfl) ?_
  refine e_beq 14 (dec_at dX5_at 2) (by decide) (fun h4 => ?_) (fun h4 => ?_)
  · refine e_ldc (-2000000001) (dec_at dX5_at 6) kcX5_142 (by decide) ?_
    refine e_ireturn (dec_at dX5_at 7) rfl ?_
    refine ⟨FX.rf, hI, fun k p _ => ?_⟩
    refine congrArg (fun z => some (vI z)) ?_
    unfold atA
    refine Eq.trans ?_ (if_pos (by omega)).symm
    rfl
  · refine e_iload_n 3 (dec_at dX5_at 3) rfl rfl ?_
    refine e_callSr (M' := mX5_isAxis) (dec_at dX5_at 4) mlX5_79 (c_isAxis a h_a) oX5_isAxis sX5_isAxis rfl rfl (by decide) (by decide) (Nat.le_of_ble_eq_true rfl) ?_
    refine e_bne 17 (dec_at dX5_at 5) (by decide) (fun h11 => ?_) (fun h11 => ?_)
    · refine e_aload_n 0 (dec_at dX5_at 8) rfl rfl ?_
      refine e_getr 1 (dec_at dX5_at 9) flX5_19 rfl rfl ?_
      refine e_iload_n 1 (dec_at dX5_at 10) rfl rfl ?_
      refine e_callV (M' := mX4_reach) (dec_at dX5_at 11) mlX5_129 (c_reach (μ := μ) l hI.1 hI.2.1 hI.2.2.1 (by omega) hI.2.2.2) oX4_reach iX4_reach rfl rfl rfl rfl (by decide) (by decide) (Nat.le_of_ble_eq_true rfl) (fun r ν hQ => ?_)
      obtain ⟨fr, hx, hq4, hor⟩ := hQ
      have fx : FX μ ν := fr
      rcases hor with ⟨h51, rfl⟩ | ⟨h51, rfl, h6⟩
      · show Ev mX5_at 6 25 _ [vN] ν _
        refine e_as4 (dec_at dX5_at 12) (by decide) rfl ?_
        refine e_aload (dec_at dX5_at 13) rfl ?_
        refine e_ifnonnull 35 (dec_at dX5_at 14) (by decide) (fun h => absurd rfl h) (fun _ => ?_)
        refine e_ldc (-2000000003) (dec_at dX5_at 15) kcX5_143 (by decide) ?_
        refine e_ireturn (dec_at dX5_at 16) rfl ?_
        refine ⟨fx, hI.go fx hx, fun k p hk => ?_⟩
        have hke := (hk.uq (IsF_cg fx.sb.bse (hx.resolve_left (fun q => by omega)).2.1)).1
        have hk0 : k ≠ 0 := by rw [hke]; exact h51
        refine congrArg (fun z => some (vI z)) ?_
        unfold atA
        refine Eq.trans ?_ (if_neg (by omega)).symm
        refine Eq.trans ?_ (if_pos hk0).symm
        rfl
      · show Ev mX5_at 6 25 _ [vR 11 l] ν _
        obtain ⟨nb1, nb2, ns, hc1, gA, aA, hw, hF⟩ := XL hI fx hx hq4 h51 (by omega) h6
        have q0 : Lv μ l 0 0 = ν 11 l 0 := aA.1.1
        have q1 : Lv μ l 0 1 = ν 11 l 1 := aA.1.2.1
        have q2 : Lv μ l 0 2 = ν 11 l 2 := aA.2.1
        have qn : nN (Lv μ l) = ν 13 l (ν 11 l 1) := aA.n gA.1.2.1.1
        have qf : ∀ f, 0 ≤ f → f ≤ ν 11 l 1 → Lv μ l 2 f = ν 13 l f := fun f a b => aA.1.2.2.1 f a (by rw [q1]; exact b)
        have qr : ∀ s, 0 ≤ s → s < ν 13 l (ν 11 l 1) → Lv μ l 3 s = ν 14 l s := fun s a b => aA.1.2.2.2 s a (by rw [qn]; exact b)
        have qm : ∀ e, 0 ≤ e → e < ν 11 l 2 → Lv μ l 7 e = ν 18 l e := fun e a b => aA.2.2.2.1 e a (by rw [q2]; exact b)
        have qx : ∀ s, 0 ≤ s → s < ν 13 l (ν 11 l 1) → nx (Lv μ l) s = nxF (ν 13 l) (ν 15 l) s := fun s a b => (aA.nxe gA.1.2.1 a (by rw [qn]; exact b)).symm
        have hCc := capC_in l
        have hCp := capP_in l
        have hCe := capE_in l
        have hb1 := nb1.1
        have hb2 := nb1.2.1
        have hb3 := nb1.2.2.1
        have hb4 := nb2.1
        refine e_as4 (dec_at dX5_at 12) (by decide) rfl ?_
        refine e_aload (dec_at dX5_at 13) rfl ?_
        refine e_ifnonnull 35 (dec_at dX5_at 14) (by decide) (fun _ => ?_) (fun h => absurd h (by simp))
        refine e_aload (dec_at dX5_at 17) rfl ?_
        refine e_iload_n 2 (dec_at dX5_at 18) rfl rfl ?_
        refine e_callVr (M' := mX2_hasCorner) (dec_at dX5_at 19) mlX5_76 (c_hasCorner (μ := ν) l c h_c) oX2_hasCorner iX2_hasCorner rfl rfl rfl rfl (by decide) (by decide) (Nat.le_of_ble_eq_true rfl) ?_
        refine e_bne 47 (dec_at dX5_at 20) (by decide) (fun h41 => ?_) (fun h41 => ?_)
        · refine e_aload (dec_at dX5_at 23) rfl ?_
          refine e_getr 3 (dec_at dX5_at 24) flX5_86 rfl rfl ?_
          refine e_iconst (dec_at dX5_at 25) ?_
          refine e_iload_n 2 (dec_at dX5_at 26) rfl rfl ?_
          refine e_imul (dec_at dX5_at 27) ?_
          refine e_iload_n 3 (dec_at dX5_at 28) rfl rfl ?_
          refine e_iadd (dec_at dX5_at 29) ?_
          refine e_iald (dec_at dX5_at 30) rfl (by decide) (aLk_12 _) (by omega) (fun r57 => ?_)
          refine e_ireturn (dec_at dX5_at 31) rfl ?_
          refine ⟨fx, hI.go fx hx, fun k p hk => ?_⟩
          have hk0 := (hk.uq hF).1
          refine congrArg (fun z => some (vI z)) ?_
          unfold atA
          refine Eq.trans ?_ (if_neg (by omega)).symm
          refine Eq.trans ?_ (if_neg (fun z => z hk0)).symm
          refine Eq.trans ?_ (if_neg (by omega)).symm
          rw [hw c a (by omega) (by omega) (by omega) (by omega)]
        · refine e_ldc (-2000000001) (dec_at dX5_at 21) kcX5_142 (by decide) ?_
          refine e_ireturn (dec_at dX5_at 22) rfl ?_
          refine ⟨fx, hI.go fx hx, fun k p hk => ?_⟩
          have hk0 := (hk.uq hF).1
          refine congrArg (fun z => some (vI z)) ?_
          unfold atA
          refine Eq.trans ?_ (if_neg (by omega)).symm
          refine Eq.trans ?_ (if_neg (fun z => z hk0)).symm
          refine Eq.trans ?_ (if_pos (by omega)).symm
          rfl
    · refine e_ldc (-2000000001) (dec_at dX5_at 6) kcX5_142 (by decide) ?_
      refine e_ireturn (dec_at dX5_at 7) rfl ?_
      refine ⟨FX.rf, hI, fun k p _ => ?_⟩
      refine congrArg (fun z => some (vI z)) ?_
      unfold atA
      refine Eq.trans ?_ (if_pos (by omega)).symm
      rfl

set_option maxRecDepth 100000 in
set_option maxHeartbeats 4000000 in
theorem x_edge {μ : Mm} (l e s : Int) (h_l : inR l) (h_e : inR e) (h_s : inR s) (hI : XI μ) : Mc mX5_edge 6 [vR 0 0, vI l, vI e, vI s] μ (QQ μ (fun k => vI (edgeA μ l e s k))) := by
  refine Mc.of (L := [some (vR 0 0), some (vI l), some (vI e), some (vI s), none]) (by decide +kernel) (by simp [leL, entA, isLong, mX5_edge]) (by simp [entA, isLong, mX5_edge]) ?_
  refine e_iload_n 1 (dec_at dX5_edge 0) rfl rfl ?_
  refine e_callSr (M' := mX5_isLevel) (dec_at dX5_edge 1) mlX5_126 (c_isLevel l h_l) oX5_isLevel sX5_isLevel rfl rfl (by decide) (by decide) (Nat.le_of_ble_eq_true rfl) ?_
  refine e_bne 10 (dec_at dX5_edge 2) (by decide) (fun h4 => ?_) (fun h4 => ?_)
  · refine e_iload_n 3 (dec_at dX5_edge 5) rfl rfl ?_
    refine e_callSr (M' := mX5_isSide) (dec_at dX5_edge 6) mlX5_144 (c_isSide s h_s) oX5_isSide sX5_isSide rfl rfl (by decide) (by decide) (Nat.le_of_ble_eq_true rfl) ?_
    refine e_bne 20 (dec_at dX5_edge 7) (by decide) (fun h14 => ?_) (fun h14 => ?_)
    · refine e_aload_n 0 (dec_at dX5_edge 10) rfl rfl ?_
      refine e_getr 1 (dec_at dX5_edge 11) flX5_19 rfl rfl ?_
      refine e_iload_n 1 (dec_at dX5_edge 12) rfl rfl ?_
      refine e_callV (M' := mX4_reach) (dec_at dX5_edge 13) mlX5_129 (c_reach (μ := μ) l hI.1 hI.2.1 hI.2.2.1 (by omega) hI.2.2.2) oX4_reach iX4_reach rfl rfl rfl rfl (by decide) (by decide) (Nat.le_of_ble_eq_true rfl) (fun r ν hQ => ?_)
      obtain ⟨fr, hx, hq4, hor⟩ := hQ
      have fx : FX μ ν := fr
      rcases hor with ⟨h51, rfl⟩ | ⟨h51, rfl, h6⟩
      · show Ev mX5_edge 6 28 _ [vN] ν _
        refine e_as4 (dec_at dX5_edge 14) (by decide) rfl ?_
        refine e_aload (dec_at dX5_edge 15) rfl ?_
        refine e_ifnonnull 38 (dec_at dX5_edge 16) (by decide) (fun h => absurd rfl h) (fun _ => ?_)
        refine e_bipush (dec_at dX5_edge 17) (by decide) ?_
        refine e_ireturn (dec_at dX5_edge 18) rfl ?_
        refine ⟨fx, hI.go fx hx, fun k p hk => ?_⟩
        have hke := (hk.uq (IsF_cg fx.sb.bse (hx.resolve_left (fun q => by omega)).2.1)).1
        have hk0 : k ≠ 0 := by rw [hke]; exact h51
        refine congrArg (fun z => some (vI z)) ?_
        unfold edgeA
        refine Eq.trans ?_ (if_neg (by omega)).symm
        refine Eq.trans ?_ (if_neg (by omega)).symm
        refine Eq.trans ?_ (if_pos hk0).symm
        rfl
      · show Ev mX5_edge 6 28 _ [vR 11 l] ν _
        obtain ⟨nb1, nb2, ns, hc1, gA, aA, hw, hF⟩ := XL hI fx hx hq4 h51 (by omega) h6
        have q0 : Lv μ l 0 0 = ν 11 l 0 := aA.1.1
        have q1 : Lv μ l 0 1 = ν 11 l 1 := aA.1.2.1
        have q2 : Lv μ l 0 2 = ν 11 l 2 := aA.2.1
        have qn : nN (Lv μ l) = ν 13 l (ν 11 l 1) := aA.n gA.1.2.1.1
        have qf : ∀ f, 0 ≤ f → f ≤ ν 11 l 1 → Lv μ l 2 f = ν 13 l f := fun f a b => aA.1.2.2.1 f a (by rw [q1]; exact b)
        have qr : ∀ s, 0 ≤ s → s < ν 13 l (ν 11 l 1) → Lv μ l 3 s = ν 14 l s := fun s a b => aA.1.2.2.2 s a (by rw [qn]; exact b)
        have qm : ∀ e, 0 ≤ e → e < ν 11 l 2 → Lv μ l 7 e = ν 18 l e := fun e a b => aA.2.2.2.1 e a (by rw [q2]; exact b)
        have qx : ∀ s, 0 ≤ s → s < ν 13 l (ν 11 l 1) → nx (Lv μ l) s = nxF (ν 13 l) (ν 15 l) s := fun s a b => (aA.nxe gA.1.2.1 a (by rw [qn]; exact b)).symm
        have hCc := capC_in l
        have hCp := capP_in l
        have hCe := capE_in l
        have hb1 := nb1.1
        have hb2 := nb1.2.1
        have hb3 := nb1.2.2.1
        have hb4 := nb2.1
        refine e_as4 (dec_at dX5_edge 14) (by decide) rfl ?_
        refine e_aload (dec_at dX5_edge 15) rfl ?_
        refine e_ifnonnull 38 (dec_at dX5_edge 16) (by decide) (fun _ => ?_) (fun h => absurd h (by simp))
        refine e_iload_n 2 (dec_at dX5_edge 19) rfl rfl ?_
        refine e_if_lt 51 (dec_at dX5_edge 20) (by decide) (by omega) (fun h39 => ?_) (fun h39 => ?_)
        · refine e_bipush (dec_at dX5_edge 25) (by decide) ?_
          refine e_ireturn (dec_at dX5_edge 26) rfl ?_
          refine ⟨fx, hI.go fx hx, fun k p hk => ?_⟩
          have hk0 := (hk.uq hF).1
          refine congrArg (fun z => some (vI z)) ?_
          unfold edgeA
          refine Eq.trans ?_ (if_neg (by omega)).symm
          refine Eq.trans ?_ (if_neg (by omega)).symm
          refine Eq.trans ?_ (if_neg (fun z => z hk0)).symm
          refine Eq.trans ?_ (if_pos (by omega)).symm
          rfl
        · refine e_iload_n 2 (dec_at dX5_edge 21) rfl rfl ?_
          refine e_aload (dec_at dX5_edge 22) rfl ?_
          refine e_geti 2 2 (dec_at dX5_edge 23) flX5_133 rfl rfl rfl (fun r45 => ?_)
          refine e_icmp_lt 54 (dec_at dX5_edge 24) (by decide) (by omega) (by omega) (fun h48 => ?_) (fun h48 => ?_)
          · refine e_iload_n 3 (dec_at dX5_edge 27) rfl rfl ?_
            refine e_if_ne 67 (dec_at dX5_edge 28) (by decide) (by omega) (fun h55 => ?_) (fun h55 => ?_)
            · refine e_aload (dec_at dX5_edge 33) rfl ?_
              refine e_iload_n 2 (dec_at dX5_edge 34) rfl rfl ?_
              refine e_callVr (M' := mX2_whither) (dec_at dX5_edge 35) mlX5_150 (c_whither (μ := ν) l e nb1 nb2 (by omega) (by omega)) oX2_whither iX2_whither rfl rfl rfl rfl (by decide) (by decide) (Nat.le_of_ble_eq_true rfl) ?_
              refine e_ireturn (dec_at dX5_edge 36) rfl ?_
              refine ⟨fx, hI.go fx hx, fun k p hk => ?_⟩
              have hk0 := (hk.uq hF).1
              have he := nb2.2 e (by omega) (by omega)
              have hxx := nb1.nx he.1 he.2
              refine congrArg (fun z => some (vI z)) ?_
              unfold edgeA
              refine Eq.trans ?_ (if_neg (by omega)).symm
              refine Eq.trans ?_ (if_neg (by omega)).symm
              refine Eq.trans ?_ (if_neg (fun z => z hk0)).symm
              refine Eq.trans ?_ (if_neg (by omega)).symm
              by_cases hs0 : s = 0
              · refine Eq.trans ?_ (if_pos hs0).symm
                first | (rw [qm e (by omega) (by omega), qr _ he.1 he.2]; done) | (exfalso; omega)
              · refine Eq.trans ?_ (if_neg hs0).symm
                first | (rw [qm e (by omega) (by omega), qx _ he.1 he.2, qr _ hxx.1 hxx.2]; done) | (exfalso; omega)
            · refine e_aload (dec_at dX5_edge 29) rfl ?_
              refine e_iload_n 2 (dec_at dX5_edge 30) rfl rfl ?_
              refine e_callVr (M' := mX2_whence) (dec_at dX5_edge 31) mlX5_147 (c_whence (μ := ν) l e nb1 nb2 (by omega) (by omega)) oX2_whence iX2_whence rfl rfl rfl rfl (by decide) (by decide) (Nat.le_of_ble_eq_true rfl) ?_
              refine e_goto 73 (dec_at dX5_edge 32) (by decide) ?_
              refine e_ireturn (dec_at dX5_edge 36) rfl ?_
              refine ⟨fx, hI.go fx hx, fun k p hk => ?_⟩
              have hk0 := (hk.uq hF).1
              have he := nb2.2 e (by omega) (by omega)
              have hxx := nb1.nx he.1 he.2
              refine congrArg (fun z => some (vI z)) ?_
              unfold edgeA
              refine Eq.trans ?_ (if_neg (by omega)).symm
              refine Eq.trans ?_ (if_neg (by omega)).symm
              refine Eq.trans ?_ (if_neg (fun z => z hk0)).symm
              refine Eq.trans ?_ (if_neg (by omega)).symm
              by_cases hs0 : s = 0
              · refine Eq.trans ?_ (if_pos hs0).symm
                first | (rw [qm e (by omega) (by omega), qr _ he.1 he.2]; done) | (exfalso; omega)
              · refine Eq.trans ?_ (if_neg hs0).symm
                first | (rw [qm e (by omega) (by omega), qx _ he.1 he.2, qr _ hxx.1 hxx.2]; done) | (exfalso; omega)
          · refine e_bipush (dec_at dX5_edge 25) (by decide) ?_
            refine e_ireturn (dec_at dX5_edge 26) rfl ?_
            refine ⟨fx, hI.go fx hx, fun k p hk => ?_⟩
            have hk0 := (hk.uq hF).1
            refine congrArg (fun z => some (vI z)) ?_
            unfold edgeA
            refine Eq.trans ?_ (if_neg (by omega)).symm
            refine Eq.trans ?_ (if_neg (by omega)).symm
            refine Eq.trans ?_ (if_neg (fun z => z hk0)).symm
            refine Eq.trans ?_ (if_pos (by omega)).symm
            rfl
    · refine e_bipush (dec_at dX5_edge 8) (by decide) ?_
      refine e_ireturn (dec_at dX5_edge 9) rfl ?_
      refine ⟨FX.rf, hI, fun k p _ => ?_⟩
      refine congrArg (fun z => some (vI z)) ?_
      unfold edgeA
      refine Eq.trans ?_ (if_neg (by omega)).symm
      refine Eq.trans ?_ (if_pos (by omega)).symm
      rfl
  · refine e_bipush (dec_at dX5_edge 3) (by decide) ?_
    refine e_ireturn (dec_at dX5_edge 4) rfl ?_
    refine ⟨FX.rf, hI, fun k p _ => ?_⟩
    refine congrArg (fun z => some (vI z)) ?_
    unfold edgeA
    refine Eq.trans ?_ (if_pos (by omega)).symm
    rfl

set_option maxRecDepth 100000 in
set_option maxHeartbeats 4000000 in
theorem x_size {μ : Mm} (l f : Int) (h_l : inR l) (h_f : inR f) (hI : XI μ) : Mc mX5_size 6 [vR 0 0, vI l, vI f] μ (QQ μ (fun k => vI (sizeA μ l f k))) := by
  refine Mc.of (L := [some (vR 0 0), some (vI l), some (vI f), none]) (by decide +kernel) (by simp [leL, entA, isLong, mX5_size]) (by simp [entA, isLong, mX5_size]) ?_
  refine e_iload_n 1 (dec_at dX5_size 0) rfl rfl ?_
  refine e_callSr (M' := mX5_isLevel) (dec_at dX5_size 1) mlX5_126 (c_isLevel l h_l) oX5_isLevel sX5_isLevel rfl rfl (by decide) (by decide) (Nat.le_of_ble_eq_true rfl) ?_
  refine e_bne 10 (dec_at dX5_size 2) (by decide) (fun h4 => ?_) (fun h4 => ?_)
  · refine e_aload_n 0 (dec_at dX5_size 5) rfl rfl ?_
    refine e_getr 1 (dec_at dX5_size 6) flX5_19 rfl rfl ?_
    refine e_iload_n 1 (dec_at dX5_size 7) rfl rfl ?_
    refine e_callV (M' := mX4_reach) (dec_at dX5_size 8) mlX5_129 (c_reach (μ := μ) l hI.1 hI.2.1 hI.2.2.1 (by omega) hI.2.2.2) oX4_reach iX4_reach rfl rfl rfl rfl (by decide) (by decide) (Nat.le_of_ble_eq_true rfl) (fun r ν hQ => ?_)
    obtain ⟨fr, hx, hq4, hor⟩ := hQ
    have fx : FX μ ν := fr
    rcases hor with ⟨h51, rfl⟩ | ⟨h51, rfl, h6⟩
    · show Ev mX5_size 6 18 _ [vN] ν _
      refine e_as3 (dec_at dX5_size 9) (by decide) rfl ?_
      refine e_aload_n 3 (dec_at dX5_size 10) rfl rfl ?_
      refine e_ifnonnull 26 (dec_at dX5_size 11) (by decide) (fun h => absurd rfl h) (fun _ => ?_)
      refine e_bipush (dec_at dX5_size 12) (by decide) ?_
      refine e_ireturn (dec_at dX5_size 13) rfl ?_
      refine ⟨fx, hI.go fx hx, fun k p hk => ?_⟩
      have hke := (hk.uq (IsF_cg fx.sb.bse (hx.resolve_left (fun q => by omega)).2.1)).1
      have hk0 : k ≠ 0 := by rw [hke]; exact h51
      refine congrArg (fun z => some (vI z)) ?_
      unfold sizeA
      refine Eq.trans ?_ (if_neg (by omega)).symm
      refine Eq.trans ?_ (if_pos hk0).symm
      rfl
    · show Ev mX5_size 6 18 _ [vR 11 l] ν _
      obtain ⟨nb1, nb2, ns, hc1, gA, aA, hw, hF⟩ := XL hI fx hx hq4 h51 (by omega) h6
      have q0 : Lv μ l 0 0 = ν 11 l 0 := aA.1.1
      have q1 : Lv μ l 0 1 = ν 11 l 1 := aA.1.2.1
      have q2 : Lv μ l 0 2 = ν 11 l 2 := aA.2.1
      have qn : nN (Lv μ l) = ν 13 l (ν 11 l 1) := aA.n gA.1.2.1.1
      have qf : ∀ f, 0 ≤ f → f ≤ ν 11 l 1 → Lv μ l 2 f = ν 13 l f := fun f a b => aA.1.2.2.1 f a (by rw [q1]; exact b)
      have qr : ∀ s, 0 ≤ s → s < ν 13 l (ν 11 l 1) → Lv μ l 3 s = ν 14 l s := fun s a b => aA.1.2.2.2 s a (by rw [qn]; exact b)
      have qm : ∀ e, 0 ≤ e → e < ν 11 l 2 → Lv μ l 7 e = ν 18 l e := fun e a b => aA.2.2.2.1 e a (by rw [q2]; exact b)
      have qx : ∀ s, 0 ≤ s → s < ν 13 l (ν 11 l 1) → nx (Lv μ l) s = nxF (ν 13 l) (ν 15 l) s := fun s a b => (aA.nxe gA.1.2.1 a (by rw [qn]; exact b)).symm
      have hCc := capC_in l
      have hCp := capP_in l
      have hCe := capE_in l
      have hb1 := nb1.1
      have hb2 := nb1.2.1
      have hb3 := nb1.2.2.1
      have hb4 := nb2.1
      refine e_as3 (dec_at dX5_size 9) (by decide) rfl ?_
      refine e_aload_n 3 (dec_at dX5_size 10) rfl rfl ?_
      refine e_ifnonnull 26 (dec_at dX5_size 11) (by decide) (fun _ => ?_) (fun h => absurd h (by simp))
      refine e_aload_n 3 (dec_at dX5_size 14) rfl rfl ?_
      refine e_iload_n 2 (dec_at dX5_size 15) rfl rfl ?_
      refine e_callVr (M' := mX2_hasPlate) (dec_at dX5_size 16) mlX5_98 (c_hasPlate (μ := ν) l f h_f) oX2_hasPlate iX2_hasPlate rfl rfl rfl rfl (by decide) (by decide) (Nat.le_of_ble_eq_true rfl) ?_
      refine e_bne 37 (dec_at dX5_size 17) (by decide) (fun h31 => ?_) (fun h31 => ?_)
      · refine e_aload_n 3 (dec_at dX5_size 20) rfl rfl ?_
        refine e_iload_n 2 (dec_at dX5_size 21) rfl rfl ?_
        refine e_callVr (M' := mX2_sizeOf) (dec_at dX5_size 22) mlX5_153 (c_sizeOf (μ := ν) l f (by omega)) oX2_sizeOf iX2_sizeOf rfl rfl rfl rfl (by decide) (by decide) (Nat.le_of_ble_eq_true rfl) ?_
        refine e_ireturn (dec_at dX5_size 23) rfl ?_
        refine ⟨fx, hI.go fx hx, fun k p hk => ?_⟩
        have hk0 := (hk.uq hF).1
        refine congrArg (fun z => some (vI z)) ?_
        unfold sizeA
        refine Eq.trans ?_ (if_neg (by omega)).symm
        refine Eq.trans ?_ (if_neg (fun z => z hk0)).symm
        refine Eq.trans ?_ (if_neg (by omega)).symm
        rw [qf f (by omega) (by omega), qf (f + 1) (by omega) (by omega)]
      · refine e_bipush (dec_at dX5_size 18) (by decide) ?_
        refine e_ireturn (dec_at dX5_size 19) rfl ?_
        refine ⟨fx, hI.go fx hx, fun k p hk => ?_⟩
        have hk0 := (hk.uq hF).1
        refine congrArg (fun z => some (vI z)) ?_
        unfold sizeA
        refine Eq.trans ?_ (if_neg (by omega)).symm
        refine Eq.trans ?_ (if_neg (fun z => z hk0)).symm
        refine Eq.trans ?_ (if_pos (by omega)).symm
        rfl
  · refine e_bipush (dec_at dX5_size 3) (by decide) ?_
    refine e_ireturn (dec_at dX5_size 4) rfl ?_
    refine ⟨FX.rf, hI, fun k p _ => ?_⟩
    refine congrArg (fun z => some (vI z)) ?_
    unfold sizeA
    refine Eq.trans ?_ (if_pos (by omega)).symm
    rfl

set_option maxRecDepth 100000 in
set_option maxHeartbeats 4000000 in
theorem x_ring {μ : Mm} (l f j : Int) (h_l : inR l) (h_f : inR f) (h_j : inR j) (hI : XI μ) : Mc mX5_ring 6 [vR 0 0, vI l, vI f, vI j] μ (QQ μ (fun k => vI (ringA μ l f j k))) := by
  refine Mc.of (L := [some (vR 0 0), some (vI l), some (vI f), some (vI j), none]) (by decide +kernel) (by simp [leL, entA, isLong, mX5_ring]) (by simp [entA, isLong, mX5_ring]) ?_
  refine e_iload_n 1 (dec_at dX5_ring 0) rfl rfl ?_
  refine e_callSr (M' := mX5_isLevel) (dec_at dX5_ring 1) mlX5_126 (c_isLevel l h_l) oX5_isLevel sX5_isLevel rfl rfl (by decide) (by decide) (Nat.le_of_ble_eq_true rfl) ?_
  refine e_bne 10 (dec_at dX5_ring 2) (by decide) (fun h4 => ?_) (fun h4 => ?_)
  · refine e_aload_n 0 (dec_at dX5_ring 5) rfl rfl ?_
    refine e_getr 1 (dec_at dX5_ring 6) flX5_19 rfl rfl ?_
    refine e_iload_n 1 (dec_at dX5_ring 7) rfl rfl ?_
    refine e_callV (M' := mX4_reach) (dec_at dX5_ring 8) mlX5_129 (c_reach (μ := μ) l hI.1 hI.2.1 hI.2.2.1 (by omega) hI.2.2.2) oX4_reach iX4_reach rfl rfl rfl rfl (by decide) (by decide) (Nat.le_of_ble_eq_true rfl) (fun r ν hQ => ?_)
    obtain ⟨fr, hx, hq4, hor⟩ := hQ
    have fx : FX μ ν := fr
    rcases hor with ⟨h51, rfl⟩ | ⟨h51, rfl, h6⟩
    · show Ev mX5_ring 6 18 _ [vN] ν _
      refine e_as4 (dec_at dX5_ring 9) (by decide) rfl ?_
      refine e_aload (dec_at dX5_ring 10) rfl ?_
      refine e_ifnonnull 28 (dec_at dX5_ring 11) (by decide) (fun h => absurd rfl h) (fun _ => ?_)
      refine e_bipush (dec_at dX5_ring 12) (by decide) ?_
      refine e_ireturn (dec_at dX5_ring 13) rfl ?_
      refine ⟨fx, hI.go fx hx, fun k p hk => ?_⟩
      have hke := (hk.uq (IsF_cg fx.sb.bse (hx.resolve_left (fun q => by omega)).2.1)).1
      have hk0 : k ≠ 0 := by rw [hke]; exact h51
      refine congrArg (fun z => some (vI z)) ?_
      unfold ringA
      refine Eq.trans ?_ (if_neg (by omega)).symm
      refine Eq.trans ?_ (if_pos hk0).symm
      rfl
    · show Ev mX5_ring 6 18 _ [vR 11 l] ν _
      obtain ⟨nb1, nb2, ns, hc1, gA, aA, hw, hF⟩ := XL hI fx hx hq4 h51 (by omega) h6
      have q0 : Lv μ l 0 0 = ν 11 l 0 := aA.1.1
      have q1 : Lv μ l 0 1 = ν 11 l 1 := aA.1.2.1
      have q2 : Lv μ l 0 2 = ν 11 l 2 := aA.2.1
      have qn : nN (Lv μ l) = ν 13 l (ν 11 l 1) := aA.n gA.1.2.1.1
      have qf : ∀ f, 0 ≤ f → f ≤ ν 11 l 1 → Lv μ l 2 f = ν 13 l f := fun f a b => aA.1.2.2.1 f a (by rw [q1]; exact b)
      have qr : ∀ s, 0 ≤ s → s < ν 13 l (ν 11 l 1) → Lv μ l 3 s = ν 14 l s := fun s a b => aA.1.2.2.2 s a (by rw [qn]; exact b)
      have qm : ∀ e, 0 ≤ e → e < ν 11 l 2 → Lv μ l 7 e = ν 18 l e := fun e a b => aA.2.2.2.1 e a (by rw [q2]; exact b)
      have qx : ∀ s, 0 ≤ s → s < ν 13 l (ν 11 l 1) → nx (Lv μ l) s = nxF (ν 13 l) (ν 15 l) s := fun s a b => (aA.nxe gA.1.2.1 a (by rw [qn]; exact b)).symm
      have hCc := capC_in l
      have hCp := capP_in l
      have hCe := capE_in l
      have hb1 := nb1.1
      have hb2 := nb1.2.1
      have hb3 := nb1.2.2.1
      have hb4 := nb2.1
      refine e_as4 (dec_at dX5_ring 9) (by decide) rfl ?_
      refine e_aload (dec_at dX5_ring 10) rfl ?_
      refine e_ifnonnull 28 (dec_at dX5_ring 11) (by decide) (fun _ => ?_) (fun h => absurd h (by simp))
      refine e_aload (dec_at dX5_ring 14) rfl ?_
      refine e_iload_n 2 (dec_at dX5_ring 15) rfl rfl ?_
      refine e_callVr (M' := mX2_hasPlate) (dec_at dX5_ring 16) mlX5_98 (c_hasPlate (μ := ν) l f h_f) oX2_hasPlate iX2_hasPlate rfl rfl rfl rfl (by decide) (by decide) (Nat.le_of_ble_eq_true rfl) ?_
      refine e_bne 40 (dec_at dX5_ring 17) (by decide) (fun h34 => ?_) (fun h34 => ?_)
      · have hff := nb1.2.2.2.1 f (by omega) (by omega)
        refine e_iload_n 3 (dec_at dX5_ring 20) rfl rfl ?_
        refine e_if_lt 54 (dec_at dX5_ring 21) (by decide) (by omega) (fun h41 => ?_) (fun h41 => ?_)
        · refine e_iconst (dec_at dX5_ring 27) ?_
          refine e_ireturn (dec_at dX5_ring 28) rfl ?_
          refine ⟨fx, hI.go fx hx, fun k p hk => ?_⟩
          have hk0 := (hk.uq hF).1
          refine congrArg (fun z => some (vI z)) ?_
          unfold ringA
          refine Eq.trans ?_ (if_neg (by omega)).symm
          refine Eq.trans ?_ (if_neg (fun z => z hk0)).symm
          refine Eq.trans ?_ (if_neg (by omega)).symm
          rw [qf f (by omega) (by omega), qf (f + 1) (by omega) (by omega)]
          exact (if_pos (by omega)).symm
        · refine e_iload_n 3 (dec_at dX5_ring 22) rfl rfl ?_
          refine e_aload (dec_at dX5_ring 23) rfl ?_
          refine e_iload_n 2 (dec_at dX5_ring 24) rfl rfl ?_
          refine e_callVr (M' := mX2_sizeOf) (dec_at dX5_ring 25) mlX5_153 (c_sizeOf (μ := ν) l f (by omega)) oX2_sizeOf iX2_sizeOf rfl rfl rfl rfl (by decide) (by decide) (Nat.le_of_ble_eq_true rfl) ?_
          refine e_icmp_lt 56 (dec_at dX5_ring 26) (by decide) (by omega) (by omega) (fun h51 => ?_) (fun h51 => ?_)
          · refine e_aload (dec_at dX5_ring 29) rfl ?_
            refine e_getr 5 (dec_at dX5_ring 30) flX5_156 rfl rfl ?_
            refine e_aload (dec_at dX5_ring 31) rfl ?_
            refine e_getr 4 (dec_at dX5_ring 32) flX5_159 rfl rfl ?_
            refine e_iload_n 2 (dec_at dX5_ring 33) rfl rfl ?_
            refine e_iald (dec_at dX5_ring 34) rfl (by decide) (aLk_13 _) (by omega) (fun r67 => ?_)
            refine e_iload_n 3 (dec_at dX5_ring 35) rfl rfl ?_
            refine e_iadd (dec_at dX5_ring 36) ?_
            refine e_iald (dec_at dX5_ring 37) rfl (by decide) (aLk_14 _) (by omega) (fun r70 => ?_)
            refine e_ireturn (dec_at dX5_ring 38) rfl ?_
            refine ⟨fx, hI.go fx hx, fun k p hk => ?_⟩
            have hk0 := (hk.uq hF).1
            refine congrArg (fun z => some (vI z)) ?_
            unfold ringA
            refine Eq.trans ?_ (if_neg (by omega)).symm
            refine Eq.trans ?_ (if_neg (fun z => z hk0)).symm
            refine Eq.trans ?_ (if_neg (by omega)).symm
            rw [qf f (by omega) (by omega), qf (f + 1) (by omega) (by omega)]
            refine Eq.trans ?_ (if_neg (by omega)).symm
            rw [qr _ (by omega) (by omega)]
          · refine e_iconst (dec_at dX5_ring 27) ?_
            refine e_ireturn (dec_at dX5_ring 28) rfl ?_
            refine ⟨fx, hI.go fx hx, fun k p hk => ?_⟩
            have hk0 := (hk.uq hF).1
            refine congrArg (fun z => some (vI z)) ?_
            unfold ringA
            refine Eq.trans ?_ (if_neg (by omega)).symm
            refine Eq.trans ?_ (if_neg (fun z => z hk0)).symm
            refine Eq.trans ?_ (if_neg (by omega)).symm
            rw [qf f (by omega) (by omega), qf (f + 1) (by omega) (by omega)]
            exact (if_pos (by omega)).symm
      · refine e_bipush (dec_at dX5_ring 18) (by decide) ?_
        refine e_ireturn (dec_at dX5_ring 19) rfl ?_
        refine ⟨fx, hI.go fx hx, fun k p hk => ?_⟩
        have hk0 := (hk.uq hF).1
        refine congrArg (fun z => some (vI z)) ?_
        unfold ringA
        refine Eq.trans ?_ (if_neg (by omega)).symm
        refine Eq.trans ?_ (if_neg (fun z => z hk0)).symm
        refine Eq.trans ?_ (if_pos (by omega)).symm
        rfl
  · refine e_bipush (dec_at dX5_ring 3) (by decide) ?_
    refine e_ireturn (dec_at dX5_ring 4) rfl ?_
    refine ⟨FX.rf, hI, fun k p _ => ?_⟩
    refine congrArg (fun z => some (vI z)) ?_
    unfold ringA
    refine Eq.trans ?_ (if_pos (by omega)).symm
    rfl

set_option maxRecDepth 100000 in
set_option maxHeartbeats 4000000 in
theorem x_middle {μ : Mm} (l f a : Int) (h_l : inR l) (h_f : inR f) (h_a : inR a) (hI : XI μ) : Mc mX5_middle 6 [vR 0 0, vI l, vI f, vI a] μ (QQ μ (fun k => vI (middleA μ l f a k))) := by
  refine Mc.of (L := [some (vR 0 0), some (vI l), some (vI f), some (vI a), none]) (by decide +kernel) (by simp [leL, entA, isLong, mX5_middle]) (by simp [entA, isLong, mX5_middle]) ?_
  refine e_iload_n 1 (dec_at dX5_middle 0) rfl rfl ?_
  refine e_callSr (M' := mX5_isLevel) (dec_at dX5_middle 1) mlX5_126 (c_isLevel l h_l) oX5_isLevel sX5_isLevel rfl rfl (by decide) (by decide) (Nat.le_of_ble_eq_true rfl) ?_
  refine e_beq 14 (dec_at dX5_middle 2) (by decide) (fun h4 => ?_) (fun h4 => ?_)
  · refine e_ldc (-2000000001) (dec_at dX5_middle 6) kcX5_142 (by decide) ?_
    refine e_ireturn (dec_at dX5_middle 7) rfl ?_
    refine ⟨FX.rf, hI, fun k p _ => ?_⟩
    refine congrArg (fun z => some (vI z)) ?_
    unfold middleA
    refine Eq.trans ?_ (if_pos (by omega)).symm
    rfl
  · refine e_iload_n 3 (dec_at dX5_middle 3) rfl rfl ?_
    refine e_callSr (M' := mX5_isAxis) (dec_at dX5_middle 4) mlX5_79 (c_isAxis a h_a) oX5_isAxis sX5_isAxis rfl rfl (by decide) (by decide) (Nat.le_of_ble_eq_true rfl) ?_
    refine e_bne 17 (dec_at dX5_middle 5) (by decide) (fun h11 => ?_) (fun h11 => ?_)
    · refine e_aload_n 0 (dec_at dX5_middle 8) rfl rfl ?_
      refine e_getr 1 (dec_at dX5_middle 9) flX5_19 rfl rfl ?_
      refine e_iload_n 1 (dec_at dX5_middle 10) rfl rfl ?_
      refine e_callV (M' := mX4_reach) (dec_at dX5_middle 11) mlX5_129 (c_reach (μ := μ) l hI.1 hI.2.1 hI.2.2.1 (by omega) hI.2.2.2) oX4_reach iX4_reach rfl rfl rfl rfl (by decide) (by decide) (Nat.le_of_ble_eq_true rfl) (fun r ν hQ => ?_)
      obtain ⟨fr, hx, hq4, hor⟩ := hQ
      have fx : FX μ ν := fr
      rcases hor with ⟨h51, rfl⟩ | ⟨h51, rfl, h6⟩
      · show Ev mX5_middle 6 25 _ [vN] ν _
        refine e_as4 (dec_at dX5_middle 12) (by decide) rfl ?_
        refine e_aload (dec_at dX5_middle 13) rfl ?_
        refine e_ifnonnull 35 (dec_at dX5_middle 14) (by decide) (fun h => absurd rfl h) (fun _ => ?_)
        refine e_ldc (-2000000003) (dec_at dX5_middle 15) kcX5_143 (by decide) ?_
        refine e_ireturn (dec_at dX5_middle 16) rfl ?_
        refine ⟨fx, hI.go fx hx, fun k p hk => ?_⟩
        have hke := (hk.uq (IsF_cg fx.sb.bse (hx.resolve_left (fun q => by omega)).2.1)).1
        have hk0 : k ≠ 0 := by rw [hke]; exact h51
        refine congrArg (fun z => some (vI z)) ?_
        unfold middleA
        refine Eq.trans ?_ (if_neg (by omega)).symm
        refine Eq.trans ?_ (if_pos hk0).symm
        rfl
      · show Ev mX5_middle 6 25 _ [vR 11 l] ν _
        obtain ⟨nb1, nb2, ns, hc1, gA, aA, hw, hF⟩ := XL hI fx hx hq4 h51 (by omega) h6
        have q0 : Lv μ l 0 0 = ν 11 l 0 := aA.1.1
        have q1 : Lv μ l 0 1 = ν 11 l 1 := aA.1.2.1
        have q2 : Lv μ l 0 2 = ν 11 l 2 := aA.2.1
        have qn : nN (Lv μ l) = ν 13 l (ν 11 l 1) := aA.n gA.1.2.1.1
        have qf : ∀ f, 0 ≤ f → f ≤ ν 11 l 1 → Lv μ l 2 f = ν 13 l f := fun f a b => aA.1.2.2.1 f a (by rw [q1]; exact b)
        have qr : ∀ s, 0 ≤ s → s < ν 13 l (ν 11 l 1) → Lv μ l 3 s = ν 14 l s := fun s a b => aA.1.2.2.2 s a (by rw [qn]; exact b)
        have qm : ∀ e, 0 ≤ e → e < ν 11 l 2 → Lv μ l 7 e = ν 18 l e := fun e a b => aA.2.2.2.1 e a (by rw [q2]; exact b)
        have qx : ∀ s, 0 ≤ s → s < ν 13 l (ν 11 l 1) → nx (Lv μ l) s = nxF (ν 13 l) (ν 15 l) s := fun s a b => (aA.nxe gA.1.2.1 a (by rw [qn]; exact b)).symm
        have hCc := capC_in l
        have hCp := capP_in l
        have hCe := capE_in l
        have hb1 := nb1.1
        have hb2 := nb1.2.1
        have hb3 := nb1.2.2.1
        have hb4 := nb2.1
        refine e_as4 (dec_at dX5_middle 12) (by decide) rfl ?_
        refine e_aload (dec_at dX5_middle 13) rfl ?_
        refine e_ifnonnull 35 (dec_at dX5_middle 14) (by decide) (fun _ => ?_) (fun h => absurd h (by simp))
        refine e_aload (dec_at dX5_middle 17) rfl ?_
        refine e_iload_n 2 (dec_at dX5_middle 18) rfl rfl ?_
        refine e_callVr (M' := mX2_hasPlate) (dec_at dX5_middle 19) mlX5_98 (c_hasPlate (μ := ν) l f h_f) oX2_hasPlate iX2_hasPlate rfl rfl rfl rfl (by decide) (by decide) (Nat.le_of_ble_eq_true rfl) ?_
        refine e_bne 47 (dec_at dX5_middle 20) (by decide) (fun h41 => ?_) (fun h41 => ?_)
        · have hff := nb1.2.2.2.1 f (by omega) (by omega)
          refine e_aload (dec_at dX5_middle 23) rfl ?_
          refine e_iload_n 2 (dec_at dX5_middle 24) rfl rfl ?_
          refine e_iload_n 3 (dec_at dX5_middle 25) rfl rfl ?_
          refine e_callVr (M' := mX2_sumOfPlate) (dec_at dX5_middle 26) mlX5_162 (c_sumOfPlate (μ := ν) l f a nb1 (by omega) (by omega) (by omega)) oX2_sumOfPlate iX2_sumOfPlate rfl rfl rfl rfl (by decide) (by decide) (Nat.le_of_ble_eq_true rfl) ?_
          refine e_ireturn (dec_at dX5_middle 27) rfl ?_
          refine ⟨fx, hI.go fx hx, fun k p hk => ?_⟩
          have hk0 := (hk.uq hF).1
          refine congrArg (fun z => some (vI z)) ?_
          unfold middleA
          refine Eq.trans ?_ (if_neg (by omega)).symm
          refine Eq.trans ?_ (if_neg (fun z => z hk0)).symm
          refine Eq.trans ?_ (if_neg (by omega)).symm
          refine (flo_eq (qf f (by omega) (by omega)).symm (qf (f + 1) (by omega) (by omega)).symm rfl (fun s b s0 s1 => ?_))
          have hs := nb1.2.2.2.2 s (by omega) (by omega)
          rw [qr s (by omega) (by omega), hw _ a hs.1.1 hs.1.2 (by omega) (by omega)]
        · refine e_ldc (-2000000001) (dec_at dX5_middle 21) kcX5_142 (by decide) ?_
          refine e_ireturn (dec_at dX5_middle 22) rfl ?_
          refine ⟨fx, hI.go fx hx, fun k p hk => ?_⟩
          have hk0 := (hk.uq hF).1
          refine congrArg (fun z => some (vI z)) ?_
          unfold middleA
          refine Eq.trans ?_ (if_neg (by omega)).symm
          refine Eq.trans ?_ (if_neg (fun z => z hk0)).symm
          refine Eq.trans ?_ (if_pos (by omega)).symm
          rfl
    · refine e_ldc (-2000000001) (dec_at dX5_middle 6) kcX5_142 (by decide) ?_
      refine e_ireturn (dec_at dX5_middle 7) rfl ?_
      refine ⟨FX.rf, hI, fun k p _ => ?_⟩
      refine congrArg (fun z => some (vI z)) ?_
      unfold middleA
      refine Eq.trans ?_ (if_pos (by omega)).symm
      rfl

set_option maxRecDepth 100000 in
set_option maxHeartbeats 4000000 in
theorem x_box {μ : Mm} (l a s : Int) (h_l : inR l) (h_a : inR a) (h_s : inR s) (hI : XI μ) : Mc mX5_box 6 [vR 0 0, vI l, vI a, vI s] μ (QQ μ (fun k => vI (boxA μ l a s k))) := by
  refine Mc.of (L := [some (vR 0 0), some (vI l), some (vI a), some (vI s), none]) (by decide +kernel) (by simp [leL, entA, isLong, mX5_box]) (by simp [entA, isLong, mX5_box]) ?_
  refine e_iload_n 1 (dec_at dX5_box 0) rfl rfl ?_
  refine e_callSr (M' := mX5_isLevel) (dec_at dX5_box 1) mlX5_126 (c_isLevel l h_l) oX5_isLevel sX5_isLevel rfl rfl (by decide) (by decide) (Nat.le_of_ble_eq_true rfl) ?_
  refine e_beq 14 (dec_at dX5_box 2) (by decide) (fun h4 => ?_) (fun h4 => ?_)
  · refine e_ldc (-2000000001) (dec_at dX5_box 6) kcX5_142 (by decide) ?_
    refine e_ireturn (dec_at dX5_box 7) rfl ?_
    refine ⟨FX.rf, hI, fun k p _ => ?_⟩
    refine congrArg (fun z => some (vI z)) ?_
    unfold boxA
    refine Eq.trans ?_ (if_pos (by omega)).symm
    rfl
  · refine e_iload_n 2 (dec_at dX5_box 3) rfl rfl ?_
    refine e_callSr (M' := mX5_isAxis) (dec_at dX5_box 4) mlX5_79 (c_isAxis a h_a) oX5_isAxis sX5_isAxis rfl rfl (by decide) (by decide) (Nat.le_of_ble_eq_true rfl) ?_
    refine e_bne 17 (dec_at dX5_box 5) (by decide) (fun h11 => ?_) (fun h11 => ?_)
    · refine e_iload_n 3 (dec_at dX5_box 8) rfl rfl ?_
      refine e_callSr (M' := mX5_isSide) (dec_at dX5_box 9) mlX5_144 (c_isSide s h_s) oX5_isSide sX5_isSide rfl rfl (by decide) (by decide) (Nat.le_of_ble_eq_true rfl) ?_
      refine e_bne 27 (dec_at dX5_box 10) (by decide) (fun h21 => ?_) (fun h21 => ?_)
      · refine e_aload_n 0 (dec_at dX5_box 13) rfl rfl ?_
        refine e_getr 1 (dec_at dX5_box 14) flX5_19 rfl rfl ?_
        refine e_iload_n 1 (dec_at dX5_box 15) rfl rfl ?_
        refine e_callV (M' := mX4_reach) (dec_at dX5_box 16) mlX5_129 (c_reach (μ := μ) l hI.1 hI.2.1 hI.2.2.1 (by omega) hI.2.2.2) oX4_reach iX4_reach rfl rfl rfl rfl (by decide) (by decide) (Nat.le_of_ble_eq_true rfl) (fun r ν hQ => ?_)
        obtain ⟨fr, hx, hq4, hor⟩ := hQ
        have fx : FX μ ν := fr
        rcases hor with ⟨h51, rfl⟩ | ⟨h51, rfl, h6⟩
        · show Ev mX5_box 6 35 _ [vN] ν _
          refine e_as4 (dec_at dX5_box 17) (by decide) rfl ?_
          refine e_aload (dec_at dX5_box 18) rfl ?_
          refine e_ifnonnull 45 (dec_at dX5_box 19) (by decide) (fun h => absurd rfl h) (fun _ => ?_)
          refine e_ldc (-2000000003) (dec_at dX5_box 20) kcX5_143 (by decide) ?_
          refine e_ireturn (dec_at dX5_box 21) rfl ?_
          refine ⟨fx, hI.go fx hx, fun k p hk => ?_⟩
          have hke := (hk.uq (IsF_cg fx.sb.bse (hx.resolve_left (fun q => by omega)).2.1)).1
          have hk0 : k ≠ 0 := by rw [hke]; exact h51
          refine congrArg (fun z => some (vI z)) ?_
          unfold boxA
          refine Eq.trans ?_ (if_neg (by omega)).symm
          refine Eq.trans ?_ (if_neg (by omega)).symm
          refine Eq.trans ?_ (if_pos hk0).symm
          rfl
        · show Ev mX5_box 6 35 _ [vR 11 l] ν _
          obtain ⟨nb1, nb2, ns, hc1, gA, aA, hw, hF⟩ := XL hI fx hx hq4 h51 (by omega) h6
          have q0 : Lv μ l 0 0 = ν 11 l 0 := aA.1.1
          have q1 : Lv μ l 0 1 = ν 11 l 1 := aA.1.2.1
          have q2 : Lv μ l 0 2 = ν 11 l 2 := aA.2.1
          have qn : nN (Lv μ l) = ν 13 l (ν 11 l 1) := aA.n gA.1.2.1.1
          have qf : ∀ f, 0 ≤ f → f ≤ ν 11 l 1 → Lv μ l 2 f = ν 13 l f := fun f a b => aA.1.2.2.1 f a (by rw [q1]; exact b)
          have qr : ∀ s, 0 ≤ s → s < ν 13 l (ν 11 l 1) → Lv μ l 3 s = ν 14 l s := fun s a b => aA.1.2.2.2 s a (by rw [qn]; exact b)
          have qm : ∀ e, 0 ≤ e → e < ν 11 l 2 → Lv μ l 7 e = ν 18 l e := fun e a b => aA.2.2.2.1 e a (by rw [q2]; exact b)
          have qx : ∀ s, 0 ≤ s → s < ν 13 l (ν 11 l 1) → nx (Lv μ l) s = nxF (ν 13 l) (ν 15 l) s := fun s a b => (aA.nxe gA.1.2.1 a (by rw [qn]; exact b)).symm
          have hCc := capC_in l
          have hCp := capP_in l
          have hCe := capE_in l
          have hb1 := nb1.1
          have hb2 := nb1.2.1
          have hb3 := nb1.2.2.1
          have hb4 := nb2.1
          refine e_as4 (dec_at dX5_box 17) (by decide) rfl ?_
          refine e_aload (dec_at dX5_box 18) rfl ?_
          refine e_ifnonnull 45 (dec_at dX5_box 19) (by decide) (fun _ => ?_) (fun h => absurd h (by simp))
          refine e_iload_n 3 (dec_at dX5_box 22) rfl rfl ?_
          refine e_if_ne 58 (dec_at dX5_box 23) (by decide) (by omega) (fun h46 => ?_) (fun h46 => ?_)
          · refine e_aload (dec_at dX5_box 28) rfl ?_
            refine e_iload_n 2 (dec_at dX5_box 29) rfl rfl ?_
            refine e_callVr (M' := mX2_greatest) (dec_at dX5_box 30) mlX5_170 (c_greatest (μ := ν) l a (by omega) (by omega)) oX2_greatest iX2_greatest rfl rfl rfl rfl (by decide) (by decide) (Nat.le_of_ble_eq_true rfl) ?_
            refine e_ireturn (dec_at dX5_box 31) rfl ?_
            refine ⟨fx, hI.go fx hx, fun k p hk => ?_⟩
            have hk0 := (hk.uq hF).1
            refine congrArg (fun z => some (vI z)) ?_
            unfold boxA
            refine Eq.trans ?_ (if_neg (by omega)).symm
            refine Eq.trans ?_ (if_neg (by omega)).symm
            refine Eq.trans ?_ (if_neg (fun z => z hk0)).symm
            by_cases hs0 : s = 0
            · refine Eq.trans ?_ (if_pos hs0).symm
              first
              | (refine flo_eq rfl q0.symm (by rw [← hw 0 a (by omega) (by omega) (by omega) (by omega)]; congr 1; omega) (fun c b c0 c1 => ?_)
                 show min b _ = min b _
                 rw [hw c a (by omega) (by omega) (by omega) (by omega)]
                 done)
              | (exfalso; omega)
            · refine Eq.trans ?_ (if_neg hs0).symm
              first
              | (refine flo_eq rfl q0.symm (by rw [← hw 0 a (by omega) (by omega) (by omega) (by omega)]; congr 1; omega) (fun c b c0 c1 => ?_)
                 show max b _ = max b _
                 rw [hw c a (by omega) (by omega) (by omega) (by omega)]
                 done)
              | (exfalso; omega)
          · refine e_aload (dec_at dX5_box 24) rfl ?_
            refine e_iload_n 2 (dec_at dX5_box 25) rfl rfl ?_
            refine e_callVr (M' := mX2_least) (dec_at dX5_box 26) mlX5_167 (c_least (μ := ν) l a (by omega) (by omega)) oX2_least iX2_least rfl rfl rfl rfl (by decide) (by decide) (Nat.le_of_ble_eq_true rfl) ?_
            refine e_goto 64 (dec_at dX5_box 27) (by decide) ?_
            refine e_ireturn (dec_at dX5_box 31) rfl ?_
            refine ⟨fx, hI.go fx hx, fun k p hk => ?_⟩
            have hk0 := (hk.uq hF).1
            refine congrArg (fun z => some (vI z)) ?_
            unfold boxA
            refine Eq.trans ?_ (if_neg (by omega)).symm
            refine Eq.trans ?_ (if_neg (by omega)).symm
            refine Eq.trans ?_ (if_neg (fun z => z hk0)).symm
            by_cases hs0 : s = 0
            · refine Eq.trans ?_ (if_pos hs0).symm
              first
              | (refine flo_eq rfl q0.symm (by rw [← hw 0 a (by omega) (by omega) (by omega) (by omega)]; congr 1; omega) (fun c b c0 c1 => ?_)
                 show min b _ = min b _
                 rw [hw c a (by omega) (by omega) (by omega) (by omega)]
                 done)
              | (exfalso; omega)
            · refine Eq.trans ?_ (if_neg hs0).symm
              first
              | (refine flo_eq rfl q0.symm (by rw [← hw 0 a (by omega) (by omega) (by omega) (by omega)]; congr 1; omega) (fun c b c0 c1 => ?_)
                 show max b _ = max b _
                 rw [hw c a (by omega) (by omega) (by omega) (by omega)]
                 done)
              | (exfalso; omega)
      · refine e_ldc (-2000000002) (dec_at dX5_box 11) kcX5_166 (by decide) ?_
        refine e_ireturn (dec_at dX5_box 12) rfl ?_
        refine ⟨FX.rf, hI, fun k p _ => ?_⟩
        refine congrArg (fun z => some (vI z)) ?_
        unfold boxA
        refine Eq.trans ?_ (if_neg (by omega)).symm
        refine Eq.trans ?_ (if_pos (by omega)).symm
        rfl
    · refine e_ldc (-2000000001) (dec_at dX5_box 6) kcX5_142 (by decide) ?_
      refine e_ireturn (dec_at dX5_box 7) rfl ?_
      refine ⟨FX.rf, hI, fun k p _ => ?_⟩
      refine congrArg (fun z => some (vI z)) ?_
      unfold boxA
      refine Eq.trans ?_ (if_pos (by omega)).symm
      rfl

set_option maxRecDepth 100000 in
set_option maxHeartbeats 4000000 in
theorem x_room {μ : Mm} (l : Int) (h_l : inR l) (hI : XI μ) : Mc mX5_room 6 [vR 0 0, vI l] μ (QQ μ (fun k => vL (roomA μ l k))) := by
  refine Mc.of (L := [some (vR 0 0), some (vI l), none]) (by decide +kernel) (by simp [leL, entA, isLong, mX5_room]) (by simp [entA, isLong, mX5_room]) ?_
  refine e_iload_n 1 (dec_at dX5_room 0) rfl rfl ?_
  refine e_callSr (M' := mX5_isLevel) (dec_at dX5_room 1) mlX5_126 (c_isLevel l h_l) oX5_isLevel sX5_isLevel rfl rfl (by decide) (by decide) (Nat.le_of_ble_eq_true rfl) ?_
  refine e_bne 11 (dec_at dX5_room 2) (by decide) (fun h4 => ?_) (fun h4 => ?_)
  · refine e_aload_n 0 (dec_at dX5_room 5) rfl rfl ?_
    refine e_getr 1 (dec_at dX5_room 6) flX5_19 rfl rfl ?_
    refine e_iload_n 1 (dec_at dX5_room 7) rfl rfl ?_
    refine e_callV (M' := mX4_reach) (dec_at dX5_room 8) mlX5_129 (c_reach (μ := μ) l hI.1 hI.2.1 hI.2.2.1 (by omega) hI.2.2.2) oX4_reach iX4_reach rfl rfl rfl rfl (by decide) (by decide) (Nat.le_of_ble_eq_true rfl) (fun r ν hQ => ?_)
    obtain ⟨fr, hx, hq4, hor⟩ := hQ
    have fx : FX μ ν := fr
    rcases hor with ⟨h51, rfl⟩ | ⟨h51, rfl, h6⟩
    · show Ev mX5_room 6 19 _ [vN] ν _
      refine e_as2 (dec_at dX5_room 9) (by decide) rfl ?_
      refine e_aload_n 2 (dec_at dX5_room 10) rfl rfl ?_
      refine e_ifnonnull 28 (dec_at dX5_room 11) (by decide) (fun h => absurd rfl h) (fun _ => ?_)
      refine e_ldc2 (-103) (dec_at dX5_room 12) klX5_175 (by decide) ?_
      refine e_lreturn (dec_at dX5_room 13) rfl ?_
      refine ⟨fx, hI.go fx hx, fun k p hk => ?_⟩
      have hke := (hk.uq (IsF_cg fx.sb.bse (hx.resolve_left (fun q => by omega)).2.1)).1
      have hk0 : k ≠ 0 := by rw [hke]; exact h51
      refine congrArg (fun z => some (vL z)) ?_
      unfold roomA
      refine Eq.trans ?_ (if_neg (by omega)).symm
      refine Eq.trans ?_ (if_pos hk0).symm
      rfl
    · show Ev mX5_room 6 19 _ [vR 11 l] ν _
      obtain ⟨nb1, nb2, ns, hc1, gA, aA, hw, hF⟩ := XL hI fx hx hq4 h51 (by omega) h6
      have q0 : Lv μ l 0 0 = ν 11 l 0 := aA.1.1
      have q1 : Lv μ l 0 1 = ν 11 l 1 := aA.1.2.1
      have q2 : Lv μ l 0 2 = ν 11 l 2 := aA.2.1
      have qn : nN (Lv μ l) = ν 13 l (ν 11 l 1) := aA.n gA.1.2.1.1
      have qf : ∀ f, 0 ≤ f → f ≤ ν 11 l 1 → Lv μ l 2 f = ν 13 l f := fun f a b => aA.1.2.2.1 f a (by rw [q1]; exact b)
      have qr : ∀ s, 0 ≤ s → s < ν 13 l (ν 11 l 1) → Lv μ l 3 s = ν 14 l s := fun s a b => aA.1.2.2.2 s a (by rw [qn]; exact b)
      have qm : ∀ e, 0 ≤ e → e < ν 11 l 2 → Lv μ l 7 e = ν 18 l e := fun e a b => aA.2.2.2.1 e a (by rw [q2]; exact b)
      have qx : ∀ s, 0 ≤ s → s < ν 13 l (ν 11 l 1) → nx (Lv μ l) s = nxF (ν 13 l) (ν 15 l) s := fun s a b => (aA.nxe gA.1.2.1 a (by rw [qn]; exact b)).symm
      have hCc := capC_in l
      have hCp := capP_in l
      have hCe := capE_in l
      have hb1 := nb1.1
      have hb2 := nb1.2.1
      have hb3 := nb1.2.2.1
      have hb4 := nb2.1
      refine e_as2 (dec_at dX5_room 9) (by decide) rfl ?_
      refine e_aload_n 2 (dec_at dX5_room 10) rfl rfl ?_
      refine e_ifnonnull 28 (dec_at dX5_room 11) (by decide) (fun _ => ?_) (fun h => absurd h (by simp))
      refine e_aload_n 2 (dec_at dX5_room 14) rfl rfl ?_
      refine e_callVr (M' := mX2_sixfoldRoom) (dec_at dX5_room 15) mlX5_177 (c_sixfoldRoom (μ := ν) l nb1) oX2_sixfoldRoom iX2_sixfoldRoom rfl rfl rfl rfl (by decide) (by decide) (Nat.le_of_ble_eq_true rfl) ?_
      refine e_lreturn (dec_at dX5_room 16) rfl ?_
      refine ⟨fx, hI.go fx hx, fun k p hk => ?_⟩
      have hk0 := (hk.uq hF).1
      refine congrArg (fun z => some (vL z)) ?_
      unfold roomA
      refine Eq.trans ?_ (if_neg (by omega)).symm
      refine Eq.trans ?_ (if_neg (fun z => z hk0)).symm
      refine (flo_eq rfl q1.symm rfl (fun f b f0 f1 => ?_))
      have hff := nb1.2.2.2.1 f f0 f1
      have hp := nb1.2.2.2.2 (ν 13 l f) (by omega) (by omega)
      refine flo_eq (by rw [qf f (by omega) (by omega)]) (by rw [qf (f + 1) (by omega) (by omega)]) rfl (fun s y s0 s1 => ?_)
      have hs := nb1.2.2.2.2 s (by omega) (by omega)
      have hs2 := nb1.2.2.2.2 (s + 1) (by omega) (by omega)
      rw [qf f (by omega) (by omega), qr _ (by omega) (by omega), qr s (by omega) (by omega), qr (s + 1) (by omega) (by omega)]
      have z0 : ∀ c, 0 ≤ c → c < ν 11 l 0 → ν 12 l (3 * c) = Wn μ l c 0 := fun c c0 c1 => by rw [← hw c 0 c0 c1 (by omega) (by omega), Int.add_zero]
      unfold wdF wdA
      rw [z0 _ hp.1.1 hp.1.2, z0 _ hs.1.1 hs.1.2, z0 _ hs2.1.1 hs2.1.2, hw _ 1 hp.1.1 hp.1.2 (by omega) (by omega), hw _ 2 hp.1.1 hp.1.2 (by omega) (by omega), hw _ 1 hs.1.1 hs.1.2 (by omega) (by omega), hw _ 2 hs.1.1 hs.1.2 (by omega) (by omega), hw _ 1 hs2.1.1 hs2.1.2 (by omega) (by omega), hw _ 2 hs2.1.1 hs2.1.2 (by omega) (by omega)]
  · refine e_ldc2 (-101) (dec_at dX5_room 3) klX5_173 (by decide) ?_
    refine e_lreturn (dec_at dX5_room 4) rfl ?_
    refine ⟨FX.rf, hI, fun k p _ => ?_⟩
    refine congrArg (fun z => some (vL z)) ?_
    unfold roomA
    refine Eq.trans ?_ (if_pos (by omega)).symm
    rfl

set_option maxRecDepth 100000 in
set_option maxHeartbeats 4000000 in
theorem x_cut {μ : Mm} (l a v : Int) (h_l : inR l) (h_a : inR a) (h_v : inR v) (hI : XI μ) : Mc mX5_cut 6 [vR 0 0, vI l, vI a, vI v] μ (QQ μ (fun k => vI (cutA μ l a v k))) := by
  refine Mc.of (L := [some (vR 0 0), some (vI l), some (vI a), some (vI v), none]) (by decide +kernel) (by simp [leL, entA, isLong, mX5_cut]) (by simp [entA, isLong, mX5_cut]) ?_
  refine e_iload_n 1 (dec_at dX5_cut 0) rfl rfl ?_
  refine e_callSr (M' := mX5_isLevel) (dec_at dX5_cut 1) mlX5_126 (c_isLevel l h_l) oX5_isLevel sX5_isLevel rfl rfl (by decide) (by decide) (Nat.le_of_ble_eq_true rfl) ?_
  refine e_beq 14 (dec_at dX5_cut 2) (by decide) (fun h4 => ?_) (fun h4 => ?_)
  · refine e_bipush (dec_at dX5_cut 6) (by decide) ?_
    refine e_ireturn (dec_at dX5_cut 7) rfl ?_
    refine ⟨FX.rf, hI, fun k p _ => ?_⟩
    refine congrArg (fun z => some (vI z)) ?_
    unfold cutA
    refine Eq.trans ?_ (if_pos (by omega)).symm
    rfl
  · refine e_iload_n 2 (dec_at dX5_cut 3) rfl rfl ?_
    refine e_callSr (M' := mX5_isAxis) (dec_at dX5_cut 4) mlX5_79 (c_isAxis a h_a) oX5_isAxis sX5_isAxis rfl rfl (by decide) (by decide) (Nat.le_of_ble_eq_true rfl) ?_
    refine e_bne 17 (dec_at dX5_cut 5) (by decide) (fun h11 => ?_) (fun h11 => ?_)
    · refine e_aload_n 0 (dec_at dX5_cut 8) rfl rfl ?_
      refine e_getr 1 (dec_at dX5_cut 9) flX5_19 rfl rfl ?_
      refine e_iload_n 1 (dec_at dX5_cut 10) rfl rfl ?_
      refine e_callV (M' := mX4_reach) (dec_at dX5_cut 11) mlX5_129 (c_reach (μ := μ) l hI.1 hI.2.1 hI.2.2.1 (by omega) hI.2.2.2) oX4_reach iX4_reach rfl rfl rfl rfl (by decide) (by decide) (Nat.le_of_ble_eq_true rfl) (fun r ν hQ => ?_)
      obtain ⟨fr, hx, hq4, hor⟩ := hQ
      have fx : FX μ ν := fr
      rcases hor with ⟨h51, rfl⟩ | ⟨h51, rfl, h6⟩
      · show Ev mX5_cut 6 25 _ [vN] ν _
        refine e_as4 (dec_at dX5_cut 12) (by decide) rfl ?_
        refine e_aload (dec_at dX5_cut 13) rfl ?_
        refine e_ifnonnull 35 (dec_at dX5_cut 14) (by decide) (fun h => absurd rfl h) (fun _ => ?_)
        refine e_bipush (dec_at dX5_cut 15) (by decide) ?_
        refine e_ireturn (dec_at dX5_cut 16) rfl ?_
        refine ⟨fx, hI.go fx hx, fun k p hk => ?_⟩
        have hke := (hk.uq (IsF_cg fx.sb.bse (hx.resolve_left (fun q => by omega)).2.1)).1
        have hk0 : k ≠ 0 := by rw [hke]; exact h51
        refine congrArg (fun z => some (vI z)) ?_
        unfold cutA
        refine Eq.trans ?_ (if_neg (by omega)).symm
        refine Eq.trans ?_ (if_pos hk0).symm
        rfl
      · show Ev mX5_cut 6 25 _ [vR 11 l] ν _
        obtain ⟨nb1, nb2, ns, hc1, gA, aA, hw, hF⟩ := XL hI fx hx hq4 h51 (by omega) h6
        have q0 : Lv μ l 0 0 = ν 11 l 0 := aA.1.1
        have q1 : Lv μ l 0 1 = ν 11 l 1 := aA.1.2.1
        have q2 : Lv μ l 0 2 = ν 11 l 2 := aA.2.1
        have qn : nN (Lv μ l) = ν 13 l (ν 11 l 1) := aA.n gA.1.2.1.1
        have qf : ∀ f, 0 ≤ f → f ≤ ν 11 l 1 → Lv μ l 2 f = ν 13 l f := fun f a b => aA.1.2.2.1 f a (by rw [q1]; exact b)
        have qr : ∀ s, 0 ≤ s → s < ν 13 l (ν 11 l 1) → Lv μ l 3 s = ν 14 l s := fun s a b => aA.1.2.2.2 s a (by rw [qn]; exact b)
        have qm : ∀ e, 0 ≤ e → e < ν 11 l 2 → Lv μ l 7 e = ν 18 l e := fun e a b => aA.2.2.2.1 e a (by rw [q2]; exact b)
        have qx : ∀ s, 0 ≤ s → s < ν 13 l (ν 11 l 1) → nx (Lv μ l) s = nxF (ν 13 l) (ν 15 l) s := fun s a b => (aA.nxe gA.1.2.1 a (by rw [qn]; exact b)).symm
        have hCc := capC_in l
        have hCp := capP_in l
        have hCe := capE_in l
        have hb1 := nb1.1
        have hb2 := nb1.2.1
        have hb3 := nb1.2.2.1
        have hb4 := nb2.1
        refine e_as4 (dec_at dX5_cut 12) (by decide) rfl ?_
        refine e_aload (dec_at dX5_cut 13) rfl ?_
        refine e_ifnonnull 35 (dec_at dX5_cut 14) (by decide) (fun _ => ?_) (fun h => absurd h (by simp))
        refine e_aload (dec_at dX5_cut 17) rfl ?_
        refine e_iload_n 2 (dec_at dX5_cut 18) rfl rfl ?_
        refine e_iload_n 3 (dec_at dX5_cut 19) rfl rfl ?_
        refine e_callVr (M' := mX2_crossings) (dec_at dX5_cut 20) mlX5_181 (c_crossings (μ := ν) l a v nb1 nb2 (by omega) h_v) oX2_crossings iX2_crossings rfl rfl rfl rfl (by decide) (by decide) (Nat.le_of_ble_eq_true rfl) ?_
        refine e_ireturn (dec_at dX5_cut 21) rfl ?_
        refine ⟨fx, hI.go fx hx, fun k p hk => ?_⟩
        have hk0 := (hk.uq hF).1
        refine congrArg (fun z => some (vI z)) ?_
        unfold cutA
        refine Eq.trans ?_ (if_neg (by omega)).symm
        refine Eq.trans ?_ (if_neg (fun z => z hk0)).symm
        refine (flo_eq rfl q2.symm rfl (fun e x e0 e1 => ?_))
        have he := nb2.2 e (by omega) (by omega)
        have hs := nb1.2.2.2.2 _ he.1 he.2
        have hxx := nb1.nx he.1 he.2
        have ht := nb1.2.2.2.2 _ hxx.1 hxx.2
        rw [qm e e0 e1, qx _ he.1 he.2, qr _ he.1 he.2, qr _ hxx.1 hxx.2, hw _ a hs.1.1 hs.1.2 (by omega) (by omega), hw _ a ht.1.1 ht.1.2 (by omega) (by omega)]
    · refine e_bipush (dec_at dX5_cut 6) (by decide) ?_
      refine e_ireturn (dec_at dX5_cut 7) rfl ?_
      refine ⟨FX.rf, hI, fun k p _ => ?_⟩
      refine congrArg (fun z => some (vI z)) ?_
      unfold cutA
      refine Eq.trans ?_ (if_pos (by omega)).symm
      rfl

set_option maxRecDepth 100000 in
set_option maxHeartbeats 4000000 in
theorem x_near {μ : Mm} (l x y z : Int) (h_l : inR l) (h_x : inR x) (h_y : inR y) (h_z : inR z) (hI : XI μ) : Mc mX5_near 6 [vR 0 0, vI l, vI x, vI y, vI z] μ (QQ μ (fun k => vI (nearA μ l x y z k))) := by
  refine Mc.of (L := [some (vR 0 0), some (vI l), some (vI x), some (vI y), some (vI z), none]) (by decide +kernel) (by simp [leL, entA, isLong, mX5_near]) (by simp [entA, isLong, mX5_near]) ?_
  refine e_iload_n 1 (dec_at dX5_near 0) rfl rfl ?_
  refine e_callSr (M' := mX5_isLevel) (dec_at dX5_near 1) mlX5_126 (c_isLevel l h_l) oX5_isLevel sX5_isLevel rfl rfl (by decide) (by decide) (Nat.le_of_ble_eq_true rfl) ?_
  refine e_bne 10 (dec_at dX5_near 2) (by decide) (fun h4 => ?_) (fun h4 => ?_)
  · refine e_iload_n 2 (dec_at dX5_near 5) rfl rfl ?_
    refine e_iload_n 3 (dec_at dX5_near 6) rfl rfl ?_
    refine e_iload (dec_at dX5_near 7) rfl ?_
    refine e_ldc 100000 (dec_at dX5_near 8) kcX5_184 (by decide) ?_
    refine e_callSr (M' := mX5_areWithin) (dec_at dX5_near 9) mlX5_185 (c_areWithin x y z 100000 h_x h_y h_z (by omega)) oX5_areWithin sX5_areWithin rfl rfl (by decide) (by decide) (Nat.le_of_ble_eq_true rfl) ?_
    refine e_bne 25 (dec_at dX5_near 10) (by decide) (fun h19 => ?_) (fun h19 => ?_)
    · refine e_aload_n 0 (dec_at dX5_near 13) rfl rfl ?_
      refine e_getr 1 (dec_at dX5_near 14) flX5_19 rfl rfl ?_
      refine e_iload_n 1 (dec_at dX5_near 15) rfl rfl ?_
      refine e_callV (M' := mX4_reach) (dec_at dX5_near 16) mlX5_129 (c_reach (μ := μ) l hI.1 hI.2.1 hI.2.2.1 (by omega) hI.2.2.2) oX4_reach iX4_reach rfl rfl rfl rfl (by decide) (by decide) (Nat.le_of_ble_eq_true rfl) (fun r ν hQ => ?_)
      obtain ⟨fr, hx, hq4, hor⟩ := hQ
      have fx : FX μ ν := fr
      rcases hor with ⟨h51, rfl⟩ | ⟨h51, rfl, h6⟩
      · show Ev mX5_near 6 33 _ [vN] ν _
        refine e_as5 (dec_at dX5_near 17) (by decide) rfl ?_
        refine e_aload (dec_at dX5_near 18) rfl ?_
        refine e_ifnonnull 43 (dec_at dX5_near 19) (by decide) (fun h => absurd rfl h) (fun _ => ?_)
        refine e_bipush (dec_at dX5_near 20) (by decide) ?_
        refine e_ireturn (dec_at dX5_near 21) rfl ?_
        refine ⟨fx, hI.go fx hx, fun k p hk => ?_⟩
        have hke := (hk.uq (IsF_cg fx.sb.bse (hx.resolve_left (fun q => by omega)).2.1)).1
        have hk0 : k ≠ 0 := by rw [hke]; exact h51
        refine congrArg (fun z => some (vI z)) ?_
        unfold nearA
        refine Eq.trans ?_ (if_neg (by omega)).symm
        refine Eq.trans ?_ (if_neg (by omega)).symm
        refine Eq.trans ?_ (if_pos hk0).symm
        rfl
      · show Ev mX5_near 6 33 _ [vR 11 l] ν _
        obtain ⟨nb1, nb2, ns, hc1, gA, aA, hw, hF⟩ := XL hI fx hx hq4 h51 (by omega) h6
        have q0 : Lv μ l 0 0 = ν 11 l 0 := aA.1.1
        have q1 : Lv μ l 0 1 = ν 11 l 1 := aA.1.2.1
        have q2 : Lv μ l 0 2 = ν 11 l 2 := aA.2.1
        have qn : nN (Lv μ l) = ν 13 l (ν 11 l 1) := aA.n gA.1.2.1.1
        have qf : ∀ f, 0 ≤ f → f ≤ ν 11 l 1 → Lv μ l 2 f = ν 13 l f := fun f a b => aA.1.2.2.1 f a (by rw [q1]; exact b)
        have qr : ∀ s, 0 ≤ s → s < ν 13 l (ν 11 l 1) → Lv μ l 3 s = ν 14 l s := fun s a b => aA.1.2.2.2 s a (by rw [qn]; exact b)
        have qm : ∀ e, 0 ≤ e → e < ν 11 l 2 → Lv μ l 7 e = ν 18 l e := fun e a b => aA.2.2.2.1 e a (by rw [q2]; exact b)
        have qx : ∀ s, 0 ≤ s → s < ν 13 l (ν 11 l 1) → nx (Lv μ l) s = nxF (ν 13 l) (ν 15 l) s := fun s a b => (aA.nxe gA.1.2.1 a (by rw [qn]; exact b)).symm
        have hCc := capC_in l
        have hCp := capP_in l
        have hCe := capE_in l
        have hb1 := nb1.1
        have hb2 := nb1.2.1
        have hb3 := nb1.2.2.1
        have hb4 := nb2.1
        refine e_as5 (dec_at dX5_near 17) (by decide) rfl ?_
        refine e_aload (dec_at dX5_near 18) rfl ?_
        refine e_ifnonnull 43 (dec_at dX5_near 19) (by decide) (fun _ => ?_) (fun h => absurd h (by simp))
        refine e_aload (dec_at dX5_near 22) rfl ?_
        refine e_iload_n 2 (dec_at dX5_near 23) rfl rfl ?_
        refine e_iload_n 3 (dec_at dX5_near 24) rfl rfl ?_
        refine e_iload (dec_at dX5_near 25) rfl ?_
        refine e_callVr (M' := mX2_nearest) (dec_at dX5_near 26) mlX5_189 (c_nearest (μ := ν) l x y z (by omega) ns (by omega)) oX2_nearest iX2_nearest rfl rfl rfl rfl (by decide) (by decide) (Nat.le_of_ble_eq_true rfl) ?_
        refine e_ireturn (dec_at dX5_near 27) rfl ?_
        refine ⟨fx, hI.go fx hx, fun k p hk => ?_⟩
        have hk0 := (hk.uq hF).1
        have sq : ∀ c, 0 ≤ c → c < ν 11 l 0 → sqF (ν 12 l) x y z c = sqA (Wn μ l) x y z c := fun c c0 c1 => by
          have z0 : ν 12 l (3 * c) = Wn μ l c 0 := by rw [← hw c 0 c0 c1 (by omega) (by omega), Int.add_zero]
          unfold sqF sqA
          rw [z0, hw c 1 c0 c1 (by omega) (by omega), hw c 2 c0 c1 (by omega) (by omega)]
        refine congrArg (fun z => some (vI z)) ?_
        unfold nearA
        refine Eq.trans ?_ (if_neg (by omega)).symm
        refine Eq.trans ?_ (if_neg (by omega)).symm
        refine Eq.trans ?_ (if_neg (fun z => z hk0)).symm
        refine congrArg (fun z : Int × Int => z.1) (flo_eq rfl q0.symm ?_ (fun c b c0 c1 => ?_))
        · rw [sq 0 (by omega) (by omega)]
        · rw [sq c (by omega) (by omega)]
    · refine e_bipush (dec_at dX5_near 11) (by decide) ?_
      refine e_ireturn (dec_at dX5_near 12) rfl ?_
      refine ⟨FX.rf, hI, fun k p _ => ?_⟩
      refine congrArg (fun z => some (vI z)) ?_
      unfold nearA
      refine Eq.trans ?_ (if_neg (by omega)).symm
      refine Eq.trans ?_ (if_pos (by omega)).symm
      rfl
  · refine e_bipush (dec_at dX5_near 3) (by decide) ?_
    refine e_ireturn (dec_at dX5_near 4) rfl ?_
    refine ⟨FX.rf, hI, fun k p _ => ?_⟩
    refine congrArg (fun z => some (vI z)) ?_
    unfold nearA
    refine Eq.trans ?_ (if_pos (by omega)).symm
    rfl

set_option maxRecDepth 100000 in
set_option maxHeartbeats 4000000 in
theorem x_many {μ : Mm} (l w : Int) (h_l : inR l) (h_w : inR w) (hI : XI μ) : Mc mX5_many 6 [vR 0 0, vI l, vI w] μ (QQ μ (fun k => vI (manyA μ l w k))) := by
  refine Mc.of (L := [some (vR 0 0), some (vI l), some (vI w), none]) (by decide +kernel) (by simp [leL, entA, isLong, mX5_many]) (by simp [entA, isLong, mX5_many]) ?_
  refine e_iload_n 1 (dec_at dX5_many 0) rfl rfl ?_
  refine e_callSr (M' := mX5_isLevel) (dec_at dX5_many 1) mlX5_126 (c_isLevel l h_l) oX5_isLevel sX5_isLevel rfl rfl (by decide) (by decide) (Nat.le_of_ble_eq_true rfl) ?_
  refine e_bne 10 (dec_at dX5_many 2) (by decide) (fun h4 => ?_) (fun h4 => ?_)
  · refine e_iload_n 2 (dec_at dX5_many 5) rfl rfl ?_
    refine e_if_lt 19 (dec_at dX5_many 6) (by decide) (by omega) (fun h11 => ?_) (fun h11 => ?_)
    · refine e_bipush (dec_at dX5_many 10) (by decide) ?_
      refine e_ireturn (dec_at dX5_many 11) rfl ?_
      refine ⟨FX.rf, hI, fun k p _ => ?_⟩
      refine congrArg (fun z => some (vI z)) ?_
      unfold manyA
      refine Eq.trans ?_ (if_neg (by omega)).symm
      refine Eq.trans ?_ (if_pos (by omega)).symm
      rfl
    · refine e_iload_n 2 (dec_at dX5_many 7) rfl rfl ?_
      refine e_iconst (dec_at dX5_many 8) ?_
      refine e_icmp_le 22 (dec_at dX5_many 9) (by decide) (by omega) (by omega) (fun h16 => ?_) (fun h16 => ?_)
      · refine e_aload_n 0 (dec_at dX5_many 12) rfl rfl ?_
        refine e_getr 1 (dec_at dX5_many 13) flX5_19 rfl rfl ?_
        refine e_iload_n 1 (dec_at dX5_many 14) rfl rfl ?_
        refine e_callV (M' := mX4_reach) (dec_at dX5_many 15) mlX5_129 (c_reach (μ := μ) l hI.1 hI.2.1 hI.2.2.1 (by omega) hI.2.2.2) oX4_reach iX4_reach rfl rfl rfl rfl (by decide) (by decide) (Nat.le_of_ble_eq_true rfl) (fun r ν hQ => ?_)
        obtain ⟨fr, hx, hq4, hor⟩ := hQ
        have fx : FX μ ν := fr
        rcases hor with ⟨h51, rfl⟩ | ⟨h51, rfl, h6⟩
        · show Ev mX5_many 6 30 _ [vN] ν _
          refine e_as3 (dec_at dX5_many 16) (by decide) rfl ?_
          refine e_aload_n 3 (dec_at dX5_many 17) rfl rfl ?_
          refine e_ifnonnull 38 (dec_at dX5_many 18) (by decide) (fun h => absurd rfl h) (fun _ => ?_)
          refine e_bipush (dec_at dX5_many 19) (by decide) ?_
          refine e_ireturn (dec_at dX5_many 20) rfl ?_
          refine ⟨fx, hI.go fx hx, fun k p hk => ?_⟩
          have hke := (hk.uq (IsF_cg fx.sb.bse (hx.resolve_left (fun q => by omega)).2.1)).1
          have hk0 : k ≠ 0 := by rw [hke]; exact h51
          refine congrArg (fun z => some (vI z)) ?_
          unfold manyA
          refine Eq.trans ?_ (if_neg (by omega)).symm
          refine Eq.trans ?_ (if_neg (by omega)).symm
          refine Eq.trans ?_ (if_pos hk0).symm
          rfl
        · show Ev mX5_many 6 30 _ [vR 11 l] ν _
          obtain ⟨nb1, nb2, ns, hc1, gA, aA, hw, hF⟩ := XL hI fx hx hq4 h51 (by omega) h6
          have q0 : Lv μ l 0 0 = ν 11 l 0 := aA.1.1
          have q1 : Lv μ l 0 1 = ν 11 l 1 := aA.1.2.1
          have q2 : Lv μ l 0 2 = ν 11 l 2 := aA.2.1
          have qn : nN (Lv μ l) = ν 13 l (ν 11 l 1) := aA.n gA.1.2.1.1
          have qf : ∀ f, 0 ≤ f → f ≤ ν 11 l 1 → Lv μ l 2 f = ν 13 l f := fun f a b => aA.1.2.2.1 f a (by rw [q1]; exact b)
          have qr : ∀ s, 0 ≤ s → s < ν 13 l (ν 11 l 1) → Lv μ l 3 s = ν 14 l s := fun s a b => aA.1.2.2.2 s a (by rw [qn]; exact b)
          have qm : ∀ e, 0 ≤ e → e < ν 11 l 2 → Lv μ l 7 e = ν 18 l e := fun e a b => aA.2.2.2.1 e a (by rw [q2]; exact b)
          have qx : ∀ s, 0 ≤ s → s < ν 13 l (ν 11 l 1) → nx (Lv μ l) s = nxF (ν 13 l) (ν 15 l) s := fun s a b => (aA.nxe gA.1.2.1 a (by rw [qn]; exact b)).symm
          have hCc := capC_in l
          have hCp := capP_in l
          have hCe := capE_in l
          have hb1 := nb1.1
          have hb2 := nb1.2.1
          have hb3 := nb1.2.2.1
          have hb4 := nb2.1
          refine e_as3 (dec_at dX5_many 16) (by decide) rfl ?_
          refine e_aload_n 3 (dec_at dX5_many 17) rfl rfl ?_
          refine e_ifnonnull 38 (dec_at dX5_many 18) (by decide) (fun _ => ?_) (fun h => absurd h (by simp))
          refine e_iload_n 2 (dec_at dX5_many 21) rfl rfl ?_
          obtain rfl | rfl | rfl | rfl | rfl | rfl : w = 0 ∨ w = 1 ∨ w = 2 ∨ w = 3 ∨ w = 4 ∨ w = 5 := by omega
          · refine e_tableIn 72 (dec_at dX5_many 22) (by decide) (by decide) (by decide) rfl (by decide) ?_
            refine e_aload_n 3 (dec_at dX5_many 23) rfl rfl ?_
            refine e_geti 0 0 (dec_at dX5_many 24) flX5_60 rfl rfl rfl (fun r73 => ?_)
            refine e_ireturn (dec_at dX5_many 25) rfl ?_
            refine ⟨fx, hI.go fx hx, fun k p hk => ?_⟩
            have hk0 := (hk.uq hF).1
            refine congrArg (fun z => some (vI z)) ?_
            unfold manyA
            refine Eq.trans ?_ (if_neg (by omega)).symm
            refine Eq.trans ?_ (if_neg (by decide)).symm
            refine Eq.trans ?_ (if_neg (fun z => z hk0)).symm
            refine Eq.trans ?_ (if_pos rfl).symm
            rw [q0]
          · refine e_tableIn 77 (dec_at dX5_many 22) (by decide) (by decide) (by decide) rfl (by decide) ?_
            refine e_aload_n 3 (dec_at dX5_many 26) rfl rfl ?_
            refine e_geti 2 2 (dec_at dX5_many 27) flX5_133 rfl rfl rfl (fun r78 => ?_)
            refine e_ireturn (dec_at dX5_many 28) rfl ?_
            refine ⟨fx, hI.go fx hx, fun k p hk => ?_⟩
            have hk0 := (hk.uq hF).1
            refine congrArg (fun z => some (vI z)) ?_
            unfold manyA
            refine Eq.trans ?_ (if_neg (by omega)).symm
            refine Eq.trans ?_ (if_neg (by decide)).symm
            refine Eq.trans ?_ (if_neg (fun z => z hk0)).symm
            refine Eq.trans ?_ (if_neg (by decide)).symm
            refine Eq.trans ?_ (if_pos rfl).symm
            rw [q2]
          · refine e_tableIn 82 (dec_at dX5_many 22) (by decide) (by decide) (by decide) rfl (by decide) ?_
            refine e_aload_n 3 (dec_at dX5_many 29) rfl rfl ?_
            refine e_geti 1 1 (dec_at dX5_many 30) flX5_91 rfl rfl rfl (fun r83 => ?_)
            refine e_ireturn (dec_at dX5_many 31) rfl ?_
            refine ⟨fx, hI.go fx hx, fun k p hk => ?_⟩
            have hk0 := (hk.uq hF).1
            refine congrArg (fun z => some (vI z)) ?_
            unfold manyA
            refine Eq.trans ?_ (if_neg (by omega)).symm
            refine Eq.trans ?_ (if_neg (by decide)).symm
            refine Eq.trans ?_ (if_neg (fun z => z hk0)).symm
            refine Eq.trans ?_ (if_neg (by decide)).symm
            refine Eq.trans ?_ (if_neg (by decide)).symm
            refine Eq.trans ?_ (if_pos rfl).symm
            rw [q1]
          · refine e_tableIn 87 (dec_at dX5_many 22) (by decide) (by decide) (by decide) rfl (by decide) ?_
            refine e_aload_n 3 (dec_at dX5_many 32) rfl rfl ?_
            refine e_callVr (M' := mX2_oddCorners) (dec_at dX5_many 33) mlX5_136 (c_oddCorners (μ := ν) l (by omega)) oX2_oddCorners iX2_oddCorners rfl rfl rfl rfl (by decide) (by decide) (Nat.le_of_ble_eq_true rfl) ?_
            refine e_ireturn (dec_at dX5_many 34) rfl ?_
            refine ⟨fx, hI.go fx hx, fun k p hk => ?_⟩
            have hk0 := (hk.uq hF).1
            refine congrArg (fun z => some (vI z)) ?_
            unfold manyA
            refine Eq.trans ?_ (if_neg (by omega)).symm
            refine Eq.trans ?_ (if_neg (by decide)).symm
            refine Eq.trans ?_ (if_neg (fun z => z hk0)).symm
            refine Eq.trans ?_ (if_neg (by decide)).symm
            refine Eq.trans ?_ (if_neg (by decide)).symm
            refine Eq.trans ?_ (if_neg (by decide)).symm
            refine Eq.trans ?_ (if_pos rfl).symm
            refine (flo_eq rfl q0.symm rfl (fun c b c0 c1 => ?_))
            have e8 : Lv μ l 8 c = ν 19 l c := (aA.2.2.2.2 c c0 (by rw [q0]; exact c1)).1
            rw [e8]
          · refine e_tableIn 92 (dec_at dX5_many 22) (by decide) (by decide) (by decide) rfl (by decide) ?_
            refine e_aload_n 3 (dec_at dX5_many 35) rfl rfl ?_
            refine e_callVr (M' := mX2_oddPlates) (dec_at dX5_many 36) mlX5_139 (c_oddPlates (μ := ν) l nb1) oX2_oddPlates iX2_oddPlates rfl rfl rfl rfl (by decide) (by decide) (Nat.le_of_ble_eq_true rfl) ?_
            refine e_ireturn (dec_at dX5_many 37) rfl ?_
            refine ⟨fx, hI.go fx hx, fun k p hk => ?_⟩
            have hk0 := (hk.uq hF).1
            refine congrArg (fun z => some (vI z)) ?_
            unfold manyA
            refine Eq.trans ?_ (if_neg (by omega)).symm
            refine Eq.trans ?_ (if_neg (by decide)).symm
            refine Eq.trans ?_ (if_neg (fun z => z hk0)).symm
            refine Eq.trans ?_ (if_neg (by decide)).symm
            refine Eq.trans ?_ (if_neg (by decide)).symm
            refine Eq.trans ?_ (if_neg (by decide)).symm
            refine Eq.trans ?_ (if_neg (by decide)).symm
            refine Eq.trans ?_ (if_pos rfl).symm
            refine (flo_eq rfl q1.symm rfl (fun f b f0 f1 => ?_))
            rw [qf f f0 (by omega), qf (f + 1) (by omega) (by omega)]
          · refine e_tableOut 97 (dec_at dX5_many 22) (by decide) (by decide) (by decide) ?_
            refine e_aload_n 3 (dec_at dX5_many 38) rfl rfl ?_
            refine e_geti 0 0 (dec_at dX5_many 39) flX5_60 rfl rfl rfl (fun r98 => ?_)
            refine e_aload_n 3 (dec_at dX5_many 40) rfl rfl ?_
            refine e_geti 1 1 (dec_at dX5_many 41) flX5_91 rfl rfl rfl (fun r102 => ?_)
            refine e_iadd (dec_at dX5_many 42) ?_
            refine e_aload_n 3 (dec_at dX5_many 43) rfl rfl ?_
            refine e_geti 2 2 (dec_at dX5_many 44) flX5_133 rfl rfl rfl (fun r107 => ?_)
            refine e_isub (dec_at dX5_many 45) ?_
            refine e_ireturn (dec_at dX5_many 46) rfl ?_
            refine ⟨fx, hI.go fx hx, fun k p hk => ?_⟩
            have hk0 := (hk.uq hF).1
            refine congrArg (fun z => some (vI z)) ?_
            unfold manyA
            refine Eq.trans ?_ (if_neg (by omega)).symm
            refine Eq.trans ?_ (if_neg (by decide)).symm
            refine Eq.trans ?_ (if_neg (fun z => z hk0)).symm
            refine Eq.trans ?_ (if_neg (by decide)).symm
            refine Eq.trans ?_ (if_neg (by decide)).symm
            refine Eq.trans ?_ (if_neg (by decide)).symm
            refine Eq.trans ?_ (if_neg (by decide)).symm
            refine Eq.trans ?_ (if_neg (by decide)).symm
            rw [q0, q1, q2]
      · refine e_bipush (dec_at dX5_many 10) (by decide) ?_
        refine e_ireturn (dec_at dX5_many 11) rfl ?_
        refine ⟨FX.rf, hI, fun k p _ => ?_⟩
        refine congrArg (fun z => some (vI z)) ?_
        unfold manyA
        refine Eq.trans ?_ (if_neg (by omega)).symm
        refine Eq.trans ?_ (if_pos (by omega)).symm
        rfl
  · refine e_bipush (dec_at dX5_many 3) (by decide) ?_
    refine e_ireturn (dec_at dX5_many 4) rfl ?_
    refine ⟨FX.rf, hI, fun k p _ => ?_⟩
    refine congrArg (fun z => some (vI z)) ?_
    unfold manyA
    refine Eq.trans ?_ (if_pos (by omega)).symm
    rfl
end
section
theorem FX.tr {μ ν ρ : Mm} (h : FX μ ν) (g : FX ν ρ) : FX μ ρ := fun k l i z => (g k l i z).trans (h k l i z)
def faultA (w k p : Int) : Int := if ¬ (0 ≤ w ∧ w ≤ 1) then -102 else if w = 0 then k else p

set_option maxRecDepth 100000 in
set_option maxHeartbeats 4000000 in
theorem x_fault {μ : Mm} (w : Int) (h_w : inR w) (hI : XI μ) : Mc mX5_fault 6 [vR 0 0, vI w] μ (fun r μ' => FX μ μ' ∧ XI μ' ∧ ∀ k p, IsF (Nt μ 0) k p → r = some (vI (faultA w k p))) := by
  refine Mc.of (L := [some (vR 0 0), some (vI w), none]) (by decide +kernel) (by simp [leL, entA, isLong, mX5_fault]) (by simp [entA, isLong, mX5_fault]) ?_
  refine e_iload_n 1 (dec_at dX5_fault 0) rfl rfl ?_
  refine e_if_lt 9 (dec_at dX5_fault 1) (by decide) (by omega) (fun h1 => ?_) (fun h1 => ?_)
  · refine e_bipush (dec_at dX5_fault 5) (by decide) ?_
    refine e_ireturn (dec_at dX5_fault 6) rfl ?_
    refine ⟨FX.rf, hI, fun k p _ => congrArg (fun z => some (vI z)) ?_⟩
    unfold faultA
    exact (if_pos (by omega)).symm
  · refine e_iload_n 1 (dec_at dX5_fault 2) rfl rfl ?_
    refine e_iconst (dec_at dX5_fault 3) ?_
    refine e_icmp_le 12 (dec_at dX5_fault 4) (by decide) (by omega) (by omega) (fun h6 => ?_) (fun h6 => ?_)
    · refine e_aload_n 0 (dec_at dX5_fault 7) rfl rfl ?_
      refine e_getr 1 (dec_at dX5_fault 8) flX5_19 rfl rfl ?_
      refine e_callV (M' := mX4_findFault) (dec_at dX5_fault 9) mlX5_113 (c_findFault (μ := μ) hI.1 hI.2.2.2) oX4_findFault iX4_findFault rfl rfl rfl rfl (by decide) (by decide) (Nat.le_of_ble_eq_true rfl) (fun r ν hQ => ?_)
      obtain ⟨rfl, fr, hx, hq4, hr5⟩ := hQ
      have fx : FX μ ν := fun k l1 i z => fr k l1 i (by omega)
      have hxr := hx.resolve_left (fun q => by omega)
      have hFF := IsF_cg fx.sb.bse hxr.2.1
      show Ev mX5_fault 6 19 _ [vI (ν 5 0 1)] ν _
      refine e_is2 (dec_at dX5_fault 10) (by decide) rfl ?_
      refine e_iload_n 1 (dec_at dX5_fault 11) rfl rfl ?_
      refine e_if_ne 28 (dec_at dX5_fault 12) (by decide) (by omega) (fun h21 => ?_) (fun h21 => ?_)
      · refine e_aload_n 0 (dec_at dX5_fault 15) rfl rfl ?_
        refine e_getr 1 (dec_at dX5_fault 16) flX5_19 rfl rfl ?_
        refine e_getr 2 (dec_at dX5_fault 17) flX5_117 rfl rfl ?_
        refine e_geti 2 2 (dec_at dX5_fault 18) flX5_121 rfl rfl rfl (fun r35 => ?_)
        refine e_ireturn (dec_at dX5_fault 19) rfl ?_
        refine ⟨fx, hI.go fx hx, fun k p hk => congrArg (fun z => some (vI z)) ?_⟩
        have hu := hk.uq hFF
        unfold faultA
        refine Eq.trans ?_ (if_neg (by omega)).symm
        by_cases hw0 : w = 0
        · refine Eq.trans ?_ (if_pos hw0).symm
          first | exact hu.1.symm | (exfalso; omega)
        · refine Eq.trans ?_ (if_neg hw0).symm
          first | exact hu.2.symm | (exfalso; omega)
      · refine e_iload_n 2 (dec_at dX5_fault 13) rfl rfl ?_
        refine e_goto 38 (dec_at dX5_fault 14) (by decide) ?_
        refine e_ireturn (dec_at dX5_fault 19) rfl ?_
        refine ⟨fx, hI.go fx hx, fun k p hk => congrArg (fun z => some (vI z)) ?_⟩
        have hu := hk.uq hFF
        unfold faultA
        refine Eq.trans ?_ (if_neg (by omega)).symm
        by_cases hw0 : w = 0
        · refine Eq.trans ?_ (if_pos hw0).symm
          first | exact hu.1.symm | (exfalso; omega)
        · refine Eq.trans ?_ (if_neg hw0).symm
          first | exact hu.2.symm | (exfalso; omega)
    · refine e_bipush (dec_at dX5_fault 5) (by decide) ?_
      refine e_ireturn (dec_at dX5_fault 6) rfl ?_
      refine ⟨FX.rf, hI, fun k p _ => congrArg (fun z => some (vI z)) ?_⟩
      unfold faultA
      exact (if_pos (by omega)).symm

set_option maxRecDepth 100000 in
set_option maxHeartbeats 4000000 in
theorem x_digest {μ : Mm} (hI : XI μ) : Mc mX5_digest 6 [vR 0 0] μ (QQ μ (fun k => vL (digestA μ k))) := by
  refine Mc.of (L := [some (vR 0 0), none, none, none, none]) (by decide +kernel) (by simp [leL, entA, isLong, mX5_digest]) (by simp [entA, isLong, mX5_digest]) ?_
  have e1 : capC 0 = 14 := rfl
  have e2 : capP 0 = 14 := rfl
  have e3 : capE 0 = 42 := rfl
  have nb := hI.1.nb
  have hC := nb.1
  refine e_aload_n 0 (dec_at dX5_digest 0) rfl rfl ?_
  refine e_getr 1 (dec_at dX5_digest 1) flX5_19 rfl rfl ?_
  refine e_getr 1 (dec_at dX5_digest 2) flX5_52 rfl rfl ?_
  refine e_as1 (dec_at dX5_digest 3) (by decide) rfl ?_
  refine e_aload_n 1 (dec_at dX5_digest 4) rfl rfl ?_
  refine e_ldc2 149 (dec_at dX5_digest 5) klX5_209 (by decide) ?_
  refine e_callVr (M' := mX2_mixNumbers) (dec_at dX5_digest 6) mlX5_211 (c_mixNumbers (μ := μ) 0 149 hC) oX2_mixNumbers iX2_mixNumbers rfl rfl rfl rfl (by decide) (by decide) (Nat.le_of_ble_eq_true rfl) ?_
  refine e_ls2 (dec_at dX5_digest 7) (by decide) rfl ?_
  refine e_aload_n 1 (dec_at dX5_digest 8) rfl rfl ?_
  refine e_lload_n 2 (dec_at dX5_digest 9) rfl rfl ?_
  refine e_callVr (M' := mX2_mixPlates) (dec_at dX5_digest 10) mlX5_215 (c_mixPlates (μ := μ) 0 _ nb) oX2_mixPlates iX2_mixPlates rfl rfl rfl rfl (by decide) (by decide) (Nat.le_of_ble_eq_true rfl) ?_
  refine e_ls2 (dec_at dX5_digest 11) (by decide) rfl ?_
  refine e_aload_n 0 (dec_at dX5_digest 12) rfl rfl ?_
  refine e_getr 1 (dec_at dX5_digest 13) flX5_19 rfl rfl ?_
  refine e_getr 3 (dec_at dX5_digest 14) flX5_104 rfl rfl ?_
  refine e_lload_n 2 (dec_at dX5_digest 15) rfl rfl ?_
  refine e_callVr (M' := mX1_mixAll) (dec_at dX5_digest 16) mlX5_218 (c_mixAll (μ := μ) _ hI.2.2.1) oX1_mixAll iX1_mixAll rfl rfl rfl rfl (by decide) (by decide) (Nat.le_of_ble_eq_true rfl) ?_
  refine e_ls2 (dec_at dX5_digest 17) (by decide) rfl ?_
  refine e_lload_n 2 (dec_at dX5_digest 18) rfl rfl ?_
  refine e_aload_n 0 (dec_at dX5_digest 19) rfl rfl ?_
  refine e_getr 1 (dec_at dX5_digest 20) flX5_19 rfl rfl ?_
  refine e_callV (M' := mX4_findFault) (dec_at dX5_digest 21) mlX5_113 (c_findFault (μ := μ) hI.1 hI.2.2.2) oX4_findFault iX4_findFault rfl rfl rfl rfl (by decide) (by decide) (Nat.le_of_ble_eq_true rfl) (fun r ν hQ => ?_)
  obtain ⟨rfl, fr, hx, hq4, hr5⟩ := hQ
  have fx : FX μ ν := fun k l1 i z => fr k l1 i (by omega)
  have hxr := hx.resolve_left (fun q => by omega)
  have hFF := IsF_cg fx.sb.bse hxr.2.1
  show Ev mX5_digest 6 42 _ [vI (ν 5 0 1), vL (flo (fun m a => 31 * (31 * (31 * (31 * a + μ 9 0 m) + μ 10 0 (3 * m + 0)) + μ 10 0 (3 * m + (0 + 1))) + μ 10 0 (3 * m + (0 + 1 + 1))) 0 (μ 7 0 3) (flo (fun f a => flo (fun s b => 31 * b + μ 14 0 s) (μ 13 0 f) (μ 13 0 (f + 1)) (31 * a + (μ 13 0 (f + 1) - μ 13 0 f))) 0 (μ 11 0 1) (flo (fun i a => 31 * a + μ 12 0 i) 0 (3 * μ 11 0 0) 149)))] ν _
  refine e_callSr (M' := mX5_mix) (dec_at dX5_digest 22) mlX5_221 (c_mix (μ := ν) _ (ν 5 0 1) hr5) oX5_mix sX5_mix rfl rfl (by decide) (by decide) (Nat.le_of_ble_eq_true rfl) ?_
  refine e_ls2 (dec_at dX5_digest 23) (by decide) rfl ?_
  refine e_aload_n 0 (dec_at dX5_digest 24) rfl rfl ?_
  refine e_getr 1 (dec_at dX5_digest 25) flX5_19 rfl rfl ?_
  refine e_iconst (dec_at dX5_digest 26) ?_
  refine e_callV (M' := mX4_reach) (dec_at dX5_digest 27) mlX5_129 (c_reach (μ := ν) 2 (hI.go fx hx).1 (hI.go fx hx).2.1 (hI.go fx hx).2.2.1 (by omega) hx) oX4_reach iX4_reach rfl rfl rfl rfl (by decide) (by decide) (Nat.le_of_ble_eq_true rfl) (fun r ν2 hQ => ?_)
  obtain ⟨fr2, hx2, hq42, hor⟩ := hQ
  have fx2 : FX μ ν2 := fx.tr fr2
  have hFF2 := IsF_cg fx2.sb.bse (hx2.resolve_left (fun q => by omega)).2.1
  have huu := hFF.uq hFF2
  rcases hor with ⟨h51, rfl⟩ | ⟨h51, rfl, h6⟩
  · show Ev mX5_digest 6 54 _ [vN] ν2 _
    refine e_as4 (dec_at dX5_digest 28) (by decide) rfl ?_
    refine e_aload (dec_at dX5_digest 29) rfl ?_
    refine e_ifnonnull 65 (dec_at dX5_digest 30) (by decide) (fun h => absurd rfl h) (fun _ => ?_)
    refine e_lload_n 2 (dec_at dX5_digest 31) rfl rfl ?_
    refine e_goto 71 (dec_at dX5_digest 32) (by decide) ?_
    refine e_lreturn (dec_at dX5_digest 36) rfl ?_
    refine ⟨fx2, hI.go fx2 hx2, fun k p hk => ?_⟩
    have hu := hk.uq hFF2
    refine congrArg (fun z => some (vL z)) ?_
    unfold digestA
    by_cases hk0 : k ≠ 0
    · refine Eq.trans ?_ (if_pos hk0).symm
      first | (exfalso; omega) | (rw [hu.1, ← huu.1]; rfl)
    · refine Eq.trans ?_ (if_neg hk0).symm
      first
      | (exfalso; omega)
      | (have q0 : Lv μ 2 0 0 = ν2 11 2 0 := aA.1.1
         refine flo_eq rfl (by rw [q0]) (by rw [hu.1, ← huu.1]; rfl) (fun i b i0 i1 => ?_)
         have z := hw (i / 3) (i % 3) (by omega) (by omega) (by omega) (by omega)
         rw [show 3 * (i / 3) + i % 3 = i by omega] at z
         show 31 * b + ν2 12 2 i = _
         rw [z])
  · show Ev mX5_digest 6 54 _ [vR 11 2] ν2 _
    obtain ⟨nb1, nb2, ns, hc1, gA, aA, hw, hF⟩ := XL hI fx2 hx2 hq42 h51 (by omega) h6
    have hb1 := nb1.1
    refine e_as4 (dec_at dX5_digest 28) (by decide) rfl ?_
    refine e_aload (dec_at dX5_digest 29) rfl ?_
    refine e_ifnonnull 65 (dec_at dX5_digest 30) (by decide) (fun _ => ?_) (fun h => absurd h (by simp))
    refine e_aload (dec_at dX5_digest 33) rfl ?_
    refine e_lload_n 2 (dec_at dX5_digest 34) rfl rfl ?_
    refine e_callVr (M' := mX2_mixNumbers) (dec_at dX5_digest 35) mlX5_211 (c_mixNumbers (μ := ν2) 2 _ (by omega)) oX2_mixNumbers iX2_mixNumbers rfl rfl rfl rfl (by decide) (by decide) (Nat.le_of_ble_eq_true rfl) ?_
    refine e_lreturn (dec_at dX5_digest 36) rfl ?_
    refine ⟨fx2, hI.go fx2 hx2, fun k p hk => ?_⟩
    have hu := hk.uq hFF2
    refine congrArg (fun z => some (vL z)) ?_
    unfold digestA
    by_cases hk0 : k ≠ 0
    · refine Eq.trans ?_ (if_pos hk0).symm
      first | (exfalso; omega) | (rw [hu.1, ← huu.1]; rfl)
    · refine Eq.trans ?_ (if_neg hk0).symm
      first
      | (exfalso; omega)
      | (have q0 : Lv μ 2 0 0 = ν2 11 2 0 := aA.1.1
         refine flo_eq rfl (by rw [q0]) (by rw [hu.1, ← huu.1]; rfl) (fun i b i0 i1 => ?_)
         have z := hw (i / 3) (i % 3) (by omega) (by omega) (by omega) (by omega)
         rw [show 3 * (i / 3) + i % 3 = i by omega] at z
         show 31 * b + ν2 12 2 i = _
         rw [z])
end
section
set_option maxRecDepth 100000 in
set_option maxHeartbeats 4000000 in
theorem c_addCorner {μ : Mm} (hC : 0 ≤ μ 11 0 0 ∧ μ 11 0 0 < 14) : Mc mX2_addCorner 0 [vR 11 0, vR 2 0] μ (fun r μ' => r = none ∧ (∀ k l1 i, ¬ (l1 = 0 ∧ (k = 12 ∧ 3 * μ 11 0 0 ≤ i ∧ i ≤ 3 * μ 11 0 0 + 2 ∨ k = 11 ∧ i = 0)) → μ' k l1 i = μ k l1 i) ∧ μ' 11 0 0 = μ 11 0 0 + 1 ∧ ∀ a, 0 ≤ a → a < 3 → μ' 12 0 (3 * μ 11 0 0 + a) = μ 2 0 a) := by
  refine Mc.of (L := [some (vR 11 0), some (vR 2 0), none]) (by decide +kernel) (by simp [leL, entA, isLong, mX2_addCorner]) (by simp [entA, isLong, mX2_addCorner]) ?_
  have e1 : capC 0 = 14 := rfl
  have e2 : capP 0 = 14 := rfl
  have e3 : capE 0 = 42 := rfl
  refine e_iconst (dec_at dX2_addCorner 0) ?_
  refine e_is2 (dec_at dX2_addCorner 1) (by decide) rfl ?_
  refine e_iload_n 2 (dec_at dX2_addCorner 2) rfl rfl ?_
  refine e_iconst (dec_at dX2_addCorner 3) ?_
  refine e_icmp_ge 29 (dec_at dX2_addCorner 4) (by decide) (by decide) (by decide) (fun h => absurd h (by decide)) (fun _ => ?_)
  refine e_aload_n 0 (dec_at dX2_addCorner 5) rfl rfl ?_
  refine e_getr 3 (dec_at dX2_addCorner 6) flX2_9 rfl rfl ?_
  refine e_iconst (dec_at dX2_addCorner 7) ?_
  refine e_aload_n 0 (dec_at dX2_addCorner 8) rfl rfl ?_
  refine e_getiv 0 0 (μ 11 0 0) (dec_at dX2_addCorner 9) flX2_39 rfl rfl rfl (by rfl) (fun r13 => ?_)
  refine e_imul (dec_at dX2_addCorner 10) ?_
  refine e_iload_n 2 (dec_at dX2_addCorner 11) rfl rfl ?_
  refine e_iadd (dec_at dX2_addCorner 12) ?_
  refine e_aload_n 1 (dec_at dX2_addCorner 13) rfl rfl ?_
  refine e_iload_n 2 (dec_at dX2_addCorner 14) rfl rfl ?_
  refine e_ialdv (μ 2 0 0) (dec_at dX2_addCorner 15) rfl (by decide) (aLk_2 _) (by omega) (by rfl) (fun r21 => ?_)
  refine e_iast (dec_at dX2_addCorner 16) rfl (by decide) (aLk_12 _) (by omega) (by omega) ?_
  refine e_ii2 (dec_at dX2_addCorner 17) (by decide) rfl ?_
  refine e_goto 2 (dec_at dX2_addCorner 18) (by decide) ?_
  refine e_iload_n 2 (dec_at dX2_addCorner 2) rfl rfl ?_
  refine e_iconst (dec_at dX2_addCorner 3) ?_
  refine e_icmp_ge 29 (dec_at dX2_addCorner 4) (by decide) (by decide) (by decide) (fun h => absurd h (by decide)) (fun _ => ?_)
  refine e_aload_n 0 (dec_at dX2_addCorner 5) rfl rfl ?_
  refine e_getr 3 (dec_at dX2_addCorner 6) flX2_9 rfl rfl ?_
  refine e_iconst (dec_at dX2_addCorner 7) ?_
  refine e_aload_n 0 (dec_at dX2_addCorner 8) rfl rfl ?_
  refine e_getiv 0 0 (μ 11 0 0) (dec_at dX2_addCorner 9) flX2_39 rfl rfl rfl (by rw [mset_k (by decide)]) (fun r13 => ?_)
  refine e_imul (dec_at dX2_addCorner 10) ?_
  refine e_iload_n 2 (dec_at dX2_addCorner 11) rfl rfl ?_
  refine e_iadd (dec_at dX2_addCorner 12) ?_
  refine e_aload_n 1 (dec_at dX2_addCorner 13) rfl rfl ?_
  refine e_iload_n 2 (dec_at dX2_addCorner 14) rfl rfl ?_
  refine e_ialdv (μ 2 0 (0 + 1)) (dec_at dX2_addCorner 15) rfl (by decide) (aLk_2 _) (by omega) (by rw [mset_k (by decide)]) (fun r21 => ?_)
  refine e_iast (dec_at dX2_addCorner 16) rfl (by decide) (aLk_12 _) (by omega) (by omega) ?_
  refine e_ii2 (dec_at dX2_addCorner 17) (by decide) rfl ?_
  refine e_goto 2 (dec_at dX2_addCorner 18) (by decide) ?_
  refine e_iload_n 2 (dec_at dX2_addCorner 2) rfl rfl ?_
  refine e_iconst (dec_at dX2_addCorner 3) ?_
  refine e_icmp_ge 29 (dec_at dX2_addCorner 4) (by decide) (by decide) (by decide) (fun h => absurd h (by decide)) (fun _ => ?_)
  refine e_aload_n 0 (dec_at dX2_addCorner 5) rfl rfl ?_
  refine e_getr 3 (dec_at dX2_addCorner 6) flX2_9 rfl rfl ?_
  refine e_iconst (dec_at dX2_addCorner 7) ?_
  refine e_aload_n 0 (dec_at dX2_addCorner 8) rfl rfl ?_
  refine e_getiv 0 0 (μ 11 0 0) (dec_at dX2_addCorner 9) flX2_39 rfl rfl rfl (by rw [mset_k (by decide), mset_k (by decide)]) (fun r13 => ?_)
  refine e_imul (dec_at dX2_addCorner 10) ?_
  refine e_iload_n 2 (dec_at dX2_addCorner 11) rfl rfl ?_
  refine e_iadd (dec_at dX2_addCorner 12) ?_
  refine e_aload_n 1 (dec_at dX2_addCorner 13) rfl rfl ?_
  refine e_iload_n 2 (dec_at dX2_addCorner 14) rfl rfl ?_
  refine e_ialdv (μ 2 0 (0 + 1 + 1)) (dec_at dX2_addCorner 15) rfl (by decide) (aLk_2 _) (by omega) (by rw [mset_k (by decide), mset_k (by decide)]) (fun r21 => ?_)
  refine e_iast (dec_at dX2_addCorner 16) rfl (by decide) (aLk_12 _) (by omega) (by omega) ?_
  refine e_ii2 (dec_at dX2_addCorner 17) (by decide) rfl ?_
  refine e_goto 2 (dec_at dX2_addCorner 18) (by decide) ?_
  refine e_iload_n 2 (dec_at dX2_addCorner 2) rfl rfl ?_
  refine e_iconst (dec_at dX2_addCorner 3) ?_
  refine e_icmp_ge 29 (dec_at dX2_addCorner 4) (by decide) (by decide) (by decide) (fun _ => ?_) (fun h => absurd h (by decide))
  refine e_aload_n 0 (dec_at dX2_addCorner 19) rfl rfl ?_
  refine e_dup (dec_at dX2_addCorner 20) rfl ?_
  refine e_getiv 0 0 (μ 11 0 0) (dec_at dX2_addCorner 21) flX2_39 rfl rfl rfl (by rw [mset_k (by decide), mset_k (by decide), mset_k (by decide)]) (fun r31 => ?_)
  refine e_iconst (dec_at dX2_addCorner 22) ?_
  refine e_iadd (dec_at dX2_addCorner 23) ?_
  refine e_put 0 0 (dec_at dX2_addCorner 24) flX2_39 fpX2_0 rfl rfl rfl (by omega) (fit_int _) ?_
  refine e_return (dec_at dX2_addCorner 25) rfl ?_
  refine ⟨rfl, fun k l1 i z => ?_, mset_eq, fun a a0 a1 => ?_⟩
  · rw [mset_ne (by omega), mset_ne (by omega), mset_ne (by omega), mset_ne (by omega)]
  · rw [mset_k (by decide)]
    rcases (show a = 0 ∨ a = 1 ∨ a = 2 by omega) with rfl | rfl | rfl
    · rw [mset_i (by omega), mset_i (by omega)]
      exact mset_eq
    · rw [mset_i (by omega)]
      exact mset_eq
    · exact mset_eq

set_option maxRecDepth 100000 in
set_option maxHeartbeats 4000000 in
theorem l_addPlate {μ : Mm} {m : Int} (hP : 0 ≤ μ 11 0 1 ∧ μ 11 0 1 < 14) (hn : 0 ≤ μ 13 0 (μ 11 0 1) ∧ μ 13 0 (μ 11 0 1) + m ≤ 84) (hm : 0 ≤ m ∧ m ≤ 6) : ∀ (q : Nat) (k : Int) (ν : Mm), (m - k).toNat = q → 0 ≤ k → k ≤ m → (∀ k l1 i, ¬ (l1 = 0 ∧ (k = 14 ∨ k = 15) ∧ μ 13 0 (μ 11 0 1) ≤ i ∧ i < μ 13 0 (μ 11 0 1) + m) → ν k l1 i = μ k l1 i) → (∀ j, 0 ≤ j → j < k → ν 14 0 (μ 13 0 (μ 11 0 1) + j) = μ 2 0 j ∧ ν 15 0 (μ 13 0 (μ 11 0 1) + j) = μ 11 0 1) → Ev mX2_addPlate 1 8 [some (vR 11 0), some (vR 2 0), some (vI m), some (vI (μ 13 0 (μ 11 0 1))), some (vI k)] [] ν (fun r μ' => r = none ∧ (∀ k l1 i, ¬ (l1 = 0 ∧ ((k = 14 ∨ k = 15) ∧ μ 13 0 (μ 11 0 1) ≤ i ∧ i < μ 13 0 (μ 11 0 1) + m ∨ k = 11 ∧ i = 1 ∨ k = 13 ∧ i = μ 11 0 1 + 1)) → μ' k l1 i = μ k l1 i) ∧ μ' 11 0 1 = μ 11 0 1 + 1 ∧ μ' 13 0 (μ 11 0 1 + 1) = μ 13 0 (μ 11 0 1) + m ∧ (∀ j, 0 ≤ j → j < m → μ' 14 0 (μ 13 0 (μ 11 0 1) + j) = μ 2 0 j ∧ μ' 15 0 (μ 13 0 (μ 11 0 1) + j) = μ 11 0 1)) := by
  intro q
  induction q using Nat.strongRecOn with
  | _ q ih =>
  intro k ν hq h0 h1 fr hi
  have e1 : capC 0 = 14 := rfl
  have e2 : capP 0 = 14 := rfl
  have e3 : capE 0 = 42 := rfl
  refine e_iload (dec_at dX2_addPlate 5) rfl ?_
  refine e_iload_n 2 (dec_at dX2_addPlate 6) rfl rfl ?_
  refine e_icmp_ge 46 (dec_at dX2_addPlate 7) (by decide) (by omega) (by omega) (fun h11 => ?_) (fun h11 => ?_)
  · refine e_aload_n 0 (dec_at dX2_addPlate 27) rfl rfl ?_
    refine e_iload_n 3 (dec_at dX2_addPlate 28) rfl rfl ?_
    refine e_iload_n 2 (dec_at dX2_addPlate 29) rfl rfl ?_
    refine e_iadd (dec_at dX2_addPlate 30) ?_
    refine e_callVv (M' := mX2_closePlate) (dec_at dX2_addPlate 31) mlX2_57 (c_closePlate (μ := ν) 0 _ (by rw [fr 11 0 1 (by omega)]; omega) (by omega)) oX2_closePlate iX2_closePlate rfl rfl rfl rfl (by decide) (by decide) (Nat.le_of_ble_eq_true rfl) ?_
    refine e_return (dec_at dX2_addPlate 32) rfl ?_
    obtain rfl : k = m := by omega
    have e11 : ν 11 0 1 = μ 11 0 1 := fr 11 0 1 (by omega)
    refine ⟨rfl, fun k1 l1 i z => ?_, ?_, ?_, fun j a b => ?_⟩
    · rw [e11, mset_ne (by omega), mset_ne (by omega)]; exact fr k1 l1 i (by omega)
    · rw [mset_k (by decide), mset_eq, e11]
    · rw [e11, mset_eq]
    · rw [mset_k (by decide), mset_k (by decide), mset_k (by decide), mset_k (by decide)]; exact hi j a b
  · refine e_aload_n 0 (dec_at dX2_addPlate 8) rfl rfl ?_
    refine e_getr 5 (dec_at dX2_addPlate 9) flX2_18 rfl rfl ?_
    refine e_iload_n 3 (dec_at dX2_addPlate 10) rfl rfl ?_
    refine e_iload (dec_at dX2_addPlate 11) rfl ?_
    refine e_iadd (dec_at dX2_addPlate 12) ?_
    refine e_aload_n 1 (dec_at dX2_addPlate 13) rfl rfl ?_
    refine e_iload (dec_at dX2_addPlate 14) rfl ?_
    refine e_ialdv (μ 2 0 k) (dec_at dX2_addPlate 15) rfl (by decide) (aLk_2 _) (by omega) (by exact fr 2 0 k (by omega)) (fun r25 => ?_)
    refine e_iast (dec_at dX2_addPlate 16) rfl (by decide) (aLk_14 _) (by omega) (by omega) ?_
    refine e_aload_n 0 (dec_at dX2_addPlate 17) rfl rfl ?_
    refine e_getr 6 (dec_at dX2_addPlate 18) flX2_21 rfl rfl ?_
    refine e_iload_n 3 (dec_at dX2_addPlate 19) rfl rfl ?_
    refine e_iload (dec_at dX2_addPlate 20) rfl ?_
    refine e_iadd (dec_at dX2_addPlate 21) ?_
    refine e_aload_n 0 (dec_at dX2_addPlate 22) rfl rfl ?_
    refine e_getiv 1 1 (μ 11 0 1) (dec_at dX2_addPlate 23) flX2_43 rfl rfl rfl (by rw [mset_k (by decide)]; exact fr 11 0 1 (by omega)) (fun r36 => ?_)
    refine e_iast (dec_at dX2_addPlate 24) rfl (by decide) (aLk_15 _) (by omega) (by omega) ?_
    refine e_ii4 (dec_at dX2_addPlate 25) (by decide) rfl ?_
    refine e_goto 8 (dec_at dX2_addPlate 26) (by decide) ?_
    refine ih _ (by omega) (k + 1) _ rfl (by omega) (by omega) (fr_set (fr_set fr (by omega)) (by omega)) (fun j a b => ?_)
    by_cases q : j = k
    · subst q; rw [mset_k (by decide), mset_eq, mset_eq]; exact ⟨rfl, rfl⟩
    · rw [mset_k (by decide), mset_i (by omega), mset_i (by omega), mset_k (by decide)]; exact hi j a (by omega)

set_option maxRecDepth 100000 in
set_option maxHeartbeats 4000000 in
theorem c_addPlate {μ : Mm} (m : Int) (hP : 0 ≤ μ 11 0 1 ∧ μ 11 0 1 < 14) (hn : 0 ≤ μ 13 0 (μ 11 0 1) ∧ μ 13 0 (μ 11 0 1) + m ≤ 84) (hm : 0 ≤ m ∧ m ≤ 6) : Mc mX2_addPlate 1 [vR 11 0, vR 2 0, vI m] μ (fun r μ' => r = none ∧ (∀ k l1 i, ¬ (l1 = 0 ∧ ((k = 14 ∨ k = 15) ∧ μ 13 0 (μ 11 0 1) ≤ i ∧ i < μ 13 0 (μ 11 0 1) + m ∨ k = 11 ∧ i = 1 ∨ k = 13 ∧ i = μ 11 0 1 + 1)) → μ' k l1 i = μ k l1 i) ∧ μ' 11 0 1 = μ 11 0 1 + 1 ∧ μ' 13 0 (μ 11 0 1 + 1) = μ 13 0 (μ 11 0 1) + m ∧ (∀ j, 0 ≤ j → j < m → μ' 14 0 (μ 13 0 (μ 11 0 1) + j) = μ 2 0 j ∧ μ' 15 0 (μ 13 0 (μ 11 0 1) + j) = μ 11 0 1)) := by
  refine Mc.of (L := [some (vR 11 0), some (vR 2 0), some (vI m), none, none]) (by decide +kernel) (by simp [leL, entA, isLong, mX2_addPlate]) (by simp [entA, isLong, mX2_addPlate]) ?_
  have e1 : capC 0 = 14 := rfl
  have e2 : capP 0 = 14 := rfl
  have e3 : capE 0 = 42 := rfl
  refine e_aload_n 0 (dec_at dX2_addPlate 0) rfl rfl ?_
  refine e_callVr (M' := mX2_steps) (dec_at dX2_addPlate 1) mlX2_53 (c_steps (μ := μ) 0 (by omega)) oX2_steps iX2_steps rfl rfl rfl rfl (by decide) (by decide) (Nat.le_of_ble_eq_true rfl) ?_
  refine e_is3 (dec_at dX2_addPlate 2) (by decide) rfl ?_
  refine e_iconst (dec_at dX2_addPlate 3) ?_
  refine e_is4 (dec_at dX2_addPlate 4) (by decide) rfl ?_
  exact l_addPlate hP hn hm _ 0 μ rfl (by omega) (by omega) (fun _ _ _ _ => rfl) (fun j a b => by omega)

set_option maxRecDepth 100000 in
set_option maxHeartbeats 4000000 in
theorem l_turn {μ : Mm} {f : Int} (hf : 0 ≤ f ∧ f < 14) (h0 : 0 ≤ μ 13 0 f) (h1 : μ 13 0 f + 3 ≤ μ 13 0 (f + 1)) (h2 : μ 13 0 (f + 1) ≤ 84) : ∀ (q : Nat) (t : Int) (ν : Mm), (μ 13 0 (f + 1) - 1 - (μ 13 0 f + 1) - t).toNat = q → 0 ≤ t → 2 * t ≤ μ 13 0 (f + 1) - 1 - (μ 13 0 f + 1) + 1 → (∀ k l1 i, ¬ (k = 14 ∧ l1 = 0 ∧ μ 13 0 f + 1 ≤ i ∧ i ≤ μ 13 0 (f + 1) - 1) → ν k l1 i = μ k l1 i) → (∀ i, μ 13 0 f + 1 + t ≤ i → i ≤ μ 13 0 (f + 1) - 1 - t → ν 14 0 i = μ 14 0 i) → (∀ i, μ 13 0 f + 1 ≤ i → i ≤ μ 13 0 (f + 1) - 1 → (i < μ 13 0 f + 1 + t ∨ μ 13 0 (f + 1) - 1 - t < i) → ν 14 0 i = μ 14 0 (μ 13 0 f + 1 + (μ 13 0 (f + 1) - 1) - i)) → Ev mX2_turnPlate 0 20 [some (vR 11 0), some (vI f), some (vI (μ 13 0 f + 1 + t)), some (vI (μ 13 0 (f + 1) - 1 - t)), none] [] ν (fun r μ' => r = none ∧ (∀ k l1 i, ¬ (k = 14 ∧ l1 = 0 ∧ μ 13 0 f + 1 ≤ i ∧ i ≤ μ 13 0 (f + 1) - 1) → μ' k l1 i = μ k l1 i) ∧ ∀ i, μ 13 0 f + 1 ≤ i → i ≤ μ 13 0 (f + 1) - 1 → μ' 14 0 i = μ 14 0 (μ 13 0 f + 1 + (μ 13 0 (f + 1) - 1) - i)) := by
  intro q
  induction q using Nat.strongRecOn with
  | _ q ih =>
  intro t ν hq t0 t1 fr ha hb
  have e1 : capC 0 = 14 := rfl
  have e2 : capP 0 = 14 := rfl
  have e3 : capE 0 = 42 := rfl
  refine e_iload_n 2 (dec_at dX2_turnPlate 16) rfl rfl ?_
  refine e_iload_n 3 (dec_at dX2_turnPlate 17) rfl rfl ?_
  refine e_icmp_ge 62 (dec_at dX2_turnPlate 18) (by decide) (by omega) (by omega) (fun h22 => ?_) (fun h22 => ?_)
  · refine e_return (dec_at dX2_turnPlate 40) rfl ?_
    refine ⟨rfl, fr, fun i a b => ?_⟩
    by_cases q : i < μ 13 0 f + 1 + t ∨ μ 13 0 (f + 1) - 1 - t < i
    · exact hb i a b q
    · rw [ha i (by omega) (by omega)]
      congr 1
      omega
  · refine e_aload_n 0 (dec_at dX2_turnPlate 19) rfl rfl ?_
    refine e_getr 5 (dec_at dX2_turnPlate 20) flX2_18 rfl rfl ?_
    refine e_iload_n 2 (dec_at dX2_turnPlate 21) rfl rfl ?_
    refine e_ialdv (μ 14 0 (μ 13 0 f + 1 + t)) (dec_at dX2_turnPlate 22) rfl (by decide) (aLk_14 _) (by omega) (by exact ha _ (by omega) (by omega)) (fun r30 => ?_)
    refine e_is4 (dec_at dX2_turnPlate 23) (by decide) rfl ?_
    refine e_aload_n 0 (dec_at dX2_turnPlate 24) rfl rfl ?_
    refine e_getr 5 (dec_at dX2_turnPlate 25) flX2_18 rfl rfl ?_
    refine e_iload_n 2 (dec_at dX2_turnPlate 26) rfl rfl ?_
    refine e_aload_n 0 (dec_at dX2_turnPlate 27) rfl rfl ?_
    refine e_getr 5 (dec_at dX2_turnPlate 28) flX2_18 rfl rfl ?_
    refine e_iload_n 3 (dec_at dX2_turnPlate 29) rfl rfl ?_
    refine e_ialdv (μ 14 0 (μ 13 0 (f + 1) - 1 - t)) (dec_at dX2_turnPlate 30) rfl (by decide) (aLk_14 _) (by omega) (by exact ha _ (by omega) (by omega)) (fun r43 => ?_)
    refine e_iast (dec_at dX2_turnPlate 31) rfl (by decide) (aLk_14 _) (by omega) (by omega) ?_
    refine e_aload_n 0 (dec_at dX2_turnPlate 32) rfl rfl ?_
    refine e_getr 5 (dec_at dX2_turnPlate 33) flX2_18 rfl rfl ?_
    refine e_iload_n 3 (dec_at dX2_turnPlate 34) rfl rfl ?_
    refine e_iload (dec_at dX2_turnPlate 35) rfl ?_
    refine e_iast (dec_at dX2_turnPlate 36) rfl (by decide) (aLk_14 _) (by omega) (by omega) ?_
    refine e_ii2 (dec_at dX2_turnPlate 37) (by decide) rfl ?_
    refine e_ii3 (dec_at dX2_turnPlate 38) (by decide) rfl ?_
    refine e_goto 20 (dec_at dX2_turnPlate 39) (by decide) ?_
    have e1 : μ 13 0 f + 1 + t + 1 = μ 13 0 f + 1 + (t + 1) := by omega
    have e2 : μ 13 0 (f + 1) - 1 - t + -1 = μ 13 0 (f + 1) - 1 - (t + 1) := by omega
    rw [e1, e2]
    refine e_le [some (vR 11 0), some (vI f), some (vI (μ 13 0 f + 1 + (t + 1))), some (vI (μ 13 0 (f + 1) - 1 - (t + 1))), none] (by simp [leL]) (ih _ (by omega) (t + 1) _ rfl (by omega) (by omega) (fr_set (fr_set fr (by omega)) (by omega)) (fun i a b => ?_) (fun i a b c => ?_))
    · rw [mset_i (by omega), mset_i (by omega)]; exact ha i (by omega) (by omega)
    · by_cases q1 : i = μ 13 0 (f + 1) - 1 - t
      · subst q1
        rw [mset_eq]
        congr 1
        omega
      · rw [mset_i q1]
        by_cases q2 : i = μ 13 0 f + 1 + t
        · subst q2
          rw [mset_eq]
          congr 1
          omega
        · rw [mset_i q2]; exact hb i a b (by omega)

set_option maxRecDepth 100000 in
set_option maxHeartbeats 4000000 in
theorem c_turnPlate {μ : Mm} (f : Int) (hf : 0 ≤ f ∧ f < 14) (h0 : 0 ≤ μ 13 0 f) (h1 : μ 13 0 f + 3 ≤ μ 13 0 (f + 1)) (h2 : μ 13 0 (f + 1) ≤ 84) : Mc mX2_turnPlate 0 [vR 11 0, vI f] μ (fun r μ' => r = none ∧ (∀ k l1 i, ¬ (k = 14 ∧ l1 = 0 ∧ μ 13 0 f + 1 ≤ i ∧ i ≤ μ 13 0 (f + 1) - 1) → μ' k l1 i = μ k l1 i) ∧ ∀ i, μ 13 0 f + 1 ≤ i → i ≤ μ 13 0 (f + 1) - 1 → μ' 14 0 i = μ 14 0 (μ 13 0 f + 1 + (μ 13 0 (f + 1) - 1) - i)) := by
  refine Mc.of (L := [some (vR 11 0), some (vI f), none, none, none]) (by decide +kernel) (by simp [leL, entA, isLong, mX2_turnPlate]) (by simp [entA, isLong, mX2_turnPlate]) ?_
  have e1 : capC 0 = 14 := rfl
  have e2 : capP 0 = 14 := rfl
  have e3 : capE 0 = 42 := rfl
  refine e_aload_n 0 (dec_at dX2_turnPlate 0) rfl rfl ?_
  refine e_getr 4 (dec_at dX2_turnPlate 1) flX2_15 rfl rfl ?_
  refine e_iload_n 1 (dec_at dX2_turnPlate 2) rfl rfl ?_
  refine e_iald (dec_at dX2_turnPlate 3) rfl (by decide) (aLk_13 _) (by omega) (fun r5 => ?_)
  refine e_iconst (dec_at dX2_turnPlate 4) ?_
  refine e_iadd (dec_at dX2_turnPlate 5) ?_
  refine e_is2 (dec_at dX2_turnPlate 6) (by decide) rfl ?_
  refine e_aload_n 0 (dec_at dX2_turnPlate 7) rfl rfl ?_
  refine e_getr 4 (dec_at dX2_turnPlate 8) flX2_15 rfl rfl ?_
  refine e_iload_n 1 (dec_at dX2_turnPlate 9) rfl rfl ?_
  refine e_iconst (dec_at dX2_turnPlate 10) ?_
  refine e_iadd (dec_at dX2_turnPlate 11) ?_
  refine e_iald (dec_at dX2_turnPlate 12) rfl (by decide) (aLk_13 _) (by omega) (fun r16 => ?_)
  refine e_iconst (dec_at dX2_turnPlate 13) ?_
  refine e_isub (dec_at dX2_turnPlate 14) ?_
  refine e_is3 (dec_at dX2_turnPlate 15) (by decide) rfl ?_
  have z := l_turn (μ := μ) (f := f) hf h0 h1 h2 _ 0 μ rfl (by omega) (by omega) (fun _ _ _ _ => rfl) (fun _ _ _ => rfl) (fun i a b c => by omega)
  rw [show μ 13 0 f + 1 + 0 = μ 13 0 f + 1 by omega, show μ 13 0 (f + 1) - 1 - 0 = μ 13 0 (f + 1) - 1 by omega] at z
  exact z
end
section
/-! THE CLASS'S STATE STAYS RIGHT when the base or the moves are changed -/
def XR (μ : Mm) : Prop := (-1 ≤ μ 1 0 2 ∧ μ 1 0 2 ≤ 8) ∧ (0 ≤ μ 1 0 1 ∧ μ 1 0 1 ≤ 2)
/-- XB in plain words -/
theorem XB.mk {ν : Mm} (h1 : 0 ≤ ν 11 0 0 ∧ ν 11 0 0 ≤ 14) (h2 : 0 ≤ ν 11 0 1 ∧ ν 11 0 1 ≤ 14) (h3 : ν 13 0 0 = 0) (h4 : ∀ f, 0 ≤ f → f < ν 11 0 1 → ν 13 0 f + 3 ≤ ν 13 0 (f + 1)) (h5 : ∀ s, 0 ≤ s → s < ν 13 0 (ν 11 0 1) → (0 ≤ ν 15 0 s ∧ ν 15 0 s < ν 11 0 1) ∧ ν 13 0 (ν 15 0 s) ≤ s ∧ s < ν 13 0 (ν 15 0 s + 1)) (h6 : ∀ s, 0 ≤ s → s < ν 13 0 (ν 11 0 1) → 0 ≤ ν 14 0 s ∧ ν 14 0 s < ν 11 0 0) (h7 : ν 13 0 (ν 11 0 1) ≤ 84) : XB ν :=
  ⟨⟨h1.1, ⟨h2.1, h3, h4, h5⟩, h6⟩, h1.2, h2.2, h7⟩
theorem XB.un {μ : Mm} (h : XB μ) : (0 ≤ μ 11 0 0 ∧ μ 11 0 0 ≤ 14) ∧ (0 ≤ μ 11 0 1 ∧ μ 11 0 1 ≤ 14) ∧ μ 13 0 0 = 0 ∧ (∀ f, 0 ≤ f → f < μ 11 0 1 → μ 13 0 f + 3 ≤ μ 13 0 (f + 1)) ∧ (∀ s, 0 ≤ s → s < μ 13 0 (μ 11 0 1) → (0 ≤ μ 15 0 s ∧ μ 15 0 s < μ 11 0 1) ∧ μ 13 0 (μ 15 0 s) ≤ s ∧ s < μ 13 0 (μ 15 0 s + 1)) ∧ (∀ s, 0 ≤ s → s < μ 13 0 (μ 11 0 1) → 0 ≤ μ 14 0 s ∧ μ 14 0 s < μ 11 0 0) ∧ μ 13 0 (μ 11 0 1) ≤ 84 :=
  ⟨⟨h.1.1, h.2.1⟩, ⟨h.1.2.1.1, h.2.2.1⟩, h.1.2.1.2.1, h.1.2.1.2.2.1, h.1.2.1.2.2.2, h.1.2.2, h.2.2.2⟩
/-- a plate has six corners at most, so many plates have so many steps -/
def P6 (μ : Mm) : Prop := ∀ f, 0 ≤ f → f < μ 11 0 1 → μ 13 0 (f + 1) ≤ μ 13 0 f + 6
theorem P6.n {μ : Mm} (h : P6 μ) (h0 : μ 13 0 0 = 0) : ∀ (n : Nat) (f : Int), f.toNat = n → 0 ≤ f → f ≤ μ 11 0 1 → μ 13 0 f ≤ 6 * f := by
  intro n
  induction n with
  | zero => intro f hn h1 h2; obtain rfl : f = 0 := by omega
            omega
  | succ n ih =>
    intro f hn h1 h2
    have a := ih (f - 1) (by omega) (by omega) (by omega)
    have b := h (f - 1) (by omega) (by omega)
    rw [show f - 1 + 1 = f by omega] at b
    omega
theorem Mv.fr {μ ν : Mm} (h : Mv μ) (f : ∀ (k : Nat) (l i : Int), 7 ≤ k → k ≤ 10 → ν k l i = μ k l i) : Mv ν := by
  have e7 : ν 7 0 3 = μ 7 0 3 := f 7 0 3 (by decide) (by decide)
  have e8 : ν 8 0 = μ 8 0 := funext (fun i => f 8 0 i (by decide) (by decide))
  have e9 : ν 9 0 = μ 9 0 := funext (fun i => f 9 0 i (by decide) (by decide))
  have e10 : ν 10 0 = μ 10 0 := funext (fun i => f 10 0 i (by decide) (by decide))
  unfold Mv ky at h ⊢
  rw [e7, e8, e9, e10]
  exact h
theorem keep_corner {μ ν : Mm} (h : XI μ) (h6 : P6 μ) (hC : μ 11 0 0 < 14) (f : ∀ k l1 i, ¬ (l1 = 0 ∧ (k = 12 ∧ 3 * μ 11 0 0 ≤ i ∧ i ≤ 3 * μ 11 0 0 + 2 ∨ k = 11 ∧ i = 0) ∨ k = 3) → ν k l1 i = μ k l1 i) (c1 : ν 11 0 0 = μ 11 0 0 + 1) (c2 : ∀ a, 0 ≤ a → a < 3 → -1000 ≤ ν 12 0 (3 * μ 11 0 0 + a) ∧ ν 12 0 (3 * μ 11 0 0 + a) ≤ 1000) (z : ν 3 0 4 = 0 ∧ ν 3 0 5 = 0 ∧ ν 3 0 6 = 0) : XI ν ∧ P6 ν := by
  obtain ⟨a1, a2, a3, a4, a5, a6, a7⟩ := h.1.un
  have e1 : ν 11 0 1 = μ 11 0 1 := f 11 0 1 (by omega)
  have e13 : ∀ i, ν 13 0 i = μ 13 0 i := fun i => f 13 0 i (by omega)
  have e14 : ∀ i, ν 14 0 i = μ 14 0 i := fun i => f 14 0 i (by omega)
  have e15 : ∀ i, ν 15 0 i = μ 15 0 i := fun i => f 15 0 i (by omega)
  refine ⟨⟨XB.mk (by omega) (by omega) (by rw [e13]; exact a3) (fun g g0 g1 => ?_) (fun s s0 s1 => ?_) (fun s s0 s1 => ?_) (by rw [e1, e13]; exact a7), fun i i0 i1 => ?_, h.2.2.1.fr (fun k l i k0 k1 => f k l i (by omega)), Or.inl z⟩, fun g g0 g1 => ?_⟩
  · rw [e13, e13]; exact a4 g g0 (by omega)
  · rw [e1, e13] at s1
    rw [e15, e1, e13, e13]; exact a5 s s0 s1
  · rw [e1, e13] at s1
    have := a6 s s0 s1
    rw [e14, c1]; omega
  · by_cases q : i < 3 * μ 11 0 0
    · rw [f 12 0 i (by omega)]; exact h.2.1 i i0 q
    · have := c2 (i - 3 * μ 11 0 0) (by omega) (by omega)
      rw [show 3 * μ 11 0 0 + (i - 3 * μ 11 0 0) = i by omega] at this
      exact this
  · rw [e1] at g1
    rw [e13, e13]; exact h6 g g0 g1
theorem keep_face {μ ν : Mm} {m : Int} (h : XI μ) (h6 : P6 μ) (hm : 3 ≤ m ∧ m ≤ 6) (hP : μ 11 0 1 < 14) (f : ∀ k l1 i, ¬ (l1 = 0 ∧ ((k = 14 ∨ k = 15) ∧ μ 13 0 (μ 11 0 1) ≤ i ∧ i < μ 13 0 (μ 11 0 1) + m ∨ k = 11 ∧ i = 1 ∨ k = 13 ∧ i = μ 11 0 1 + 1) ∨ k = 3) → ν k l1 i = μ k l1 i) (c1 : ν 11 0 1 = μ 11 0 1 + 1) (c2 : ν 13 0 (μ 11 0 1 + 1) = μ 13 0 (μ 11 0 1) + m) (c3 : ∀ j, 0 ≤ j → j < m → (0 ≤ ν 14 0 (μ 13 0 (μ 11 0 1) + j) ∧ ν 14 0 (μ 13 0 (μ 11 0 1) + j) < μ 11 0 0) ∧ ν 15 0 (μ 13 0 (μ 11 0 1) + j) = μ 11 0 1) (z : ν 3 0 4 = 0 ∧ ν 3 0 5 = 0 ∧ ν 3 0 6 = 0) : XI ν ∧ P6 ν := by
  obtain ⟨a1, a2, a3, a4, a5, a6, a7⟩ := h.1.un
  have n0 := h.1.nb.2.2.1
  have hn6 := h6.n a3 _ (μ 11 0 1) rfl a2.1 (by omega)
  have e0 : ν 11 0 0 = μ 11 0 0 := f 11 0 0 (by omega)
  have e13 : ∀ i, i ≠ μ 11 0 1 + 1 → ν 13 0 i = μ 13 0 i := fun i q => f 13 0 i (by omega)
  refine ⟨⟨XB.mk (by omega) (by omega) (by rw [e13 0 (by omega)]; exact a3) (fun g g0 g1 => ?_) (fun s s0 s1 => ?_) (fun s s0 s1 => ?_) (by rw [c1, c2]; omega), fun i i0 i1 => by rw [e0] at i1; rw [f 12 0 i (by omega)]; exact h.2.1 i i0 i1, h.2.2.1.fr (fun k l i k0 k1 => f k l i (by omega)), Or.inl z⟩, fun g g0 g1 => ?_⟩
  · by_cases q : g = μ 11 0 1
    · subst q; rw [c2, e13 _ (by omega)]; omega
    · rw [e13 g (by omega), e13 (g + 1) (by omega)]; exact a4 g g0 (by omega)
  · rw [c1, c2] at s1
    by_cases q : s < μ 13 0 (μ 11 0 1)
    · have w := a5 s s0 q
      rw [f 15 0 s (by omega), c1, e13 _ (by omega), e13 _ (by omega)]
      exact ⟨by omega, w.2⟩
    · have w := c3 (s - μ 13 0 (μ 11 0 1)) (by omega) (by omega)
      rw [show μ 13 0 (μ 11 0 1) + (s - μ 13 0 (μ 11 0 1)) = s by omega] at w
      rw [w.2, c1, c2, e13 _ (by omega)]
      omega
  · rw [c1, c2] at s1
    by_cases q : s < μ 13 0 (μ 11 0 1)
    · rw [f 14 0 s (by omega), e0]; exact a6 s s0 q
    · have w := c3 (s - μ 13 0 (μ 11 0 1)) (by omega) (by omega)
      rw [show μ 13 0 (μ 11 0 1) + (s - μ 13 0 (μ 11 0 1)) = s by omega] at w
      rw [e0]; exact w.1
  · by_cases q : g = μ 11 0 1
    · subst q; rw [c2, e13 _ (by omega)]; omega
    · rw [e13 g (by omega), e13 (g + 1) (by omega)]; exact h6 g g0 (by omega)
theorem keep_undo {μ ν : Mm} (h : XI μ) (h6 : P6 μ) (hP : μ 11 0 1 ≠ 0) (f : ∀ k l1 i, ¬ (l1 = 0 ∧ k = 11 ∧ i = 1 ∨ k = 3) → ν k l1 i = μ k l1 i) (c1 : ν 11 0 1 = μ 11 0 1 - 1) (z : ν 3 0 4 = 0 ∧ ν 3 0 5 = 0 ∧ ν 3 0 6 = 0) : XI ν ∧ P6 ν := by
  obtain ⟨a1, a2, a3, a4, a5, a6, a7⟩ := h.1.un
  have e0 : ν 11 0 0 = μ 11 0 0 := f 11 0 0 (by omega)
  have e13 : ∀ i, ν 13 0 i = μ 13 0 i := fun i => f 13 0 i (by omega)
  have m1 : μ 13 0 (μ 11 0 1 - 1) + 3 * (μ 11 0 1 - (μ 11 0 1 - 1)) ≤ μ 13 0 (μ 11 0 1) := h.1.1.2.1.mono (f := μ 11 0 1 - 1) (g := μ 11 0 1) (by omega) (by omega) (Int.le_refl _)
  refine ⟨⟨XB.mk (by omega) (by omega) (by rw [e13]; exact a3) (fun g g0 g1 => by rw [e13, e13]; exact a4 g g0 (by omega)) (fun s s0 s1 => ?_) (fun s s0 s1 => ?_) (by rw [c1, e13]; omega), fun i i0 i1 => by rw [e0] at i1; rw [f 12 0 i (by omega)]; exact h.2.1 i i0 i1, h.2.2.1.fr (fun k l i k0 k1 => f k l i (by omega)), Or.inl z⟩, fun g g0 g1 => by rw [e13, e13]; exact h6 g g0 (by omega)⟩
  · rw [c1, e13] at s1
    have w := a5 s s0 (by omega)
    rw [f 15 0 s (by omega), e13, e13, c1]
    refine ⟨⟨w.1.1, ?_⟩, w.2⟩
    apply Classical.byContradiction
    intro q
    have m2 : μ 13 0 (μ 11 0 1 - 1) + 3 * (μ 15 0 s - (μ 11 0 1 - 1)) ≤ μ 13 0 (μ 15 0 s) := h.1.1.2.1.mono (f := μ 11 0 1 - 1) (g := μ 15 0 s) (by omega) (by omega) (Int.le_of_lt w.1.2)
    omega
  · rw [c1, e13] at s1
    rw [f 14 0 s (by omega), e0]; exact a6 s s0 (by omega)
theorem keep_turn {μ ν : Mm} {g : Int} (h : XI μ) (h6 : P6 μ) (hg : 0 ≤ g ∧ g < μ 11 0 1) (f : ∀ k l1 i, ¬ (k = 14 ∧ l1 = 0 ∧ μ 13 0 g + 1 ≤ i ∧ i ≤ μ 13 0 (g + 1) - 1 ∨ k = 3) → ν k l1 i = μ k l1 i) (c1 : ∀ i, μ 13 0 g + 1 ≤ i → i ≤ μ 13 0 (g + 1) - 1 → ν 14 0 i = μ 14 0 (μ 13 0 g + 1 + (μ 13 0 (g + 1) - 1) - i)) (z : ν 3 0 4 = 0 ∧ ν 3 0 5 = 0 ∧ ν 3 0 6 = 0) : XI ν ∧ P6 ν := by
  obtain ⟨a1, a2, a3, a4, a5, a6, a7⟩ := h.1.un
  have e0 : ν 11 0 0 = μ 11 0 0 := f 11 0 0 (by omega)
  have e1 : ν 11 0 1 = μ 11 0 1 := f 11 0 1 (by omega)
  have e13 : ∀ i, ν 13 0 i = μ 13 0 i := fun i => f 13 0 i (by omega)
  have hf := h.1.nb.2.2.2.1 g hg.1 hg.2
  refine ⟨⟨XB.mk (by omega) (by omega) (by rw [e13]; exact a3) (fun g g0 g1 => by rw [e13, e13]; exact a4 g g0 (by omega)) (fun s s0 s1 => ?_) (fun s s0 s1 => ?_) (by rw [e1, e13]; exact a7), fun i i0 i1 => by rw [e0] at i1; rw [f 12 0 i (by omega)]; exact h.2.1 i i0 i1, h.2.2.1.fr (fun k l i k0 k1 => f k l i (by omega)), Or.inl z⟩, fun g g0 g1 => by rw [e13, e13]; exact h6 g g0 (by omega)⟩
  · rw [e1, e13] at s1
    rw [f 15 0 s (by omega), e13, e13, e1]; exact a5 s s0 s1
  · rw [e1, e13] at s1
    rw [e0]
    by_cases q : μ 13 0 g + 1 ≤ s ∧ s ≤ μ 13 0 (g + 1) - 1
    · rw [c1 s q.1 q.2]; exact a6 _ (by omega) (by omega)
    · rw [f 14 0 s (by omega)]; exact a6 s s0 s1
theorem keep_clear {μ ν : Mm} (h : XI μ) (f : ∀ k l1 i, ¬ (l1 = 0 ∧ k = 11 ∧ (i = 0 ∨ i = 1) ∨ k = 7 ∨ k = 3) → ν k l1 i = μ k l1 i) (c0 : ν 11 0 0 = 0) (c1 : ν 11 0 1 = 0) (c7 : ν 7 0 3 = 0) (z : ν 3 0 4 = 0 ∧ ν 3 0 5 = 0 ∧ ν 3 0 6 = 0) : XI ν ∧ P6 ν := by
  obtain ⟨a1, a2, a3, a4, a5, a6, a7⟩ := h.1.un
  have e13 : ν 13 0 0 = 0 := by rw [f 13 0 0 (by omega)]; exact a3
  refine ⟨⟨XB.mk (by omega) (by omega) e13 (fun g g0 g1 => by omega) (fun s s0 s1 => by rw [c1, e13] at s1; omega) (fun s s0 s1 => by rw [c1, e13] at s1; omega) (by rw [c1, e13]; omega), fun i i0 i1 => by omega, ⟨by omega, fun i i0 i1 => by omega, fun i j i0 ij j1 => by omega⟩, Or.inl z⟩, fun g g0 g1 => by omega⟩
/-- a number of the base is changed -/
theorem keep_place {μ ν : Mm} {j v : Int} (h : XI μ) (h6 : P6 μ) (hv : -1000 ≤ v ∧ v ≤ 1000) (f : ∀ k l1 i, ¬ (k = 12 ∧ l1 = 0 ∧ i = j ∨ k = 3 ∧ l1 = 0 ∧ i = 6) → ν k l1 i = μ k l1 i) (c1 : ν 12 0 j = v) (c2 : ν 3 0 6 = min (μ 3 0 6) 0) : XI ν ∧ P6 ν := by
  obtain ⟨a1, a2, a3, a4, a5, a6, a7⟩ := h.1.un
  have e0 : ν 11 0 0 = μ 11 0 0 := f 11 0 0 (by omega)
  have e1 : ν 11 0 1 = μ 11 0 1 := f 11 0 1 (by omega)
  have e13 : ν 13 0 = μ 13 0 := funext (fun i => f 13 0 i (by omega))
  have e14 : ν 14 0 = μ 14 0 := funext (fun i => f 14 0 i (by omega))
  have e15 : ν 15 0 = μ 15 0 := funext (fun i => f 15 0 i (by omega))
  have hb : XB ν := XB.mk (by omega) (by omega) (by rw [e13]; exact a3) (by rw [e1, e13]; exact a4) (by rw [e1, e13, e15]; exact a5) (by rw [e0, e1, e13, e14]; exact a6) (by rw [e1, e13]; exact a7)
  have hbs : bs (Nt μ 0) = bs (Nt ν 0) := bs_eq e0.symm e1.symm e13.symm e14.symm e15.symm
  have hN : ∀ l : Int, Nt ν l = Nt μ l ∨ True := fun _ => Or.inr trivial
  refine ⟨⟨hb, fun i i0 i1 => ?_, h.2.2.1.fr (fun k l i k0 k1 => f k l i (by omega)), ?_⟩, fun g g0 g1 => by rw [e13]; exact h6 g g0 (by omega)⟩
  · rw [e0] at i1
    by_cases q : i = j
    · subst q; rw [c1]; exact hv
    · rw [f 12 0 i (by omega)]; exact h.2.1 i i0 i1
  · rcases h.2.2.2 with q | ⟨q1, q2, q3, q4, q5⟩
    · exact Or.inl ⟨by rw [f 3 0 4 (by omega)]; exact q.1, by rw [f 3 0 5 (by omega)]; exact q.2.1, by omega⟩
    · have x5 : ν 3 0 5 = μ 3 0 5 := f 3 0 5 (by omega)
      have y1 : ν 5 0 1 = μ 5 0 1 := f 5 0 1 (by omega)
      have y2 : ν 5 0 2 = μ 5 0 2 := f 5 0 2 (by omega)
      refine Or.inr ⟨by rw [f 3 0 4 (by omega)]; exact q1, ?_, by omega, by rw [y1, x5]; exact q4, fun w => ⟨fun l hl => ?_, fun l hl c a x0 x1 y0 y1 => ?_⟩⟩
      · rw [y1, y2]; exact IsF_cg hbs q2
      · rw [x5] at hl
        rw [y1] at w
        rw [← lev_cg hbs]
        have e : Agr (Nt μ l) (Nt ν l) := ⟨⟨(f 11 l 0 (by omega)).symm, (f 11 l 1 (by omega)).symm, fun g _ _ => (f 13 l g (by omega)).symm, fun s _ _ => (f 14 l s (by omega)).symm⟩, (f 11 l 2 (by omega)).symm, fun s _ _ => ⟨(f 15 l s (by omega)).symm, (f 16 l s (by omega)).symm, (f 17 l s (by omega)).symm⟩, fun e _ _ => (f 18 l e (by omega)).symm, fun c _ _ => ⟨(f 19 l c (by omega)).symm, (f 20 l c (by omega)).symm⟩⟩
        have g := (IsF.good h.1.1 (p := μ 5 0 2) (by rw [w] at q2; exact q2)).1
        exact ((q5 w).1 l hl).tr e (lev_good g l).1.2.1.1
      · obtain rfl : l = 0 := by omega
        rfl
/-- numbers below a level don't hang on the moves of that level and above -/
theorem nmF_cg {lv : Nat → Net} {b0 : Int → Int} {mv mv' : Int → Int → Int → Int} : ∀ (l : Nat), (∀ j : Nat, 1 ≤ j → j ≤ l → ∀ c a, 0 ≤ c → c < lv j 0 0 → 0 ≤ a → a < 3 → mv j c a = mv' j c a) → (∀ j : Nat, Good (lv j)) → (∀ j : Nat, lv (j + 1) 0 0 = lv j 0 2) → ∀ c a, 0 ≤ c → c < lv l 0 0 → 0 ≤ a → a < 3 → nmF lv b0 mv l c a = nmF lv b0 mv' l c a
  | 0, _, _, _, c, a, _, _, _, _ => rfl
  | l + 1, h, G, E, c, a, c0, c1, a0, a1 => by
    rw [E l] at c1
    have m := (G l).mt c0 c1
    have b := ((G l).1.b1 m.1.1 m.1.2).1
    have x := (G l).1.2.1.nxr m.1.1 m.1.2
    have y := ((G l).1.b1 x.1.1 x.1.2).1
    have ih := nmF_cg (b0 := b0) l (fun j j1 j2 => h j j1 (by omega)) G E
    show nmF lv b0 mv l _ a + nmF lv b0 mv l _ a + mv ((l : Int) + 1) c a = nmF lv b0 mv' l _ a + nmF lv b0 mv' l _ a + mv' ((l : Int) + 1) c a
    rw [ih _ a b.1 b.2 a0 a1, ih _ a y.1 y.2 a0 a1]
    have z := h (l + 1) (by omega) (by omega) c a c0 (by rw [E l]; exact c1) a0 a1
    have z : mv ((l : Int) + 1) c a = mv' ((l : Int) + 1) c a := z
    rw [z]
/-- a move is changed -/
theorem keep_move {μ ν : Mm} {L : Int} (h : XI μ) (h6 : P6 μ) (hL : 1 ≤ L ∧ L ≤ 3) (hM : Mv ν) (f : ∀ k l1 i, ¬ (k = 7 ∨ k = 8 ∨ k = 9 ∨ k = 10 ∨ k = 3 ∧ l1 = 0 ∧ i = 6) → ν k l1 i = μ k l1 i) (c1 : ∀ l c a, l < L → 0 ≤ a → a < 3 → mvx ν l c a = mvx μ l c a) (c2 : ν 3 0 6 = min (μ 3 0 6) (L - 1)) : XI ν ∧ P6 ν := by
  obtain ⟨a1, a2, a3, a4, a5, a6, a7⟩ := h.1.un
  have e0 : ν 11 0 0 = μ 11 0 0 := f 11 0 0 (by omega)
  have e1 : ν 11 0 1 = μ 11 0 1 := f 11 0 1 (by omega)
  have e12 : ν 12 0 = μ 12 0 := funext (fun i => f 12 0 i (by omega))
  have e13 : ν 13 0 = μ 13 0 := funext (fun i => f 13 0 i (by omega))
  have e14 : ν 14 0 = μ 14 0 := funext (fun i => f 14 0 i (by omega))
  have e15 : ν 15 0 = μ 15 0 := funext (fun i => f 15 0 i (by omega))
  have hb : XB ν := XB.mk (by omega) (by omega) (by rw [e13]; exact a3) (by rw [e1, e13]; exact a4) (by rw [e1, e13, e15]; exact a5) (by rw [e0, e1, e13, e14]; exact a6) (by rw [e1, e13]; exact a7)
  have hbs : bs (Nt μ 0) = bs (Nt ν 0) := bs_eq e0.symm e1.symm e13.symm e14.symm e15.symm
  refine ⟨⟨hb, fun i i0 i1 => ?_, hM, ?_⟩, fun g g0 g1 => by rw [e13]; exact h6 g g0 (by omega)⟩
  · rw [e0] at i1
    rw [e12]; exact h.2.1 i i0 i1
  · rcases h.2.2.2 with q | ⟨q1, q2, q3, q4, q5⟩
    · exact Or.inl ⟨by rw [f 3 0 4 (by omega)]; exact q.1, by rw [f 3 0 5 (by omega)]; exact q.2.1, by omega⟩
    · have x5 : ν 3 0 5 = μ 3 0 5 := f 3 0 5 (by omega)
      have y1 : ν 5 0 1 = μ 5 0 1 := f 5 0 1 (by omega)
      have y2 : ν 5 0 2 = μ 5 0 2 := f 5 0 2 (by omega)
      refine Or.inr ⟨by rw [f 3 0 4 (by omega)]; exact q1, ?_, by omega, by rw [y1, x5]; exact q4, fun w => ?_⟩
      · rw [y1, y2]; exact IsF_cg hbs q2
      rw [y1] at w
      have g := (IsF.good h.1.1 (p := μ 5 0 2) (by rw [w] at q2; exact q2)).1
      refine ⟨fun l hl => ?_, fun l hl c a x0 x1 z0 z1 => ?_⟩
      · rw [x5] at hl
        rw [← lev_cg hbs]
        have e : Agr (Nt μ l) (Nt ν l) := ⟨⟨(f 11 l 0 (by omega)).symm, (f 11 l 1 (by omega)).symm, fun g _ _ => (f 13 l g (by omega)).symm, fun s _ _ => (f 14 l s (by omega)).symm⟩, (f 11 l 2 (by omega)).symm, fun s _ _ => ⟨(f 15 l s (by omega)).symm, (f 16 l s (by omega)).symm, (f 17 l s (by omega)).symm⟩, fun e _ _ => (f 18 l e (by omega)).symm, fun c _ _ => ⟨(f 19 l c (by omega)).symm, (f 20 l c (by omega)).symm⟩⟩
        exact ((q5 w).1 l hl).tr e (lev_good g l).1.2.1.1
      · rw [f 11 l 0 (by omega)] at x1
        rw [f 12 l _ (by omega), (q5 w).2 l (by omega) c a x0 x1 z0 z1]
        have aA : lev (Nt μ 0) l 0 0 = μ 11 l 0 := ((q5 w).1 l (by omega)).1.1
        unfold nm
        rw [← lev_cg hbs, e12]
        exact nmF_cg l (fun j j1 j2 c a _ _ q0 q1 => (c1 j c a (by omega) q0 q1).symm) (lev_good g) (fun j => rfl) c a x0 (by rw [aA]; exact x1) z0 z1
end
section
/-! THE CLASS'S CALLS THAT CHANGE -/
theorem XI.out {μ ν : Mm} (h : XI μ) (h6 : P6 μ) (f : ∀ (k : Nat) (l i : Int), 3 ≤ k → k ≤ 20 → ν k l i = μ k l i) : XI ν ∧ P6 ν := by
  have S : SB μ ν := fun k l i z => f k l i (by omega) (by omega)
  have e1 : ν 11 0 1 = μ 11 0 1 := f 11 0 1 (by omega) (by omega)
  have e13 : ∀ i, ν 13 0 i = μ 13 0 i := fun i => f 13 0 i (by omega) (by omega)
  refine ⟨⟨S.xb h.1, S.xn h.2.1, S.mv h.2.2.1, ?_⟩, fun g g0 g1 => by rw [e13, e13]; exact h6 g g0 (by omega)⟩
  have y4 : ν 3 0 4 = μ 3 0 4 := f 3 0 4 (by omega) (by omega)
  have y5 : ν 3 0 5 = μ 3 0 5 := f 3 0 5 (by omega) (by omega)
  have y6 : ν 3 0 6 = μ 3 0 6 := f 3 0 6 (by omega) (by omega)
  have z1 : ν 5 0 1 = μ 5 0 1 := f 5 0 1 (by omega) (by omega)
  have z2 : ν 5 0 2 = μ 5 0 2 := f 5 0 2 (by omega) (by omega)
  rcases h.2.2.2 with q | ⟨q1, q2, q3, q4, q5⟩
  · exact Or.inl (by rw [y4, y5, y6]; exact q)
  · refine Or.inr ⟨by rw [y4]; exact q1, by rw [z1, z2]; exact S.isf q2, by rw [y5, y6]; exact q3, by rw [z1, y5]; exact q4, fun w => ?_⟩
    rw [z1] at w
    have g := (IsF.good h.1.1 (p := μ 5 0 2) (by rw [w] at q2; exact q2)).1
    rw [S.leve, y5, y6, S.nme]
    refine ⟨fun l hl => ?_, fun l hl c a x0 x1 z0 z1 => ?_⟩
    · have e : Agr (Nt μ l) (Nt ν l) := ⟨⟨(f 11 l 0 (by omega) (by omega)).symm, (f 11 l 1 (by omega) (by omega)).symm, fun g _ _ => (f 13 l g (by omega) (by omega)).symm, fun s _ _ => (f 14 l s (by omega) (by omega)).symm⟩, (f 11 l 2 (by omega) (by omega)).symm, fun s _ _ => ⟨(f 15 l s (by omega) (by omega)).symm, (f 16 l s (by omega) (by omega)).symm, (f 17 l s (by omega) (by omega)).symm⟩, fun e _ _ => (f 18 l e (by omega) (by omega)).symm, fun c _ _ => ⟨(f 19 l c (by omega) (by omega)).symm, (f 20 l c (by omega) (by omega)).symm⟩⟩
      exact ((q5 w).1 l hl).tr e (lev_good g l).1.2.1.1
    · rw [f 11 l 0 (by omega) (by omega)] at x1
      rw [f 12 l _ (by omega) (by omega)]
      exact (q5 w).2 l hl c a x0 x1 z0 z1
theorem fgs {ν : Mm} (k : Nat) (l i : Int) (h : k ≠ 3) : mset (mset (mset ν 3 0 4 0) 3 0 5 0) 3 0 6 0 k l i = ν k l i := by rw [mset_k h, mset_k h, mset_k h]
theorem fgz {ν : Mm} : mset (mset (mset ν 3 0 4 0) 3 0 5 0) 3 0 6 0 3 0 4 = 0 ∧ mset (mset (mset ν 3 0 4 0) 3 0 5 0) 3 0 6 0 3 0 5 = 0 ∧ mset (mset (mset ν 3 0 4 0) 3 0 5 0) 3 0 6 0 3 0 6 = 0 := by
  refine ⟨?_, ?_, mset_eq⟩
  · rw [mset_i (by omega), mset_i (by omega)]; exact mset_eq
  · rw [mset_i (by omega)]; exact mset_eq

set_option maxRecDepth 100000 in
set_option maxHeartbeats 4000000 in
theorem x_row {μ : Mm} (a n : Int) (ha : inR a) (hn : inR n) : Mc mX5_row 6 [vR 0 0, vI a, vI n] μ (fun r ν => ((¬ (0 ≤ a ∧ a < 3) ∨ 8 < n) ∧ r = some (vI (-102)) ∧ ν = μ) ∨ (((0 ≤ a ∧ a < 3) ∧ n < 0) ∧ r = some (vI (-10 - 3)) ∧ ν = mset μ 0 0 2 3) ∨ (((0 ≤ a ∧ a < 3) ∧ 0 ≤ n ∧ n ≤ 8) ∧ r = some (vI (n)) ∧ ν = mfun (mset (mset μ 1 0 1 a) 1 0 2 n) 2 0 (fun j => if 0 ≤ j ∧ j < 8 then 0 else μ 2 0 j))) := by
  refine Mc.of (L := [some (vR 0 0), some (vI a), some (vI n)]) (by decide +kernel) (by simp [leL, entA, isLong, mX5_row]) (by simp [entA, isLong, mX5_row]) ?_
  refine e_iload_n 1 (dec_at dX5_row 0) rfl rfl ?_
  refine e_callSr (M' := mX5_isLane) (dec_at dX5_row 1) mlX5_27 (c_isLane a ha) oX5_isLane sX5_isLane rfl rfl (by decide) (by decide) (Nat.le_of_ble_eq_true rfl) ?_
  refine e_beq 13 (dec_at dX5_row 2) (by decide) (fun h4 => ?_) (fun h4 => ?_)
  · refine e_bipush (dec_at dX5_row 6) (by decide) ?_
    refine e_ireturn (dec_at dX5_row 7) rfl ?_
    exact Or.inl (⟨by omega, rfl, rfl⟩)
  · refine e_iload_n 2 (dec_at dX5_row 3) rfl rfl ?_
    refine e_bipush (dec_at dX5_row 4) (by decide) ?_
    refine e_icmp_le 16 (dec_at dX5_row 5) (by decide) (by omega) (by omega) (fun h10 => ?_) (fun h10 => ?_)
    · refine e_iload_n 2 (dec_at dX5_row 8) rfl rfl ?_
      refine e_if_ge 26 (dec_at dX5_row 9) (by decide) (by omega) (fun h17 => ?_) (fun h17 => ?_)
      · refine e_aload_n 0 (dec_at dX5_row 14) rfl rfl ?_
        refine e_getr 0 (dec_at dX5_row 15) flX5_12 rfl rfl ?_
        refine e_iload_n 1 (dec_at dX5_row 16) rfl rfl ?_
        refine e_iload_n 2 (dec_at dX5_row 17) rfl rfl ?_
        refine e_callVv (M' := mX3_renew) (dec_at dX5_row 18) mlX5_35 (c_renew a n ha hn) oX3_renew iX3_renew rfl rfl rfl rfl (by decide) (by decide) (Nat.le_of_ble_eq_true rfl) ?_
        refine e_iload_n 2 (dec_at dX5_row 19) rfl rfl ?_
        refine e_ireturn (dec_at dX5_row 20) rfl ?_
        exact Or.inr (Or.inr (⟨by omega, rfl, rfl⟩))
      · refine e_aload_n 0 (dec_at dX5_row 10) rfl rfl ?_
        refine e_iconst (dec_at dX5_row 11) ?_
        refine e_callVr (M' := mX5_fail) (dec_at dX5_row 12) mlX5_31 (c_fail 3 (by decide)) oX5_fail iX5_fail rfl rfl rfl rfl (by decide) (by decide) (Nat.le_of_ble_eq_true rfl) ?_
        refine e_ireturn (dec_at dX5_row 13) rfl ?_
        exact Or.inr (Or.inl (⟨by omega, rfl, rfl⟩))
    · refine e_bipush (dec_at dX5_row 6) (by decide) ?_
      refine e_ireturn (dec_at dX5_row 7) rfl ?_
      exact Or.inl (⟨by omega, rfl, rfl⟩)

set_option maxRecDepth 100000 in
set_option maxHeartbeats 4000000 in
theorem x_put {μ : Mm} (a i v : Int) (ha : inR a) (hi : inR i) (hv : inR v) (hr : XR μ) : Mc mX5_put 6 [vR 0 0, vI a, vI i, vI v] μ (fun r ν => (¬ (0 ≤ a ∧ a < 3) ∧ r = some (vI (-102)) ∧ ν = μ) ∨ (((0 ≤ a ∧ a < 3) ∧ μ 1 0 2 = -1) ∧ r = some (vI (-10 - 1)) ∧ ν = mset μ 0 0 2 1) ∨ (((0 ≤ a ∧ a < 3) ∧ μ 1 0 2 ≠ -1 ∧ a ≠ μ 1 0 1) ∧ r = some (vI (-10 - 4)) ∧ ν = mset μ 0 0 2 4) ∨ (((0 ≤ a ∧ a < 3) ∧ μ 1 0 2 ≠ -1 ∧ a = μ 1 0 1 ∧ ¬ (0 ≤ i ∧ i < μ 1 0 2)) ∧ r = some (vI (-10 - 2)) ∧ ν = mset μ 0 0 2 2) ∨ (((0 ≤ a ∧ a < 3) ∧ μ 1 0 2 ≠ -1 ∧ a = μ 1 0 1 ∧ (0 ≤ i ∧ i < μ 1 0 2)) ∧ r = some (vI (1)) ∧ ν = mset μ 2 0 i (lc (μ 1 0 1) v))) := by
  refine Mc.of (L := [some (vR 0 0), some (vI a), some (vI i), some (vI v)]) (by decide +kernel) (by simp [leL, entA, isLong, mX5_put]) (by simp [entA, isLong, mX5_put]) ?_
  have hr1 := hr.1
  have hr2 := hr.2
  refine e_iload_n 1 (dec_at dX5_put 0) rfl rfl ?_
  refine e_callSr (M' := mX5_isLane) (dec_at dX5_put 1) mlX5_27 (c_isLane a ha) oX5_isLane sX5_isLane rfl rfl (by decide) (by decide) (Nat.le_of_ble_eq_true rfl) ?_
  refine e_bne 10 (dec_at dX5_put 2) (by decide) (fun h4 => ?_) (fun h4 => ?_)
  · refine e_aload_n 0 (dec_at dX5_put 5) rfl rfl ?_
    refine e_getr 0 (dec_at dX5_put 6) flX5_12 rfl rfl ?_
    refine e_callVr (M' := mX3_isLost) (dec_at dX5_put 7) mlX5_39 c_isLost oX3_isLost iX3_isLost rfl rfl rfl rfl (by decide) (by decide) (Nat.le_of_ble_eq_true rfl) ?_
    refine e_beq 26 (dec_at dX5_put 8) (by decide) (fun h17 => ?_) (fun h17 => ?_)
    · refine e_iload_n 1 (dec_at dX5_put 13) rfl rfl ?_
      refine e_aload_n 0 (dec_at dX5_put 14) rfl rfl ?_
      refine e_getr 0 (dec_at dX5_put 15) flX5_12 rfl rfl ?_
      refine e_geti 1 1 (dec_at dX5_put 16) flX5_43 rfl rfl rfl (fun r31 => ?_)
      refine e_icmp_eq 43 (dec_at dX5_put 17) (by decide) (by omega) (by omega) (fun h34 => ?_) (fun h34 => ?_)
      · refine e_iload_n 2 (dec_at dX5_put 22) rfl rfl ?_
        refine e_if_lt 58 (dec_at dX5_put 23) (by decide) (by omega) (fun h44 => ?_) (fun h44 => ?_)
        · refine e_aload_n 0 (dec_at dX5_put 29) rfl rfl ?_
          refine e_iconst (dec_at dX5_put 30) ?_
          refine e_callVr (M' := mX5_fail) (dec_at dX5_put 31) mlX5_31 (c_fail 2 (by decide)) oX5_fail iX5_fail rfl rfl rfl rfl (by decide) (by decide) (Nat.le_of_ble_eq_true rfl) ?_
          refine e_ireturn (dec_at dX5_put 32) rfl ?_
          exact Or.inr (Or.inr (Or.inr (Or.inl (⟨by omega, rfl, rfl⟩))))
        · refine e_iload_n 2 (dec_at dX5_put 24) rfl rfl ?_
          refine e_aload_n 0 (dec_at dX5_put 25) rfl rfl ?_
          refine e_getr 0 (dec_at dX5_put 26) flX5_12 rfl rfl ?_
          refine e_geti 2 2 (dec_at dX5_put 27) flX5_46 rfl rfl rfl (fun r52 => ?_)
          refine e_icmp_lt 64 (dec_at dX5_put 28) (by decide) (by omega) (by omega) (fun h55 => ?_) (fun h55 => ?_)
          · refine e_aload_n 0 (dec_at dX5_put 33) rfl rfl ?_
            refine e_getr 0 (dec_at dX5_put 34) flX5_12 rfl rfl ?_
            refine e_iload_n 2 (dec_at dX5_put 35) rfl rfl ?_
            refine e_iload_n 3 (dec_at dX5_put 36) rfl rfl ?_
            refine e_callVv (M' := mX3_write) (dec_at dX5_put 37) mlX5_49 (c_write i v (by omega) hv) oX3_write iX3_write rfl rfl rfl rfl (by decide) (by decide) (Nat.le_of_ble_eq_true rfl) ?_
            refine e_iconst (dec_at dX5_put 38) ?_
            refine e_ireturn (dec_at dX5_put 39) rfl ?_
            exact Or.inr (Or.inr (Or.inr (Or.inr (⟨by omega, rfl, rfl⟩))))
          · refine e_aload_n 0 (dec_at dX5_put 29) rfl rfl ?_
            refine e_iconst (dec_at dX5_put 30) ?_
            refine e_callVr (M' := mX5_fail) (dec_at dX5_put 31) mlX5_31 (c_fail 2 (by decide)) oX5_fail iX5_fail rfl rfl rfl rfl (by decide) (by decide) (Nat.le_of_ble_eq_true rfl) ?_
            refine e_ireturn (dec_at dX5_put 32) rfl ?_
            exact Or.inr (Or.inr (Or.inr (Or.inl (⟨by omega, rfl, rfl⟩))))
      · refine e_aload_n 0 (dec_at dX5_put 18) rfl rfl ?_
        refine e_iconst (dec_at dX5_put 19) ?_
        refine e_callVr (M' := mX5_fail) (dec_at dX5_put 20) mlX5_31 (c_fail 4 (by decide)) oX5_fail iX5_fail rfl rfl rfl rfl (by decide) (by decide) (Nat.le_of_ble_eq_true rfl) ?_
        refine e_ireturn (dec_at dX5_put 21) rfl ?_
        exact Or.inr (Or.inr (Or.inl (⟨by omega, rfl, rfl⟩)))
    · refine e_aload_n 0 (dec_at dX5_put 9) rfl rfl ?_
      refine e_iconst (dec_at dX5_put 10) ?_
      refine e_callVr (M' := mX5_fail) (dec_at dX5_put 11) mlX5_31 (c_fail 1 (by decide)) oX5_fail iX5_fail rfl rfl rfl rfl (by decide) (by decide) (Nat.le_of_ble_eq_true rfl) ?_
      refine e_ireturn (dec_at dX5_put 12) rfl ?_
      exact Or.inr (Or.inl (⟨by omega, rfl, rfl⟩))
  · refine e_bipush (dec_at dX5_put 3) (by decide) ?_
    refine e_ireturn (dec_at dX5_put 4) rfl ?_
    exact Or.inl (⟨by omega, rfl, rfl⟩)

set_option maxRecDepth 100000 in
set_option maxHeartbeats 4000000 in
theorem x_lose {μ : Mm} : Mc mX5_lose 6 [vR 0 0] μ (fun r ν => (μ 1 0 2 = -1 ∧ r = some (vI (-10 - 1)) ∧ ν = mset μ 0 0 2 1) ∨ (μ 1 0 2 ≠ -1 ∧ r = some (vI (1)) ∧ ν = mset μ 1 0 2 (-1))) := by
  refine Mc.of (L := [some (vR 0 0)]) (by decide +kernel) (by simp [leL, entA, isLong, mX5_lose]) (by simp [entA, isLong, mX5_lose]) ?_
  refine e_aload_n 0 (dec_at dX5_lose 0) rfl rfl ?_
  refine e_getr 0 (dec_at dX5_lose 1) flX5_12 rfl rfl ?_
  refine e_callVr (M' := mX3_isLost) (dec_at dX5_lose 2) mlX5_39 c_isLost oX3_isLost iX3_isLost rfl rfl rfl rfl (by decide) (by decide) (Nat.le_of_ble_eq_true rfl) ?_
  refine e_beq 16 (dec_at dX5_lose 3) (by decide) (fun h7 => ?_) (fun h7 => ?_)
  · refine e_aload_n 0 (dec_at dX5_lose 8) rfl rfl ?_
    refine e_getr 0 (dec_at dX5_lose 9) flX5_12 rfl rfl ?_
    refine e_iconst (dec_at dX5_lose 10) ?_
    refine e_put 2 2 (dec_at dX5_lose 11) flX5_46 fpX3_2 rfl rfl rfl (by omega) (fit_int _) ?_
    refine e_iconst (dec_at dX5_lose 12) ?_
    refine e_ireturn (dec_at dX5_lose 13) rfl ?_
    exact Or.inr (⟨by omega, rfl, rfl⟩)
  · refine e_aload_n 0 (dec_at dX5_lose 4) rfl rfl ?_
    refine e_iconst (dec_at dX5_lose 5) ?_
    refine e_callVr (M' := mX5_fail) (dec_at dX5_lose 6) mlX5_31 (c_fail 1 (by decide)) oX5_fail iX5_fail rfl rfl rfl rfl (by decide) (by decide) (Nat.le_of_ble_eq_true rfl) ?_
    refine e_ireturn (dec_at dX5_lose 7) rfl ?_
    exact Or.inl (⟨by omega, rfl, rfl⟩)

set_option maxRecDepth 100000 in
set_option maxHeartbeats 4000000 in
theorem x_corner {μ : Mm} (hI : XI μ) (h6 : P6 μ) (hr : XR μ) : Mc mX5_corner 6 [vR 0 0] μ (fun r ν => (μ 1 0 2 = -1 ∧ r = some (vI (-10 - 1)) ∧ ν = mset μ 0 0 2 1) ∨ ((μ 1 0 2 ≠ -1 ∧ μ 1 0 2 < 3) ∧ r = some (vI (-10 - 2)) ∧ ν = mset μ 0 0 2 2) ∨ ((3 ≤ μ 1 0 2 ∧ ¬ (∀ j, 0 ≤ j → j < 3 → -1000 ≤ μ 2 0 j ∧ μ 2 0 j ≤ 1000)) ∧ r = some (vI (-102)) ∧ ν = μ) ∨ ((3 ≤ μ 1 0 2 ∧ (∀ j, 0 ≤ j → j < 3 → -1000 ≤ μ 2 0 j ∧ μ 2 0 j ≤ 1000) ∧ 14 ≤ μ 11 0 0) ∧ r = some (vI (-104)) ∧ ν = μ) ∨ ((3 ≤ μ 1 0 2 ∧ (∀ j, 0 ≤ j → j < 3 → -1000 ≤ μ 2 0 j ∧ μ 2 0 j ≤ 1000) ∧ μ 11 0 0 < 14) ∧ r = some (vI (μ 11 0 0)) ∧ (∀ k l1 i, ¬ (l1 = 0 ∧ (k = 12 ∧ 3 * μ 11 0 0 ≤ i ∧ i ≤ 3 * μ 11 0 0 + 2 ∨ k = 11 ∧ i = 0) ∨ k = 3) → ν k l1 i = μ k l1 i) ∧ ν 11 0 0 = μ 11 0 0 + 1 ∧ (∀ a, 0 ≤ a → a < 3 → ν 12 0 (3 * μ 11 0 0 + a) = μ 2 0 a) ∧ XI ν ∧ P6 ν)) := by
  refine Mc.of (L := [some (vR 0 0), none]) (by decide +kernel) (by simp [leL, entA, isLong, mX5_corner]) (by simp [entA, isLong, mX5_corner]) ?_
  have hr1 := hr.1
  have hr2 := hr.2
  have hb := hI.1.un
  refine e_aload_n 0 (dec_at dX5_corner 0) rfl rfl ?_
  refine e_getr 1 (dec_at dX5_corner 1) flX5_19 rfl rfl ?_
  refine e_getr 1 (dec_at dX5_corner 2) flX5_52 rfl rfl ?_
  refine e_as1 (dec_at dX5_corner 3) (by decide) rfl ?_
  refine e_aload_n 0 (dec_at dX5_corner 4) rfl rfl ?_
  refine e_getr 0 (dec_at dX5_corner 5) flX5_12 rfl rfl ?_
  refine e_callVr (M' := mX3_isLost) (dec_at dX5_corner 6) mlX5_39 c_isLost oX3_isLost iX3_isLost rfl rfl rfl rfl (by decide) (by decide) (Nat.le_of_ble_eq_true rfl) ?_
  refine e_beq 24 (dec_at dX5_corner 7) (by decide) (fun h15 => ?_) (fun h15 => ?_)
  · refine e_aload_n 0 (dec_at dX5_corner 12) rfl rfl ?_
    refine e_getr 0 (dec_at dX5_corner 13) flX5_12 rfl rfl ?_
    refine e_geti 2 2 (dec_at dX5_corner 14) flX5_46 rfl rfl rfl (fun r28 => ?_)
    refine e_iconst (dec_at dX5_corner 15) ?_
    refine e_icmp_ge 41 (dec_at dX5_corner 16) (by decide) (by omega) (by omega) (fun h32 => ?_) (fun h32 => ?_)
    · refine e_aload_n 0 (dec_at dX5_corner 21) rfl rfl ?_
      refine e_getr 0 (dec_at dX5_corner 22) flX5_12 rfl rfl ?_
      refine e_iconst (dec_at dX5_corner 23) ?_
      refine e_sipush (dec_at dX5_corner 24) (by decide) ?_
      refine e_sipush (dec_at dX5_corner 25) (by decide) ?_
      refine e_callVr (M' := mX3_hasNumbersWithin) (dec_at dX5_corner 26) mlX5_56 (c_hasN 3 (-1000) 1000 (by omega) (by omega) (by decide) (by decide)) oX3_hasNumbersWithin iX3_hasNumbersWithin rfl rfl rfl rfl (by decide) (by decide) (Nat.le_of_ble_eq_true rfl) ?_
      refine e_bne 61 (dec_at dX5_corner 27) (by decide) (fun h55 => ?_) (fun h55 => ?_)
      · refine e_aload_n 1 (dec_at dX5_corner 30) rfl rfl ?_
        refine e_geti 0 0 (dec_at dX5_corner 31) flX5_60 rfl rfl rfl (fun r62 => ?_)
        refine e_bipush (dec_at dX5_corner 32) (by decide) ?_
        refine e_icmp_lt 73 (dec_at dX5_corner 33) (by decide) (by omega) (by omega) (fun h67 => ?_) (fun h67 => ?_)
        · refine e_aload_n 1 (dec_at dX5_corner 36) rfl rfl ?_
          refine e_aload_n 0 (dec_at dX5_corner 37) rfl rfl ?_
          refine e_getr 0 (dec_at dX5_corner 38) flX5_12 rfl rfl ?_
          refine e_getr 0 (dec_at dX5_corner 39) flX5_65 rfl rfl ?_
          refine e_callV (M' := mX2_addCorner) (dec_at dX5_corner 40) mlX5_69 (c_addCorner (μ := μ) (by omega)) oX2_addCorner iX2_addCorner rfl rfl rfl rfl (by decide) (by decide) (Nat.le_of_ble_eq_true rfl) (fun r ν hQ => ?_)
          obtain ⟨rfl, f, c1, c2⟩ := hQ
          show Ev mX5_corner 6 84 _ [] ν _
          refine e_aload_n 0 (dec_at dX5_corner 41) rfl rfl ?_
          refine e_getr 1 (dec_at dX5_corner 42) flX5_19 rfl rfl ?_
          refine e_callVv (M' := mX4_forgetShapes) (dec_at dX5_corner 43) mlX5_73 c_forgetShapes oX4_forgetShapes iX4_forgetShapes rfl rfl rfl rfl (by decide) (by decide) (Nat.le_of_ble_eq_true rfl) ?_
          refine e_aload_n 1 (dec_at dX5_corner 44) rfl rfl ?_
          refine e_getiv 0 0 (μ 11 0 0 + 1) (dec_at dX5_corner 45) flX5_60 rfl rfl rfl (by rw [fgs _ _ _ (by decide)]; exact c1) (fun r92 => ?_)
          refine e_iconst (dec_at dX5_corner 46) ?_
          refine e_isub (dec_at dX5_corner 47) ?_
          refine e_ireturn (dec_at dX5_corner 48) rfl ?_
          have F : ∀ k l1 i, ¬ (l1 = 0 ∧ (k = 12 ∧ 3 * μ 11 0 0 ≤ i ∧ i ≤ 3 * μ 11 0 0 + 2 ∨ k = 11 ∧ i = 0) ∨ k = 3) → mset (mset (mset ν 3 0 4 0) 3 0 5 0) 3 0 6 0 k l1 i = μ k l1 i := fun k l1 i z => by rw [fgs _ _ _ (by omega)]; exact f k l1 i (by omega)
          have F1 : mset (mset (mset ν 3 0 4 0) 3 0 5 0) 3 0 6 0 11 0 0 = μ 11 0 0 + 1 := by rw [fgs _ _ _ (by decide)]; exact c1
          have F2 : ∀ a, 0 ≤ a → a < 3 → mset (mset (mset ν 3 0 4 0) 3 0 5 0) 3 0 6 0 12 0 (3 * μ 11 0 0 + a) = μ 2 0 a := fun a a0 a1 => by rw [fgs _ _ _ (by decide)]; exact c2 a a0 a1
          have K := keep_corner hI h6 (by omega) F F1 (fun a a0 a1 => by rw [F2 a a0 a1]; exact h55 a a0 a1) fgz
          refine Or.inr (Or.inr (Or.inr (Or.inr ⟨⟨by omega, h55, by omega⟩, ?_, F, F1, F2, K.1, K.2⟩)))
          rw [show μ 11 0 0 + 1 - 1 = μ 11 0 0 by omega]
        · refine e_bipush (dec_at dX5_corner 34) (by decide) ?_
          refine e_ireturn (dec_at dX5_corner 35) rfl ?_
          exact Or.inr (Or.inr (Or.inr (Or.inl (⟨⟨by omega, h55, by omega⟩, rfl, rfl⟩))))
      · refine e_bipush (dec_at dX5_corner 28) (by decide) ?_
        refine e_ireturn (dec_at dX5_corner 29) rfl ?_
        exact Or.inr (Or.inr (Or.inl (⟨⟨by omega, h55⟩, rfl, rfl⟩)))
    · refine e_aload_n 0 (dec_at dX5_corner 17) rfl rfl ?_
      refine e_iconst (dec_at dX5_corner 18) ?_
      refine e_callVr (M' := mX5_fail) (dec_at dX5_corner 19) mlX5_31 (c_fail 2 (by decide)) oX5_fail iX5_fail rfl rfl rfl rfl (by decide) (by decide) (Nat.le_of_ble_eq_true rfl) ?_
      refine e_ireturn (dec_at dX5_corner 20) rfl ?_
      exact Or.inr (Or.inl (⟨by omega, rfl, rfl⟩))
  · refine e_aload_n 0 (dec_at dX5_corner 8) rfl rfl ?_
    refine e_iconst (dec_at dX5_corner 9) ?_
    refine e_callVr (M' := mX5_fail) (dec_at dX5_corner 10) mlX5_31 (c_fail 1 (by decide)) oX5_fail iX5_fail rfl rfl rfl rfl (by decide) (by decide) (Nat.le_of_ble_eq_true rfl) ?_
    refine e_ireturn (dec_at dX5_corner 11) rfl ?_
    exact Or.inl (⟨by omega, rfl, rfl⟩)

set_option maxRecDepth 100000 in
set_option maxHeartbeats 4000000 in
theorem x_place {μ : Mm} (c a v : Int) (hc : inR c) (ha : inR a) (hv : inR v) (hI : XI μ) (h6 : P6 μ) : Mc mX5_place 6 [vR 0 0, vI c, vI a, vI v] μ (fun r ν => (¬ ((0 ≤ c ∧ c < μ 11 0 0) ∧ (0 ≤ a ∧ a < 3)) ∧ r = some (vI (-101)) ∧ ν = μ) ∨ ((((0 ≤ c ∧ c < μ 11 0 0) ∧ (0 ≤ a ∧ a < 3)) ∧ ¬ (-1000 ≤ v ∧ v ≤ 1000)) ∧ r = some (vI (-102)) ∧ ν = μ) ∨ ((((0 ≤ c ∧ c < μ 11 0 0) ∧ (0 ≤ a ∧ a < 3)) ∧ (-1000 ≤ v ∧ v ≤ 1000)) ∧ r = some (vI (μ 12 0 (3 * c + a))) ∧ (∀ k l1 i, ¬ (k = 12 ∧ l1 = 0 ∧ i = 3 * c + a ∨ k = 3 ∧ l1 = 0 ∧ i = 6) → ν k l1 i = μ k l1 i) ∧ ν 12 0 (3 * c + a) = v ∧ XI ν ∧ P6 ν)) := by
  refine Mc.of (L := [some (vR 0 0), some (vI c), some (vI a), some (vI v), none, none]) (by decide +kernel) (by simp [leL, entA, isLong, mX5_place]) (by simp [entA, isLong, mX5_place]) ?_
  have e1 : capC 0 = 14 := rfl
  have hb := hI.1.un
  refine e_aload_n 0 (dec_at dX5_place 0) rfl rfl ?_
  refine e_getr 1 (dec_at dX5_place 1) flX5_19 rfl rfl ?_
  refine e_getr 1 (dec_at dX5_place 2) flX5_52 rfl rfl ?_
  refine e_as4 (dec_at dX5_place 3) (by decide) rfl ?_
  refine e_aload (dec_at dX5_place 4) rfl ?_
  refine e_iload_n 1 (dec_at dX5_place 5) rfl rfl ?_
  refine e_callVr (M' := mX2_hasCorner) (dec_at dX5_place 6) mlX5_76 (c_hasCorner (μ := μ) 0 c hc) oX2_hasCorner iX2_hasCorner rfl rfl rfl rfl (by decide) (by decide) (Nat.le_of_ble_eq_true rfl) ?_
  refine e_beq 25 (dec_at dX5_place 7) (by decide) (fun h15 => ?_) (fun h15 => ?_)
  · refine e_bipush (dec_at dX5_place 11) (by decide) ?_
    refine e_ireturn (dec_at dX5_place 12) rfl ?_
    exact Or.inl (⟨by omega, rfl, rfl⟩)
  · refine e_iload_n 2 (dec_at dX5_place 8) rfl rfl ?_
    refine e_callSr (M' := mX5_isAxis) (dec_at dX5_place 9) mlX5_79 (c_isAxis a ha) oX5_isAxis sX5_isAxis rfl rfl (by decide) (by decide) (Nat.le_of_ble_eq_true rfl) ?_
    refine e_bne 28 (dec_at dX5_place 10) (by decide) (fun h22 => ?_) (fun h22 => ?_)
    · refine e_iload_n 3 (dec_at dX5_place 13) rfl rfl ?_
      refine e_sipush (dec_at dX5_place 14) (by decide) ?_
      refine e_callSr (M' := mX5_isWithin) (dec_at dX5_place 15) mlX5_82 (c_isWithin v 1000 hv (by decide)) oX5_isWithin sX5_isWithin rfl rfl (by decide) (by decide) (Nat.le_of_ble_eq_true rfl) ?_
      refine e_bne 41 (dec_at dX5_place 16) (by decide) (fun h35 => ?_) (fun h35 => ?_)
      · refine e_aload (dec_at dX5_place 19) rfl ?_
        refine e_getr 3 (dec_at dX5_place 20) flX5_86 rfl rfl ?_
        refine e_iconst (dec_at dX5_place 21) ?_
        refine e_iload_n 1 (dec_at dX5_place 22) rfl rfl ?_
        refine e_imul (dec_at dX5_place 23) ?_
        refine e_iload_n 2 (dec_at dX5_place 24) rfl rfl ?_
        refine e_iadd (dec_at dX5_place 25) ?_
        refine e_iald (dec_at dX5_place 26) rfl (by decide) (aLk_12 _) (by omega) (fun r51 => ?_)
        refine e_is5 (dec_at dX5_place 27) (by decide) rfl ?_
        refine e_aload (dec_at dX5_place 28) rfl ?_
        refine e_getr 3 (dec_at dX5_place 29) flX5_86 rfl rfl ?_
        refine e_iconst (dec_at dX5_place 30) ?_
        refine e_iload_n 1 (dec_at dX5_place 31) rfl rfl ?_
        refine e_imul (dec_at dX5_place 32) ?_
        refine e_iload_n 2 (dec_at dX5_place 33) rfl rfl ?_
        refine e_iadd (dec_at dX5_place 34) ?_
        refine e_iload_n 3 (dec_at dX5_place 35) rfl rfl ?_
        refine e_iast (dec_at dX5_place 36) rfl (by decide) (aLk_12 _) (by omega) (by omega) ?_
        refine e_aload_n 0 (dec_at dX5_place 37) rfl rfl ?_
        refine e_getr 1 (dec_at dX5_place 38) flX5_19 rfl rfl ?_
        refine e_iconst (dec_at dX5_place 39) ?_
        refine e_callVv (M' := mX4_forgetNumbersAbove) (dec_at dX5_place 40) mlX5_87 (c_forgetNumbers 0 (by decide)) oX4_forgetNumbersAbove iX4_forgetNumbersAbove rfl rfl rfl rfl (by decide) (by decide) (Nat.le_of_ble_eq_true rfl) ?_
        refine e_iload (dec_at dX5_place 41) rfl ?_
        refine e_ireturn (dec_at dX5_place 42) rfl ?_
        have F : ∀ k l1 i, ¬ (k = 12 ∧ l1 = 0 ∧ i = 3 * c + a ∨ k = 3 ∧ l1 = 0 ∧ i = 6) → mset (mset μ 12 0 (3 * c + a) v) 3 0 6 (min (mset μ 12 0 (3 * c + a) v 3 0 6) 0) k l1 i = μ k l1 i := fun k l1 i z => by rw [mset_ne (by omega), mset_ne (by omega)]
        have F1 : mset (mset μ 12 0 (3 * c + a) v) 3 0 6 (min (mset μ 12 0 (3 * c + a) v 3 0 6) 0) 12 0 (3 * c + a) = v := by rw [mset_k (by decide)]; exact mset_eq
        have K := keep_place hI h6 (by omega) F F1 (by rw [mset_eq, mset_k (by decide)])
        exact Or.inr (Or.inr ⟨by omega, rfl, F, F1, K.1, K.2⟩)
      · refine e_bipush (dec_at dX5_place 17) (by decide) ?_
        refine e_ireturn (dec_at dX5_place 18) rfl ?_
        exact Or.inr (Or.inl (⟨by omega, rfl, rfl⟩))
    · refine e_bipush (dec_at dX5_place 11) (by decide) ?_
      refine e_ireturn (dec_at dX5_place 12) rfl ?_
      exact Or.inl (⟨by omega, rfl, rfl⟩)

set_option maxRecDepth 100000 in
set_option maxHeartbeats 4000000 in
theorem x_face {μ : Mm} (n : Int) (hn : inR n) (hI : XI μ) (h6 : P6 μ) (hr : XR μ) : Mc mX5_face 6 [vR 0 0, vI n] μ (fun r ν => (¬ (3 ≤ n ∧ n ≤ 6) ∧ r = some (vI (-102)) ∧ ν = μ) ∨ (((3 ≤ n ∧ n ≤ 6) ∧ μ 1 0 2 = -1) ∧ r = some (vI (-10 - 1)) ∧ ν = mset μ 0 0 2 1) ∨ (((3 ≤ n ∧ n ≤ 6) ∧ μ 1 0 2 ≠ -1 ∧ μ 1 0 2 < n) ∧ r = some (vI (-10 - 2)) ∧ ν = mset μ 0 0 2 2) ∨ (((3 ≤ n ∧ n ≤ 6) ∧ n ≤ μ 1 0 2 ∧ ¬ (∀ j, 0 ≤ j → j < n → 0 ≤ μ 2 0 j ∧ μ 2 0 j ≤ μ 11 0 0 - 1)) ∧ r = some (vI (-101)) ∧ ν = μ) ∨ (((3 ≤ n ∧ n ≤ 6) ∧ n ≤ μ 1 0 2 ∧ (∀ j, 0 ≤ j → j < n → 0 ≤ μ 2 0 j ∧ μ 2 0 j ≤ μ 11 0 0 - 1) ∧ 14 ≤ μ 11 0 1) ∧ r = some (vI (-104)) ∧ ν = μ) ∨ (((3 ≤ n ∧ n ≤ 6) ∧ n ≤ μ 1 0 2 ∧ (∀ j, 0 ≤ j → j < n → 0 ≤ μ 2 0 j ∧ μ 2 0 j ≤ μ 11 0 0 - 1) ∧ μ 11 0 1 < 14) ∧ r = some (vI (μ 11 0 1 + 1)) ∧ (∀ k l1 i, ¬ (l1 = 0 ∧ ((k = 14 ∨ k = 15) ∧ μ 13 0 (μ 11 0 1) ≤ i ∧ i < μ 13 0 (μ 11 0 1) + n ∨ k = 11 ∧ i = 1 ∨ k = 13 ∧ i = μ 11 0 1 + 1) ∨ k = 3) → ν k l1 i = μ k l1 i) ∧ ν 11 0 1 = μ 11 0 1 + 1 ∧ ν 13 0 (μ 11 0 1 + 1) = μ 13 0 (μ 11 0 1) + n ∧ (∀ j, 0 ≤ j → j < n → ν 14 0 (μ 13 0 (μ 11 0 1) + j) = μ 2 0 j) ∧ XI ν ∧ P6 ν)) := by
  refine Mc.of (L := [some (vR 0 0), some (vI n), none]) (by decide +kernel) (by simp [leL, entA, isLong, mX5_face]) (by simp [entA, isLong, mX5_face]) ?_
  have hr1 := hr.1
  have hr2 := hr.2
  have hb := hI.1.un
  have n0 := hI.1.nb.2.2.1
  have hn6 := h6.n hb.2.2.1 _ (μ 11 0 1) rfl hb.2.1.1 (Int.le_refl _)
  refine e_aload_n 0 (dec_at dX5_face 0) rfl rfl ?_
  refine e_getr 1 (dec_at dX5_face 1) flX5_19 rfl rfl ?_
  refine e_getr 1 (dec_at dX5_face 2) flX5_52 rfl rfl ?_
  refine e_as2 (dec_at dX5_face 3) (by decide) rfl ?_
  refine e_iload_n 1 (dec_at dX5_face 4) rfl rfl ?_
  refine e_iconst (dec_at dX5_face 5) ?_
  refine e_icmp_lt 19 (dec_at dX5_face 6) (by decide) (by omega) (by omega) (fun h10 => ?_) (fun h10 => ?_)
  · refine e_bipush (dec_at dX5_face 10) (by decide) ?_
    refine e_ireturn (dec_at dX5_face 11) rfl ?_
    exact Or.inl (⟨by omega, rfl, rfl⟩)
  · refine e_iload_n 1 (dec_at dX5_face 7) rfl rfl ?_
    refine e_bipush (dec_at dX5_face 8) (by decide) ?_
    refine e_icmp_le 22 (dec_at dX5_face 9) (by decide) (by omega) (by omega) (fun h16 => ?_) (fun h16 => ?_)
    · refine e_aload_n 0 (dec_at dX5_face 12) rfl rfl ?_
      refine e_getr 0 (dec_at dX5_face 13) flX5_12 rfl rfl ?_
      refine e_callVr (M' := mX3_isLost) (dec_at dX5_face 14) mlX5_39 c_isLost oX3_isLost iX3_isLost rfl rfl rfl rfl (by decide) (by decide) (Nat.le_of_ble_eq_true rfl) ?_
      refine e_beq 38 (dec_at dX5_face 15) (by decide) (fun h29 => ?_) (fun h29 => ?_)
      · refine e_aload_n 0 (dec_at dX5_face 20) rfl rfl ?_
        refine e_getr 0 (dec_at dX5_face 21) flX5_12 rfl rfl ?_
        refine e_geti 2 2 (dec_at dX5_face 22) flX5_46 rfl rfl rfl (fun r42 => ?_)
        refine e_iload_n 1 (dec_at dX5_face 23) rfl rfl ?_
        refine e_icmp_ge 55 (dec_at dX5_face 24) (by decide) (by omega) (by omega) (fun h46 => ?_) (fun h46 => ?_)
        · refine e_aload_n 0 (dec_at dX5_face 29) rfl rfl ?_
          refine e_getr 0 (dec_at dX5_face 30) flX5_12 rfl rfl ?_
          refine e_iload_n 1 (dec_at dX5_face 31) rfl rfl ?_
          refine e_iconst (dec_at dX5_face 32) ?_
          refine e_aload_n 2 (dec_at dX5_face 33) rfl rfl ?_
          refine e_geti 0 0 (dec_at dX5_face 34) flX5_60 rfl rfl rfl (fun r62 => ?_)
          refine e_iconst (dec_at dX5_face 35) ?_
          refine e_isub (dec_at dX5_face 36) ?_
          refine e_callVr (M' := mX3_hasNumbersWithin) (dec_at dX5_face 37) mlX5_56 (c_hasN n 0 (μ 11 0 0 - 1) (by omega) (by omega) (by decide) (by omega)) oX3_hasNumbersWithin iX3_hasNumbersWithin rfl rfl rfl rfl (by decide) (by decide) (Nat.le_of_ble_eq_true rfl) ?_
          refine e_bne 76 (dec_at dX5_face 38) (by decide) (fun h70 => ?_) (fun h70 => ?_)
          · refine e_aload_n 2 (dec_at dX5_face 41) rfl rfl ?_
            refine e_geti 1 1 (dec_at dX5_face 42) flX5_91 rfl rfl rfl (fun r77 => ?_)
            refine e_bipush (dec_at dX5_face 43) (by decide) ?_
            refine e_icmp_lt 88 (dec_at dX5_face 44) (by decide) (by omega) (by omega) (fun h82 => ?_) (fun h82 => ?_)
            · refine e_aload_n 2 (dec_at dX5_face 47) rfl rfl ?_
              refine e_aload_n 0 (dec_at dX5_face 48) rfl rfl ?_
              refine e_getr 0 (dec_at dX5_face 49) flX5_12 rfl rfl ?_
              refine e_getr 0 (dec_at dX5_face 50) flX5_65 rfl rfl ?_
              refine e_iload_n 1 (dec_at dX5_face 51) rfl rfl ?_
              refine e_callV (M' := mX2_addPlate) (dec_at dX5_face 52) mlX5_94 (c_addPlate (μ := μ) n (by omega) (by omega) (by omega)) oX2_addPlate iX2_addPlate rfl rfl rfl rfl (by decide) (by decide) (Nat.le_of_ble_eq_true rfl) (fun r ν hQ => ?_)
              obtain ⟨rfl, f, c1, c2, c3⟩ := hQ
              show Ev mX5_face 6 100 _ [] ν _
              refine e_aload_n 0 (dec_at dX5_face 53) rfl rfl ?_
              refine e_getr 1 (dec_at dX5_face 54) flX5_19 rfl rfl ?_
              refine e_callVv (M' := mX4_forgetShapes) (dec_at dX5_face 55) mlX5_73 c_forgetShapes oX4_forgetShapes iX4_forgetShapes rfl rfl rfl rfl (by decide) (by decide) (Nat.le_of_ble_eq_true rfl) ?_
              refine e_aload_n 2 (dec_at dX5_face 56) rfl rfl ?_
              refine e_getiv 1 1 (μ 11 0 1 + 1) (dec_at dX5_face 57) flX5_91 rfl rfl rfl (by rw [fgs _ _ _ (by decide)]; exact c1) (fun r108 => ?_)
              refine e_ireturn (dec_at dX5_face 58) rfl ?_
              have F : ∀ k l1 i, ¬ (l1 = 0 ∧ ((k = 14 ∨ k = 15) ∧ μ 13 0 (μ 11 0 1) ≤ i ∧ i < μ 13 0 (μ 11 0 1) + n ∨ k = 11 ∧ i = 1 ∨ k = 13 ∧ i = μ 11 0 1 + 1) ∨ k = 3) → (mset (mset (mset ν 3 0 4 0) 3 0 5 0) 3 0 6 0) k l1 i = μ k l1 i := fun k l1 i z => by rw [fgs _ _ _ (by omega)]; exact f k l1 i (by omega)
              have F1 : mset (mset (mset ν 3 0 4 0) 3 0 5 0) 3 0 6 0 11 0 1 = μ 11 0 1 + 1 := by rw [fgs _ _ _ (by decide)]; exact c1
              have F2 : mset (mset (mset ν 3 0 4 0) 3 0 5 0) 3 0 6 0 13 0 (μ 11 0 1 + 1) = μ 13 0 (μ 11 0 1) + n := by rw [fgs _ _ _ (by decide)]; exact c2
              have F3 : ∀ j, 0 ≤ j → j < n → mset (mset (mset ν 3 0 4 0) 3 0 5 0) 3 0 6 0 14 0 (μ 13 0 (μ 11 0 1) + j) = μ 2 0 j := fun j a0 a1 => by rw [fgs _ _ _ (by decide)]; exact (c3 j a0 a1).1
              have K := keep_face hI h6 (by omega) (by omega) F F1 F2 (fun j a0 a1 => by
                have z := h70 j a0 a1
                rw [F3 j a0 a1, fgs _ _ _ (by decide)]
                exact ⟨by omega, (c3 j a0 a1).2⟩) fgz
              exact Or.inr (Or.inr (Or.inr (Or.inr (Or.inr ⟨⟨by omega, by omega, h70, by omega⟩, rfl, F, F1, F2, F3, K.1, K.2⟩))))
            · refine e_bipush (dec_at dX5_face 45) (by decide) ?_
              refine e_ireturn (dec_at dX5_face 46) rfl ?_
              exact Or.inr (Or.inr (Or.inr (Or.inr (Or.inl (⟨⟨by omega, by omega, h70, by omega⟩, rfl, rfl⟩)))))
          · refine e_bipush (dec_at dX5_face 39) (by decide) ?_
            refine e_ireturn (dec_at dX5_face 40) rfl ?_
            exact Or.inr (Or.inr (Or.inr (Or.inl (⟨⟨by omega, by omega, h70⟩, rfl, rfl⟩))))
        · refine e_aload_n 0 (dec_at dX5_face 25) rfl rfl ?_
          refine e_iconst (dec_at dX5_face 26) ?_
          refine e_callVr (M' := mX5_fail) (dec_at dX5_face 27) mlX5_31 (c_fail 2 (by decide)) oX5_fail iX5_fail rfl rfl rfl rfl (by decide) (by decide) (Nat.le_of_ble_eq_true rfl) ?_
          refine e_ireturn (dec_at dX5_face 28) rfl ?_
          exact Or.inr (Or.inr (Or.inl (⟨by omega, rfl, rfl⟩)))
      · refine e_aload_n 0 (dec_at dX5_face 16) rfl rfl ?_
        refine e_iconst (dec_at dX5_face 17) ?_
        refine e_callVr (M' := mX5_fail) (dec_at dX5_face 18) mlX5_31 (c_fail 1 (by decide)) oX5_fail iX5_fail rfl rfl rfl rfl (by decide) (by decide) (Nat.le_of_ble_eq_true rfl) ?_
        refine e_ireturn (dec_at dX5_face 19) rfl ?_
        exact Or.inr (Or.inl (⟨by omega, rfl, rfl⟩))
    · refine e_bipush (dec_at dX5_face 10) (by decide) ?_
      refine e_ireturn (dec_at dX5_face 11) rfl ?_
      exact Or.inl (⟨by omega, rfl, rfl⟩)

set_option maxRecDepth 100000 in
set_option maxHeartbeats 4000000 in
theorem x_undo {μ : Mm} (hI : XI μ) (h6 : P6 μ) : Mc mX5_undo 6 [vR 0 0] μ (fun r ν => (μ 11 0 1 = 0 ∧ r = some (vI (-103)) ∧ ν = μ) ∨ (μ 11 0 1 ≠ 0 ∧ r = some (vI (μ 11 0 1 - 1)) ∧ (∀ k l1 i, ¬ (l1 = 0 ∧ k = 11 ∧ i = 1 ∨ k = 3) → ν k l1 i = μ k l1 i) ∧ ν 11 0 1 = μ 11 0 1 - 1 ∧ XI ν ∧ P6 ν)) := by
  refine Mc.of (L := [some (vR 0 0), none]) (by decide +kernel) (by simp [leL, entA, isLong, mX5_undo]) (by simp [entA, isLong, mX5_undo]) ?_
  have hb := hI.1.un
  refine e_aload_n 0 (dec_at dX5_undo 0) rfl rfl ?_
  refine e_getr 1 (dec_at dX5_undo 1) flX5_19 rfl rfl ?_
  refine e_getr 1 (dec_at dX5_undo 2) flX5_52 rfl rfl ?_
  refine e_as1 (dec_at dX5_undo 3) (by decide) rfl ?_
  refine e_aload_n 1 (dec_at dX5_undo 4) rfl rfl ?_
  refine e_geti 1 1 (dec_at dX5_undo 5) flX5_91 rfl rfl rfl (fun r9 => ?_)
  refine e_if_ne 18 (dec_at dX5_undo 6) (by decide) (by omega) (fun h12 => ?_) (fun h12 => ?_)
  · refine e_aload_n 1 (dec_at dX5_undo 9) rfl rfl ?_
    refine e_dup (dec_at dX5_undo 10) rfl ?_
    refine e_geti 1 1 (dec_at dX5_undo 11) flX5_91 rfl rfl rfl (fun r20 => ?_)
    refine e_iconst (dec_at dX5_undo 12) ?_
    refine e_isub (dec_at dX5_undo 13) ?_
    refine e_put 1 1 (dec_at dX5_undo 14) flX5_91 fpX2_1 rfl rfl rfl (by omega) (fit_int _) ?_
    refine e_aload_n 0 (dec_at dX5_undo 15) rfl rfl ?_
    refine e_getr 1 (dec_at dX5_undo 16) flX5_19 rfl rfl ?_
    refine e_callVv (M' := mX4_forgetShapes) (dec_at dX5_undo 17) mlX5_73 c_forgetShapes oX4_forgetShapes iX4_forgetShapes rfl rfl rfl rfl (by decide) (by decide) (Nat.le_of_ble_eq_true rfl) ?_
    refine e_aload_n 1 (dec_at dX5_undo 18) rfl rfl ?_
    refine e_getiv 1 1 (μ 11 0 1 - 1) (dec_at dX5_undo 19) flX5_91 rfl rfl rfl (by rw [fgs _ _ _ (by decide)]; exact mset_eq) (fun r36 => ?_)
    refine e_ireturn (dec_at dX5_undo 20) rfl ?_
    have F : ∀ k l1 i, ¬ (l1 = 0 ∧ k = 11 ∧ i = 1 ∨ k = 3) → mset (mset (mset (mset μ 11 0 1 (μ 11 0 1 - 1)) 3 0 4 0) 3 0 5 0) 3 0 6 0 k l1 i = μ k l1 i := fun k l1 i z => by rw [fgs _ _ _ (by omega), mset_ne (by omega)]
    have F1 : mset (mset (mset (mset μ 11 0 1 (μ 11 0 1 - 1)) 3 0 4 0) 3 0 5 0) 3 0 6 0 11 0 1 = μ 11 0 1 - 1 := by rw [fgs _ _ _ (by decide)]; exact mset_eq
    have K := keep_undo hI h6 (by omega) F F1 fgz
    exact Or.inr ⟨by omega, rfl, F, F1, K.1, K.2⟩
  · refine e_bipush (dec_at dX5_undo 7) (by decide) ?_
    refine e_ireturn (dec_at dX5_undo 8) rfl ?_
    exact Or.inl (⟨by omega, rfl, rfl⟩)

set_option maxRecDepth 100000 in
set_option maxHeartbeats 4000000 in
theorem x_turn {μ : Mm} (g : Int) (hg : inR g) (hI : XI μ) (h6 : P6 μ) : Mc mX5_turn 6 [vR 0 0, vI g] μ (fun r ν => (¬ (0 ≤ g ∧ g < μ 11 0 1) ∧ r = some (vI (-101)) ∧ ν = μ) ∨ ((0 ≤ g ∧ g < μ 11 0 1) ∧ r = some (vI (1)) ∧ (∀ k l1 i, ¬ (k = 14 ∧ l1 = 0 ∧ μ 13 0 g + 1 ≤ i ∧ i ≤ μ 13 0 (g + 1) - 1 ∨ k = 3) → ν k l1 i = μ k l1 i) ∧ (∀ i, μ 13 0 g + 1 ≤ i → i ≤ μ 13 0 (g + 1) - 1 → ν 14 0 i = μ 14 0 (μ 13 0 g + 1 + (μ 13 0 (g + 1) - 1) - i)) ∧ XI ν ∧ P6 ν)) := by
  refine Mc.of (L := [some (vR 0 0), some (vI g), none]) (by decide +kernel) (by simp [leL, entA, isLong, mX5_turn]) (by simp [entA, isLong, mX5_turn]) ?_
  have hb := hI.1.un
  refine e_aload_n 0 (dec_at dX5_turn 0) rfl rfl ?_
  refine e_getr 1 (dec_at dX5_turn 1) flX5_19 rfl rfl ?_
  refine e_getr 1 (dec_at dX5_turn 2) flX5_52 rfl rfl ?_
  refine e_as2 (dec_at dX5_turn 3) (by decide) rfl ?_
  refine e_aload_n 2 (dec_at dX5_turn 4) rfl rfl ?_
  refine e_iload_n 1 (dec_at dX5_turn 5) rfl rfl ?_
  refine e_callVr (M' := mX2_hasPlate) (dec_at dX5_turn 6) mlX5_98 (c_hasPlate (μ := μ) 0 g hg) oX2_hasPlate iX2_hasPlate rfl rfl rfl rfl (by decide) (by decide) (Nat.le_of_ble_eq_true rfl) ?_
  refine e_bne 19 (dec_at dX5_turn 7) (by decide) (fun h13 => ?_) (fun h13 => ?_)
  · have hf := hI.1.nb.2.2.2.1 g h13.1 h13.2
    have hf3 := hb.2.2.2.1 g h13.1 h13.2
    refine e_aload_n 2 (dec_at dX5_turn 10) rfl rfl ?_
    refine e_iload_n 1 (dec_at dX5_turn 11) rfl rfl ?_
    refine e_callV (M' := mX2_turnPlate) (dec_at dX5_turn 12) mlX5_101 (c_turnPlate (μ := μ) g (by omega) (by omega) (by omega) (by omega)) oX2_turnPlate iX2_turnPlate rfl rfl rfl rfl (by decide) (by decide) (Nat.le_of_ble_eq_true rfl) (fun r ν hQ => ?_)
    obtain ⟨rfl, f, c1⟩ := hQ
    show Ev mX5_turn 6 24 _ [] ν _
    refine e_aload_n 0 (dec_at dX5_turn 13) rfl rfl ?_
    refine e_getr 1 (dec_at dX5_turn 14) flX5_19 rfl rfl ?_
    refine e_callVv (M' := mX4_forgetShapes) (dec_at dX5_turn 15) mlX5_73 c_forgetShapes oX4_forgetShapes iX4_forgetShapes rfl rfl rfl rfl (by decide) (by decide) (Nat.le_of_ble_eq_true rfl) ?_
    refine e_iconst (dec_at dX5_turn 16) ?_
    refine e_ireturn (dec_at dX5_turn 17) rfl ?_
    have F : ∀ k l1 i, ¬ (k = 14 ∧ l1 = 0 ∧ μ 13 0 g + 1 ≤ i ∧ i ≤ μ 13 0 (g + 1) - 1 ∨ k = 3) → (mset (mset (mset ν 3 0 4 0) 3 0 5 0) 3 0 6 0) k l1 i = μ k l1 i := fun k l1 i z => by rw [fgs _ _ _ (by omega)]; exact f k l1 i (by omega)
    have F1 : ∀ i, μ 13 0 g + 1 ≤ i → i ≤ μ 13 0 (g + 1) - 1 → (mset (mset (mset ν 3 0 4 0) 3 0 5 0) 3 0 6 0) 14 0 i = μ 14 0 (μ 13 0 g + 1 + (μ 13 0 (g + 1) - 1) - i) := fun i i0 i1 => by rw [fgs _ _ _ (by decide)]; exact c1 i i0 i1
    have K := keep_turn hI h6 (by omega) F F1 fgz
    exact Or.inr ⟨by omega, rfl, F, F1, K.1, K.2⟩
  · refine e_bipush (dec_at dX5_turn 8) (by decide) ?_
    refine e_ireturn (dec_at dX5_turn 9) rfl ?_
    exact Or.inl (⟨by omega, rfl, rfl⟩)

set_option maxRecDepth 100000 in
set_option maxHeartbeats 4000000 in
theorem x_clear {μ : Mm} (hI : XI μ) : Mc mX5_clear 6 [vR 0 0] μ (fun r ν => r = some (vI (μ 11 0 0)) ∧ (∀ k l1 i, ¬ (l1 = 0 ∧ k = 11 ∧ (i = 0 ∨ i = 1) ∨ k = 7 ∨ k = 3) → ν k l1 i = μ k l1 i) ∧ ν 11 0 0 = 0 ∧ ν 11 0 1 = 0 ∧ ν 7 0 3 = 0 ∧ XI ν ∧ P6 ν) := by
  refine Mc.of (L := [some (vR 0 0), none, none]) (by decide +kernel) (by simp [leL, entA, isLong, mX5_clear]) (by simp [entA, isLong, mX5_clear]) ?_
  refine e_aload_n 0 (dec_at dX5_clear 0) rfl rfl ?_
  refine e_getr 1 (dec_at dX5_clear 1) flX5_19 rfl rfl ?_
  refine e_getr 1 (dec_at dX5_clear 2) flX5_52 rfl rfl ?_
  refine e_as1 (dec_at dX5_clear 3) (by decide) rfl ?_
  refine e_aload_n 1 (dec_at dX5_clear 4) rfl rfl ?_
  refine e_geti 0 0 (dec_at dX5_clear 5) flX5_60 rfl rfl rfl (fun r9 => ?_)
  refine e_is2 (dec_at dX5_clear 6) (by decide) rfl ?_
  refine e_aload_n 1 (dec_at dX5_clear 7) rfl rfl ?_
  refine e_iconst (dec_at dX5_clear 8) ?_
  refine e_put 0 0 (dec_at dX5_clear 9) flX5_60 fpX2_0 rfl rfl rfl (by omega) (fit_int _) ?_
  refine e_aload_n 1 (dec_at dX5_clear 10) rfl rfl ?_
  refine e_iconst (dec_at dX5_clear 11) ?_
  refine e_put 1 1 (dec_at dX5_clear 12) flX5_91 fpX2_1 rfl rfl rfl (by omega) (fit_int _) ?_
  refine e_aload_n 0 (dec_at dX5_clear 13) rfl rfl ?_
  refine e_getr 1 (dec_at dX5_clear 14) flX5_19 rfl rfl ?_
  refine e_getr 3 (dec_at dX5_clear 15) flX5_104 rfl rfl ?_
  refine e_iconst (dec_at dX5_clear 16) ?_
  refine e_put 3 3 (dec_at dX5_clear 17) flX5_108 fpX1_3 rfl rfl rfl (by omega) (fit_int _) ?_
  refine e_aload_n 0 (dec_at dX5_clear 18) rfl rfl ?_
  refine e_getr 1 (dec_at dX5_clear 19) flX5_19 rfl rfl ?_
  refine e_callVv (M' := mX4_forgetShapes) (dec_at dX5_clear 20) mlX5_73 c_forgetShapes oX4_forgetShapes iX4_forgetShapes rfl rfl rfl rfl (by decide) (by decide) (Nat.le_of_ble_eq_true rfl) ?_
  refine e_iload_n 2 (dec_at dX5_clear 21) rfl rfl ?_
  refine e_ireturn (dec_at dX5_clear 22) rfl ?_
  have F : ∀ k l1 i, ¬ (l1 = 0 ∧ k = 11 ∧ (i = 0 ∨ i = 1) ∨ k = 7 ∨ k = 3) → (mset (mset (mset (mset (mset (mset μ 11 0 0 0) 11 0 1 0) 7 0 3 0) 3 0 4 0) 3 0 5 0) 3 0 6 0) k l1 i = μ k l1 i := fun k l1 i z => by rw [fgs _ _ _ (by omega), mset_ne (by omega), mset_ne (by omega), mset_ne (by omega)]
  have F0 : mset (mset (mset (mset (mset (mset μ 11 0 0 0) 11 0 1 0) 7 0 3 0) 3 0 4 0) 3 0 5 0) 3 0 6 0 11 0 0 = 0 := by rw [fgs _ _ _ (by decide), mset_k (by decide), mset_i (by decide)]; exact mset_eq
  have F1 : mset (mset (mset (mset (mset (mset μ 11 0 0 0) 11 0 1 0) 7 0 3 0) 3 0 4 0) 3 0 5 0) 3 0 6 0 11 0 1 = 0 := by rw [fgs _ _ _ (by decide), mset_k (by decide)]; exact mset_eq
  have F7 : mset (mset (mset (mset (mset (mset μ 11 0 0 0) 11 0 1 0) 7 0 3 0) 3 0 4 0) 3 0 5 0) 3 0 6 0 7 0 3 = 0 := by rw [fgs _ _ _ (by decide)]; exact mset_eq
  have K := keep_clear hI F F0 F1 F7 fgz
  exact ⟨rfl, F, F0, F1, F7, K.1, K.2⟩

noncomputable def movedA (μ : Mm) (l c a : Int) : Int := if ¬ ((1 ≤ l ∧ l < 4 ∧ 0 ≤ c ∧ c ≤ 1000) ∧ (0 ≤ a ∧ a < 3)) then 0 else mvx μ l c a
def countA (μ : Mm) (w : Int) : Int := if w = 0 then μ 11 0 0 else if w = 1 then μ 11 0 1 else if w = 2 then μ 7 0 3 else if w = 3 then μ 1 0 2 else -102

set_option maxRecDepth 100000 in
set_option maxHeartbeats 4000000 in
theorem x_moved {μ : Mm} (l c a : Int) (hl : inR l) (hc : inR c) (ha : inR a) (hM : Mv μ) : Mc mX5_moved 6 [vR 0 0, vI l, vI c, vI a] μ (Rt (some (vI (movedA μ l c a))) μ) := by
  refine Mc.of (L := [some (vR 0 0), some (vI l), some (vI c), some (vI a), none]) (by decide +kernel) (by simp [leL, entA, isLong, mX5_moved]) (by simp [entA, isLong, mX5_moved]) ?_
  have hM1 := hM.1
  refine e_iload_n 1 (dec_at dX5_moved 0) rfl rfl ?_
  refine e_iload_n 2 (dec_at dX5_moved 1) rfl rfl ?_
  refine e_callSr (M' := mX5_isMovable) (dec_at dX5_moved 2) mlX5_193 (c_isMovable l c hl hc) oX5_isMovable sX5_isMovable rfl rfl (by decide) (by decide) (Nat.le_of_ble_eq_true rfl) ?_
  refine e_beq 15 (dec_at dX5_moved 3) (by decide) (fun h5 => ?_) (fun h5 => ?_)
  · refine e_iconst (dec_at dX5_moved 7) ?_
    refine e_ireturn (dec_at dX5_moved 8) rfl ?_
    refine ⟨congrArg (fun z => some (vI z)) ?_, rfl⟩
    unfold movedA
    exact (if_pos (by omega)).symm
  · refine e_iload_n 3 (dec_at dX5_moved 4) rfl rfl ?_
    refine e_callSr (M' := mX5_isAxis) (dec_at dX5_moved 5) mlX5_79 (c_isAxis a ha) oX5_isAxis sX5_isAxis rfl rfl (by decide) (by decide) (Nat.le_of_ble_eq_true rfl) ?_
    refine e_bne 17 (dec_at dX5_moved 6) (by decide) (fun h12 => ?_) (fun h12 => ?_)
    · refine e_aload_n 0 (dec_at dX5_moved 9) rfl rfl ?_
      refine e_getr 1 (dec_at dX5_moved 10) flX5_19 rfl rfl ?_
      refine e_getr 3 (dec_at dX5_moved 11) flX5_104 rfl rfl ?_
      refine e_iload_n 1 (dec_at dX5_moved 12) rfl rfl ?_
      refine e_iload_n 2 (dec_at dX5_moved 13) rfl rfl ?_
      refine e_callV (M' := mX1_find) (dec_at dX5_moved 14) mlX5_205 (c_find (μ := μ) l c hM (by omega) (by omega)) oX1_find iX1_find rfl rfl rfl rfl (by decide) (by decide) (Nat.le_of_ble_eq_true rfl) (fun r ν hQ => ?_)
      obtain ⟨rfl, v, rfl, hv⟩ := hQ
      have hv2 : (0 ≤ v ∧ v < ν 7 0 3) ∨ v = -1 := hv.imp (fun z => z.1) (fun z => z.1)
      show Ev mX5_moved 6 29 _ [vI v] ν _
      refine e_is4 (dec_at dX5_moved 15) (by decide) rfl ?_
      refine e_iload (dec_at dX5_moved 16) rfl ?_
      refine e_iconst (dec_at dX5_moved 17) ?_
      refine e_icmp_ne 41 (dec_at dX5_moved 18) (by decide) (by omega) (by omega) (fun h34 => ?_) (fun h34 => ?_)
      · refine e_aload_n 0 (dec_at dX5_moved 21) rfl rfl ?_
        refine e_getr 1 (dec_at dX5_moved 22) flX5_19 rfl rfl ?_
        refine e_getr 3 (dec_at dX5_moved 23) flX5_104 rfl rfl ?_
        refine e_getr 2 (dec_at dX5_moved 24) flX5_208 rfl rfl ?_
        refine e_iconst (dec_at dX5_moved 25) ?_
        refine e_iload (dec_at dX5_moved 26) rfl ?_
        refine e_imul (dec_at dX5_moved 27) ?_
        refine e_iload_n 3 (dec_at dX5_moved 28) rfl rfl ?_
        refine e_iadd (dec_at dX5_moved 29) ?_
        refine e_iald (dec_at dX5_moved 30) rfl (by decide) (aLk_10 _) (by omega) (fun r57 => ?_)
        refine e_ireturn (dec_at dX5_moved 31) rfl ?_
        refine ⟨congrArg (fun z => some (vI z)) ?_, rfl⟩
        unfold movedA
        refine Eq.trans ?_ (if_neg (by omega)).symm
        rcases hv with hv | hv
        · first | (exfalso; omega) | exact (mvx_at hM hv a).symm
        · first | (exfalso; omega) | exact (mvx_no (fun ⟨i, hi⟩ => hv.2 i hi.1.1 hi.1.2 hi.2) a).symm
      · refine e_iconst (dec_at dX5_moved 19) ?_
        refine e_goto 58 (dec_at dX5_moved 20) (by decide) ?_
        refine e_ireturn (dec_at dX5_moved 31) rfl ?_
        refine ⟨congrArg (fun z => some (vI z)) ?_, rfl⟩
        unfold movedA
        refine Eq.trans ?_ (if_neg (by omega)).symm
        rcases hv with hv | hv
        · first | (exfalso; omega) | exact (mvx_at hM hv a).symm
        · first | (exfalso; omega) | exact (mvx_no (fun ⟨i, hi⟩ => hv.2 i hi.1.1 hi.1.2 hi.2) a).symm
    · refine e_iconst (dec_at dX5_moved 7) ?_
      refine e_ireturn (dec_at dX5_moved 8) rfl ?_
      refine ⟨congrArg (fun z => some (vI z)) ?_, rfl⟩
      unfold movedA
      exact (if_pos (by omega)).symm

set_option maxRecDepth 100000 in
set_option maxHeartbeats 4000000 in
theorem x_cause {μ : Mm} : Mc mX5_cause 6 [vR 0 0] μ (Rt (some (vI (μ 0 0 2))) μ) := by
  refine Mc.of (L := [some (vR 0 0)]) (by decide +kernel) (by simp [leL, entA, isLong, mX5_cause]) (by simp [entA, isLong, mX5_cause]) ?_
  refine e_aload_n 0 (dec_at dX5_cause 0) rfl rfl ?_
  refine e_geti 2 2 (dec_at dX5_cause 1) flX5_23 rfl rfl rfl (fun r1 => ?_)
  refine e_ireturn (dec_at dX5_cause 2) rfl ?_
  exact ⟨rfl, rfl⟩

set_option maxRecDepth 100000 in
set_option maxHeartbeats 4000000 in
theorem x_count {μ : Mm} (w : Int) (hw : inR w) : Mc mX5_count 6 [vR 0 0, vI w] μ (Rt (some (vI (countA μ w))) μ) := by
  refine Mc.of (L := [some (vR 0 0), some (vI w)]) (by decide +kernel) (by simp [leL, entA, isLong, mX5_count]) (by simp [entA, isLong, mX5_count]) ?_
  refine e_iload_n 1 (dec_at dX5_count 0) rfl rfl ?_
  rcases (show w = 0 ∨ w = 1 ∨ w = 2 ∨ w = 3 ∨ ¬ (0 ≤ w ∧ w ≤ 3) by omega) with rfl | rfl | rfl | rfl | hw0
  · refine e_tableIn 32 (dec_at dX5_count 1) (by decide) (by decide) (by decide) rfl (by decide) ?_
    refine e_aload_n 0 (dec_at dX5_count 2) rfl rfl ?_
    refine e_getr 1 (dec_at dX5_count 3) flX5_19 rfl rfl ?_
    refine e_getr 1 (dec_at dX5_count 4) flX5_52 rfl rfl ?_
    refine e_geti 0 0 (dec_at dX5_count 5) flX5_60 rfl rfl rfl (fun r39 => ?_)
    refine e_ireturn (dec_at dX5_count 6) rfl ?_
    refine ⟨congrArg (fun z => some (vI z)) ?_, rfl⟩
    unfold countA
    exact (if_pos (by omega)).symm
  · refine e_tableIn 43 (dec_at dX5_count 1) (by decide) (by decide) (by decide) rfl (by decide) ?_
    refine e_aload_n 0 (dec_at dX5_count 7) rfl rfl ?_
    refine e_getr 1 (dec_at dX5_count 8) flX5_19 rfl rfl ?_
    refine e_getr 1 (dec_at dX5_count 9) flX5_52 rfl rfl ?_
    refine e_geti 1 1 (dec_at dX5_count 10) flX5_91 rfl rfl rfl (fun r50 => ?_)
    refine e_ireturn (dec_at dX5_count 11) rfl ?_
    refine ⟨congrArg (fun z => some (vI z)) ?_, rfl⟩
    unfold countA
    refine Eq.trans ?_ (if_neg (by omega)).symm
    exact (if_pos (by omega)).symm
  · refine e_tableIn 54 (dec_at dX5_count 1) (by decide) (by decide) (by decide) rfl (by decide) ?_
    refine e_aload_n 0 (dec_at dX5_count 12) rfl rfl ?_
    refine e_getr 1 (dec_at dX5_count 13) flX5_19 rfl rfl ?_
    refine e_getr 3 (dec_at dX5_count 14) flX5_104 rfl rfl ?_
    refine e_geti 3 3 (dec_at dX5_count 15) flX5_108 rfl rfl rfl (fun r61 => ?_)
    refine e_ireturn (dec_at dX5_count 16) rfl ?_
    refine ⟨congrArg (fun z => some (vI z)) ?_, rfl⟩
    unfold countA
    refine Eq.trans ?_ (if_neg (by omega)).symm
    refine Eq.trans ?_ (if_neg (by omega)).symm
    exact (if_pos (by omega)).symm
  · refine e_tableIn 65 (dec_at dX5_count 1) (by decide) (by decide) (by decide) rfl (by decide) ?_
    refine e_aload_n 0 (dec_at dX5_count 17) rfl rfl ?_
    refine e_getr 0 (dec_at dX5_count 18) flX5_12 rfl rfl ?_
    refine e_geti 2 2 (dec_at dX5_count 19) flX5_46 rfl rfl rfl (fun r69 => ?_)
    refine e_ireturn (dec_at dX5_count 20) rfl ?_
    refine ⟨congrArg (fun z => some (vI z)) ?_, rfl⟩
    unfold countA
    refine Eq.trans ?_ (if_neg (by omega)).symm
    refine Eq.trans ?_ (if_neg (by omega)).symm
    refine Eq.trans ?_ (if_neg (by omega)).symm
    exact (if_pos (by omega)).symm
  · refine e_tableOut 73 (dec_at dX5_count 1) (by omega) (by omega) (by decide) ?_
    refine e_bipush (dec_at dX5_count 21) (by decide) ?_
    refine e_ireturn (dec_at dX5_count 22) rfl ?_
    refine ⟨congrArg (fun z => some (vI z)) ?_, rfl⟩
    unfold countA
    refine Eq.trans ?_ (if_neg (by omega)).symm
    refine Eq.trans ?_ (if_neg (by omega)).symm
    refine Eq.trans ?_ (if_neg (by omega)).symm
    refine Eq.trans ?_ (if_neg (by omega)).symm
    rfl
end
section
/-! MOVES: the list after a call -/
def RK (μ : Mm) (q v : Int) : Prop := (0 ≤ v ∧ v ≤ μ 7 0 3) ∧ (∀ i, 0 ≤ i → i < v → ky μ i < q) ∧ (∀ i, v ≤ i → i < μ 7 0 3 → q ≤ ky μ i)
def SM (μ ν : Mm) (i j : Int) : Prop := ν 8 0 i = μ 8 0 j ∧ ν 9 0 i = μ 9 0 j ∧ ∀ a, 0 ≤ a → a < 3 → ν 10 0 (3 * i + a) = μ 10 0 (3 * j + a)
theorem SM.kye {μ ν : Mm} {i j : Int} (h : SM μ ν i j) : ky ν i = ky μ j := by unfold ky; rw [h.1, h.2.1]
theorem ky_iff {μ : Mm} (h : Mv μ) {i L c : Int} (h0 : 0 ≤ i) (h1 : i < μ 7 0 3) (hc : 0 ≤ c ∧ c ≤ 1000) : ky μ i = 10000 * L + c ↔ μ 8 0 i = L ∧ μ 9 0 i = c := by
  have := (h.2.1 i h0 h1).2.1
  unfold ky
  omega
theorem ky_ne {μ : Mm} (h : Mv μ) {L c : Int} (hc : 0 ≤ c ∧ c ≤ 1000) (hn : ∀ i, 0 ≤ i → i < μ 7 0 3 → ¬ (μ 8 0 i = L ∧ μ 9 0 i = c)) : ∀ i, 0 ≤ i → i < μ 7 0 3 → ky μ i ≠ 10000 * L + c :=
  fun i a b q => hn i a b ((ky_iff h a b hc).1 q)
theorem RK.at {μ : Mm} (h : Mv μ) {v q : Int} (h0 : 0 ≤ v ∧ v < μ 7 0 3) (hq : ky μ v = q) : RK μ q v := by
  refine ⟨by omega, fun i a b => ?_, fun i a b => ?_⟩
  · have := h.2.2 i v a b h0.2; omega
  · by_cases e : i = v
    · subst e; omega
    · have := h.2.2 v i h0.1 (by omega) b; omega
theorem RK_ex {μ : Mm} (h : Mv μ) (q : Int) : ∃ v, RK μ q v := by
  have key : ∀ (n : Nat) (i : Int), (μ 7 0 3 - i).toNat = n → 0 ≤ i → i ≤ μ 7 0 3 → (∀ j, 0 ≤ j → j < i → ky μ j < q) → ∃ v, RK μ q v := by
    intro n
    induction n with
    | zero => intro i hn h0 h1 hi; exact ⟨i, by omega, hi, fun j a b => by omega⟩
    | succ n ih =>
      intro i hn h0 h1 hi
      by_cases w : ky μ i < q
      · refine ih (i + 1) (by omega) (by omega) (by omega) (fun j a b => ?_)
        by_cases e : j = i
        · subst e; exact w
        · exact hi j a (by omega)
      · refine ⟨i, by omega, hi, fun j a b => ?_⟩
        by_cases e : j = i
        · subst e; omega
        · have := h.2.2 i j h0 (by omega) b; omega
  exact key _ 0 rfl (by omega) h.1.1 (fun j a b => by omega)
theorem SM.in {μ ν : Mm} (h : Mv μ) {i j : Int} (s : SM μ ν i j) (h0 : 0 ≤ j) (h1 : j < μ 7 0 3) : (1 ≤ ν 8 0 i ∧ ν 8 0 i ≤ 3) ∧ (0 ≤ ν 9 0 i ∧ ν 9 0 i ≤ 1000) ∧ ∀ a, 0 ≤ a → a < 3 → -1000 ≤ ν 10 0 (3 * i + a) ∧ ν 10 0 (3 * i + a) ≤ 1000 := by
  have z := h.2.1 j h0 h1
  rw [s.1, s.2.1]
  exact ⟨z.1, z.2.1, fun a a0 a1 => by rw [s.2.2 a a0 a1]; exact z.2.2 a a0 a1⟩
theorem mvx_cg {μ ν : Mm} (hμ : Mv μ) (hν : Mv ν) {l c : Int} (h1 : ∀ i, HM μ l c i → ∃ j, HM ν l c j ∧ SM μ ν j i) (h2 : ∀ j, HM ν l c j → ∃ i, HM μ l c i) : ∀ a, 0 ≤ a → a < 3 → mvx ν l c a = mvx μ l c a := by
  intro a a0 a1
  by_cases q : ∃ i, HM μ l c i
  · obtain ⟨i, hi⟩ := q
    obtain ⟨j, hj, s⟩ := h1 i hi
    rw [mvx_at hμ hi, mvx_at hν hj, s.2.2 a a0 a1]
  · rw [mvx_no q, mvx_no (fun ⟨j, hj⟩ => q (h2 j hj))]
/-- the new list's entries come from the old one's by p, but for those at key (L, c) -/
theorem Mv_same {μ ν : Mm} (h : Mv μ) (hn : ν 7 0 3 = μ 7 0 3) (s : ∀ i, 0 ≤ i → i < μ 7 0 3 → SM μ ν i i) : Mv ν ∧ ∀ l c a, 0 ≤ a → a < 3 → mvx ν l c a = mvx μ l c a := by
  have hv : Mv ν := ⟨by rw [hn]; exact h.1, fun i a b => (s i a (by omega)).in h a (by omega), fun i j a b c => by rw [(s i a (by omega)).kye, (s j (by omega) (by omega)).kye]; exact h.2.2 i j a b (by omega)⟩
  refine ⟨hv, fun l c => mvx_cg h hv (fun i hi => ⟨i, ⟨by rw [hn]; exact hi.1, ?_⟩, s i hi.1.1 hi.1.2⟩) (fun j hj => ⟨j, ?_⟩)⟩
  · have z := s i hi.1.1 hi.1.2
    rw [z.1, z.2.1]; exact hi.2
  · rw [HM, hn] at hj
    have z := s j hj.1.1 hj.1.2
    rw [z.1, z.2.1] at hj
    exact hj
theorem Mv_drop {μ ν : Mm} {L v : Int} (h : Mv μ) (hv : 0 ≤ v ∧ v < μ 7 0 3) (hL : μ 8 0 v = L) (hn : ν 7 0 3 = μ 7 0 3 - 1) (s1 : ∀ i, 0 ≤ i → i < v → SM μ ν i i) (s2 : ∀ i, v ≤ i → i < μ 7 0 3 - 1 → SM μ ν i (i + 1)) : Mv ν ∧ ∀ l c a, l < L → 0 ≤ a → a < 3 → mvx ν l c a = mvx μ l c a := by
  have sx : ∀ i, 0 ≤ i → i < ν 7 0 3 → ∃ j, (0 ≤ j ∧ j < μ 7 0 3) ∧ SM μ ν i j ∧ ((i < v ∧ j = i) ∨ (v ≤ i ∧ j = i + 1)) := fun i a b => by
    by_cases q : i < v
    · exact ⟨i, by omega, s1 i a q, Or.inl ⟨q, rfl⟩⟩
    · exact ⟨i + 1, by omega, s2 i (by omega) (by omega), Or.inr ⟨by omega, rfl⟩⟩
  have hv' : Mv ν := by
    refine ⟨by have := h.1; omega, fun i a b => ?_, fun i j a b c => ?_⟩
    · obtain ⟨j, hj, s, _⟩ := sx i a b
      exact s.in h hj.1 hj.2
    · obtain ⟨i', hi, si, ci⟩ := sx i a (by omega)
      obtain ⟨j', hj, sj, cj⟩ := sx j (by omega) c
      rw [si.kye, sj.kye]
      exact h.2.2 i' j' hi.1 (by omega) hj.2
  refine ⟨hv', fun l c a hl => mvx_cg h hv' (fun i hi => ?_) (fun j hj => ?_) a⟩
  · have e : i ≠ v := fun e => by have := hi.2.1; rw [e] at this; omega
    by_cases q : i < v
    · have z := s1 i hi.1.1 q
      exact ⟨i, ⟨by have := hi.1; omega, by rw [z.1, z.2.1]; exact hi.2⟩, z⟩
    · have z := s2 (i - 1) (by omega) (by have := hi.1; omega)
      rw [show i - 1 + 1 = i by omega] at z
      exact ⟨i - 1, ⟨by have := hi.1; omega, by rw [z.1, z.2.1]; exact hi.2⟩, z⟩
  · obtain ⟨i, hi, s, _⟩ := sx j hj.1.1 hj.1.2
    exact ⟨i, hi, by rw [← s.1, ← s.2.1]; exact hj.2⟩
/-- the entry at v is new: (L, c) with its numbers in bounds -/
theorem Mv_put {μ ν : Mm} {L c v : Int} (h : Mv μ) (hL : 1 ≤ L ∧ L ≤ 3) (hc : 0 ≤ c ∧ c ≤ 1000) (hv : 0 ≤ v ∧ v < μ 7 0 3) (hk : μ 8 0 v = L ∧ μ 9 0 v = c) (hn : ν 7 0 3 = μ 7 0 3) (s : ∀ i, 0 ≤ i → i < μ 7 0 3 → i ≠ v → SM μ ν i i) (w : ν 8 0 v = L ∧ ν 9 0 v = c) (w2 : ∀ a, 0 ≤ a → a < 3 → -1000 ≤ ν 10 0 (3 * v + a) ∧ ν 10 0 (3 * v + a) ≤ 1000) : Mv ν ∧ ∀ l c a, l < L → 0 ≤ a → a < 3 → mvx ν l c a = mvx μ l c a := by
  have kk : ∀ i, 0 ≤ i → i < μ 7 0 3 → ky ν i = ky μ i := fun i a b => by
    by_cases q : i = v
    · subst q; unfold ky; rw [w.1, w.2, hk.1, hk.2]
    · exact (s i a b q).kye
  have hv' : Mv ν := by
    refine ⟨by rw [hn]; exact h.1, fun i a b => ?_, fun i j a b c => ?_⟩
    · by_cases q : i = v
      · subst q; rw [w.1, w.2]; exact ⟨hL, hc, w2⟩
      · exact (s i a (by omega) q).in h a (by omega)
    · rw [kk i a (by omega), kk j (by omega) (by omega)]
      exact h.2.2 i j a b (by omega)
  refine ⟨hv', fun l c a hl => mvx_cg h hv' (fun i hi => ?_) (fun j hj => ?_) a⟩
  · have e : i ≠ v := fun e => by have := hi.2.1; rw [e] at this; omega
    have z := s i hi.1.1 hi.1.2 e
    exact ⟨i, ⟨by rw [hn]; exact hi.1, by rw [z.1, z.2.1]; exact hi.2⟩, z⟩
  · have e : j ≠ v := fun e => by have := hj.2.1; rw [e] at this; omega
    have z := s j hj.1.1 (by have := hj.1; omega) e
    exact ⟨j, by have := hj.1; omega, by rw [← z.1, ← z.2.1]; exact hj.2⟩
theorem Mv_ins {μ ν : Mm} {L c v : Int} (h : Mv μ) (hL : 1 ≤ L ∧ L ≤ 3) (hc : 0 ≤ c ∧ c ≤ 1000) (hm : μ 7 0 3 < 40) (hr : RK μ (10000 * L + c) v) (hk : ∀ i, 0 ≤ i → i < μ 7 0 3 → ky μ i ≠ 10000 * L + c) (hn : ν 7 0 3 = μ 7 0 3 + 1) (s1 : ∀ i, 0 ≤ i → i < v → SM μ ν i i) (s2 : ∀ i, v < i → i ≤ μ 7 0 3 → SM μ ν i (i - 1)) (w : ν 8 0 v = L ∧ ν 9 0 v = c) (w2 : ∀ a, 0 ≤ a → a < 3 → -1000 ≤ ν 10 0 (3 * v + a) ∧ ν 10 0 (3 * v + a) ≤ 1000) : Mv ν ∧ ∀ l c a, l < L → 0 ≤ a → a < 3 → mvx ν l c a = mvx μ l c a := by
  have v0 := hr.1
  have sx : ∀ i, 0 ≤ i → i < ν 7 0 3 → i ≠ v → ∃ j, (0 ≤ j ∧ j < μ 7 0 3) ∧ SM μ ν i j ∧ ((i < v ∧ j = i) ∨ (v < i ∧ j = i - 1)) := fun i a b e => by
    by_cases q : i < v
    · exact ⟨i, by omega, s1 i a q, Or.inl ⟨q, rfl⟩⟩
    · exact ⟨i - 1, by omega, s2 i (by omega) (by omega), Or.inr ⟨by omega, rfl⟩⟩
  have kv : ky ν v = 10000 * L + c := by unfold ky; rw [w.1, w.2]
  have hv' : Mv ν := by
    refine ⟨by have := h.1; omega, fun i a b => ?_, fun i j a b c => ?_⟩
    · by_cases q : i = v
      · subst q; rw [w.1, w.2]; exact ⟨hL, hc, w2⟩
      · obtain ⟨j, hj, s, _⟩ := sx i a b q
        exact s.in h hj.1 hj.2
    · by_cases q : i = v
      · subst q
        obtain ⟨j', hj, sj, cj⟩ := sx j (by omega) c (by omega)
        rw [sj.kye, kv]
        have := hr.2.2 j' (by omega) hj.2
        have := hk j' hj.1 hj.2
        omega
      · obtain ⟨i', hi, si, ci⟩ := sx i a (by omega) q
        by_cases q2 : j = v
        · subst q2
          rw [si.kye, kv]
          exact hr.2.1 i' hi.1 (by omega)
        · obtain ⟨j', hj, sj, cj⟩ := sx j (by omega) c q2
          rw [si.kye, sj.kye]
          exact h.2.2 i' j' hi.1 (by omega) hj.2
  refine ⟨hv', fun l c a hl => mvx_cg h hv' (fun i hi => ?_) (fun j hj => ?_) a⟩
  · by_cases q : i < v
    · have z := s1 i hi.1.1 q
      exact ⟨i, ⟨by have := hi.1; omega, by rw [z.1, z.2.1]; exact hi.2⟩, z⟩
    · have z := s2 (i + 1) (by omega) (by have := hi.1; omega)
      rw [show i + 1 - 1 = i by omega] at z
      exact ⟨i + 1, ⟨by have := hi.1; omega, by rw [z.1, z.2.1]; exact hi.2⟩, z⟩
  · have e : j ≠ v := fun e => by have := hj.2.1; rw [e] at this; omega
    obtain ⟨i, hi, s, _⟩ := sx j hj.1.1 hj.1.2 e
    exact ⟨i, hi, by rw [← s.1, ← s.2.1]; exact hj.2⟩

/-- the list after a move of nothing -/
def MD0 (μ ν : Mm) (l c : Int) : Prop := ∃ v, RK μ (10000 * l + c) v ∧ (((∀ i, 0 ≤ i → i < μ 7 0 3 → ky μ i ≠ 10000 * l + c) ∧ ν 7 0 3 = μ 7 0 3 ∧ ∀ i, 0 ≤ i → i < μ 7 0 3 → SM μ ν i i) ∨ ((v < μ 7 0 3 ∧ ky μ v = 10000 * l + c) ∧ ν 7 0 3 = μ 7 0 3 - 1 ∧ (∀ i, 0 ≤ i → i < v → SM μ ν i i) ∧ (∀ i, v ≤ i → i < μ 7 0 3 - 1 → SM μ ν i (i + 1))))
/-- the list after a move of something -/
def MD1 (μ ν : Mm) (l c x y z : Int) : Prop := ∃ v, RK μ (10000 * l + c) v ∧ (ky ν v = 10000 * l + c ∧ ν 10 0 (3 * v) = x ∧ ν 10 0 (3 * v + 1) = y ∧ ν 10 0 (3 * v + 2) = z) ∧ (((v < μ 7 0 3 ∧ ky μ v = 10000 * l + c) ∧ ν 7 0 3 = μ 7 0 3 ∧ (∀ i, 0 ≤ i → i < μ 7 0 3 → i ≠ v → SM μ ν i i)) ∨ ((∀ i, 0 ≤ i → i < μ 7 0 3 → ky μ i ≠ 10000 * l + c) ∧ μ 7 0 3 < 40 ∧ ν 7 0 3 = μ 7 0 3 + 1 ∧ (∀ i, 0 ≤ i → i < v → SM μ ν i i) ∧ (∀ i, v < i → i ≤ μ 7 0 3 → SM μ ν i (i - 1))))
theorem mo_fin {μ ν : Mm} {l : Int} (hI : XI μ) (h6 : P6 μ) (hl : 1 ≤ l ∧ l ≤ 3) (F : (∀ k l1 i, ¬ (k = 7 ∨ k = 8 ∨ k = 9 ∨ k = 10) → ν k l1 i = μ k l1 i)) (hM : Mv ν ∧ ∀ j c a, j < l → 0 ≤ a → a < 3 → mvx ν j c a = mvx μ j c a) : (∀ k l1 i, ¬ (k = 7 ∨ k = 8 ∨ k = 9 ∨ k = 10 ∨ k = 3 ∧ l1 = 0 ∧ i = 6) → mset ν 3 0 6 (min (ν 3 0 6) (l - 1)) k l1 i = μ k l1 i) ∧ XI (mset ν 3 0 6 (min (ν 3 0 6) (l - 1))) ∧ P6 (mset ν 3 0 6 (min (ν 3 0 6) (l - 1))) := by
  have F' : ∀ k l1 i, ¬ (k = 7 ∨ k = 8 ∨ k = 9 ∨ k = 10 ∨ k = 3 ∧ l1 = 0 ∧ i = 6) → mset ν 3 0 6 (min (ν 3 0 6) (l - 1)) k l1 i = μ k l1 i := fun k l1 i q => by rw [mset_ne (by omega)]; exact F k l1 i (by omega)
  have S : SB ν (mset ν 3 0 6 (min (ν 3 0 6) (l - 1))) := fun k l i q => mset_k (by omega)
  exact ⟨F', keep_move hI h6 hl (S.mv hM.1) F' (fun j c a hj a0 a1 => by rw [S.mve]; exact hM.2 j c a hj a0 a1) (by rw [mset_eq, F 3 0 6 (by omega)])⟩
theorem SM.ms {μ ν : Mm} {i j w : Int} (h : SM μ ν i j) : SM μ (mset ν 3 0 6 w) i j := ⟨by rw [mset_k (by decide)]; exact h.1, by rw [mset_k (by decide)]; exact h.2.1, fun a a0 a1 => by rw [mset_k (by decide)]; exact h.2.2 a a0 a1⟩
theorem SM.m10 {μ ν : Mm} {i j v x y z : Int} (h : SM μ ν i j) (e : i ≠ v) : SM μ (mset (mset (mset ν 10 0 (3 * v) x) 10 0 (3 * v + 1) y) 10 0 (3 * v + 2) z) i j := ⟨by rw [mset_k (by decide), mset_k (by decide), mset_k (by decide)]; exact h.1, by rw [mset_k (by decide), mset_k (by decide), mset_k (by decide)]; exact h.2.1, fun a a0 a1 => by rw [mset_i (by omega), mset_i (by omega), mset_i (by omega)]; exact h.2.2 a a0 a1⟩
theorem SM.rf {μ : Mm} {i : Int} : SM μ μ i i := ⟨rfl, rfl, fun _ _ _ => rfl⟩

set_option maxRecDepth 100000 in
set_option maxHeartbeats 4000000 in
theorem x_move {μ : Mm} (l c x y z : Int) (hl : inR l) (hc : inR c) (hx : inR x) (hy : inR y) (hz : inR z) (hI : XI μ) (h6 : P6 μ) : Mc mX5_move 6 [vR 0 0, vI l, vI c, vI x, vI y, vI z] μ (fun r ν => (¬ (1 ≤ l ∧ l < 4 ∧ 0 ≤ c ∧ c ≤ 1000) ∧ r = some (vI (-101)) ∧ ν = μ) ∨ (((1 ≤ l ∧ l < 4 ∧ 0 ≤ c ∧ c ≤ 1000) ∧ ¬ ((-1000 ≤ x ∧ x ≤ 1000) ∧ (-1000 ≤ y ∧ y ≤ 1000) ∧ (-1000 ≤ z ∧ z ≤ 1000))) ∧ r = some (vI (-102)) ∧ ν = μ) ∨ (((1 ≤ l ∧ l < 4 ∧ 0 ≤ c ∧ c ≤ 1000) ∧ ((-1000 ≤ x ∧ x ≤ 1000) ∧ (-1000 ≤ y ∧ y ≤ 1000) ∧ (-1000 ≤ z ∧ z ≤ 1000)) ∧ (x = 0 ∧ y = 0 ∧ z = 0)) ∧ r = some (vI (ν 7 0 3)) ∧ (∀ k l1 i, ¬ (k = 7 ∨ k = 8 ∨ k = 9 ∨ k = 10 ∨ k = 3 ∧ l1 = 0 ∧ i = 6) → ν k l1 i = μ k l1 i) ∧ MD0 μ ν l c ∧ XI ν ∧ P6 ν) ∨ (((1 ≤ l ∧ l < 4 ∧ 0 ≤ c ∧ c ≤ 1000) ∧ ((-1000 ≤ x ∧ x ≤ 1000) ∧ (-1000 ≤ y ∧ y ≤ 1000) ∧ (-1000 ≤ z ∧ z ≤ 1000)) ∧ ¬ (x = 0 ∧ y = 0 ∧ z = 0)) ∧ (∀ i, 0 ≤ i → i < μ 7 0 3 → ky μ i ≠ 10000 * l + c) ∧ 40 ≤ μ 7 0 3 ∧ r = some (vI (-104)) ∧ ν = μ) ∨ (((1 ≤ l ∧ l < 4 ∧ 0 ≤ c ∧ c ≤ 1000) ∧ ((-1000 ≤ x ∧ x ≤ 1000) ∧ (-1000 ≤ y ∧ y ≤ 1000) ∧ (-1000 ≤ z ∧ z ≤ 1000)) ∧ ¬ (x = 0 ∧ y = 0 ∧ z = 0)) ∧ r = some (vI (ν 7 0 3)) ∧ (∀ k l1 i, ¬ (k = 7 ∨ k = 8 ∨ k = 9 ∨ k = 10 ∨ k = 3 ∧ l1 = 0 ∧ i = 6) → ν k l1 i = μ k l1 i) ∧ MD1 μ ν l c x y z ∧ XI ν ∧ P6 ν)) := by
  refine Mc.of (L := [some (vR 0 0), some (vI l), some (vI c), some (vI x), some (vI y), some (vI z), none, none]) (by decide +kernel) (by simp [leL, entA, isLong, mX5_move]) (by simp [entA, isLong, mX5_move]) ?_
  have hM := hI.2.2.1
  have hM1 := hM.1
  refine e_aload_n 0 (dec_at dX5_move 0) rfl rfl ?_
  refine e_getr 1 (dec_at dX5_move 1) flX5_19 rfl rfl ?_
  refine e_getr 3 (dec_at dX5_move 2) flX5_104 rfl rfl ?_
  refine e_as6 (dec_at dX5_move 3) (by decide) rfl ?_
  refine e_iload_n 1 (dec_at dX5_move 4) rfl rfl ?_
  refine e_iload_n 2 (dec_at dX5_move 5) rfl rfl ?_
  refine e_callSr (M' := mX5_isMovable) (dec_at dX5_move 6) mlX5_193 (c_isMovable l c hl hc) oX5_isMovable sX5_isMovable rfl rfl (by decide) (by decide) (Nat.le_of_ble_eq_true rfl) ?_
  refine e_bne 20 (dec_at dX5_move 7) (by decide) (fun h14 => ?_) (fun h14 => ?_)
  · refine e_iload_n 3 (dec_at dX5_move 10) rfl rfl ?_
    refine e_iload (dec_at dX5_move 11) rfl ?_
    refine e_iload (dec_at dX5_move 12) rfl ?_
    refine e_sipush (dec_at dX5_move 13) (by decide) ?_
    refine e_callSr (M' := mX5_areWithin) (dec_at dX5_move 14) mlX5_185 (c_areWithin x y z 1000 hx hy hz (by decide)) oX5_areWithin sX5_areWithin rfl rfl (by decide) (by decide) (Nat.le_of_ble_eq_true rfl) ?_
    refine e_bne 37 (dec_at dX5_move 15) (by decide) (fun h31 => ?_) (fun h31 => ?_)
    · refine e_iload_n 3 (dec_at dX5_move 18) rfl rfl ?_
      refine e_if_ne 61 (dec_at dX5_move 19) (by decide) (by omega) (fun h38 => ?_) (fun h38 => ?_)
      · refine e_aload (dec_at dX5_move 29) rfl ?_
        refine e_iload_n 1 (dec_at dX5_move 30) rfl rfl ?_
        refine e_iload_n 2 (dec_at dX5_move 31) rfl rfl ?_
        refine e_callV (M' := mX1_open) (dec_at dX5_move 32) mlX5_199 (c_mopen (μ := μ) l c hM (by omega) (by omega)) oX1_open iX1_open rfl rfl rfl rfl (by decide) (by decide) (Nat.le_of_ble_eq_true rfl) (fun r ν hQ => ?_)
        obtain ⟨v, rfl, ho⟩ := hQ
        show Ev mX5_move 6 68 _ [vI v] ν _
        have hv : (v = -1 ∧ ν = μ ∧ (∀ i, 0 ≤ i → i < μ 7 0 3 → ky μ i ≠ 10000 * l + c) ∧ 40 ≤ μ 7 0 3) ∨ ((0 ≤ v ∧ v < 40) ∧ RK μ (10000 * l + c) v ∧ (∀ k l1 i, ¬ (k = 7 ∨ k = 8 ∨ k = 9 ∨ k = 10) → ν k l1 i = μ k l1 i) ∧ (ν 8 0 v = l ∧ ν 9 0 v = c) ∧ (((v < μ 7 0 3 ∧ μ 8 0 v = l ∧ μ 9 0 v = c) ∧ ν 7 0 3 = μ 7 0 3 ∧ (∀ i, 0 ≤ i → i < μ 7 0 3 → i ≠ v → SM μ ν i i)) ∨ ((∀ i, 0 ≤ i → i < μ 7 0 3 → ky μ i ≠ 10000 * l + c) ∧ μ 7 0 3 < 40 ∧ ν 7 0 3 = μ 7 0 3 + 1 ∧ (∀ i, 0 ≤ i → i < v → SM μ ν i i) ∧ (∀ i, v < i → i ≤ μ 7 0 3 → SM μ ν i (i - 1))))) := by
          rcases ho with ⟨rfl, v1, v2, v3⟩ | ⟨hn, ⟨rfl, e, m⟩ | ⟨m, v1, v2, v3, f, n1, s1, w, s2⟩⟩
          · exact Or.inr ⟨by omega, RK.at hM v1 ((ky_iff hM v1.1 v1.2 (by omega)).2 ⟨v2, v3⟩), fun _ _ _ _ => rfl, ⟨v2, v3⟩, Or.inl ⟨⟨v1.2, v2, v3⟩, rfl, fun _ _ _ _ => SM.rf⟩⟩
          · exact Or.inl ⟨e, rfl, ky_ne hM (by omega) hn, m⟩
          · exact Or.inr ⟨by omega, ⟨v1, v2, v3⟩, fun k l1 i q => f k l1 i (by omega), w, Or.inr ⟨ky_ne hM (by omega) hn, m, n1, s1, s2⟩⟩
        have hvv : v = -1 ∨ (0 ≤ v ∧ v < 40) := hv.imp (fun q => q.1) (fun q => q.1)
        refine e_is7 (dec_at dX5_move 33) (by decide) rfl ?_
        refine e_iload (dec_at dX5_move 34) rfl ?_
        refine e_iconst (dec_at dX5_move 35) ?_
        refine e_icmp_ne 79 (dec_at dX5_move 36) (by decide) (by omega) (by omega) (fun h73 => ?_) (fun h73 => ?_)
        · refine e_aload (dec_at dX5_move 39) rfl ?_
          refine e_iload (dec_at dX5_move 40) rfl ?_
          refine e_iload_n 3 (dec_at dX5_move 41) rfl rfl ?_
          refine e_iload (dec_at dX5_move 42) rfl ?_
          refine e_iload (dec_at dX5_move 43) rfl ?_
          refine e_callVv (M' := mX1_write) (dec_at dX5_move 44) mlX5_202 (c_mwrite (μ := ν) v x y z (by omega) hx hy hz) oX1_write iX1_write rfl rfl rfl rfl (by decide) (by decide) (Nat.le_of_ble_eq_true rfl) ?_
          refine e_aload_n 0 (dec_at dX5_move 45) rfl rfl ?_
          refine e_getr 1 (dec_at dX5_move 46) flX5_19 rfl rfl ?_
          refine e_iload_n 1 (dec_at dX5_move 47) rfl rfl ?_
          refine e_iconst (dec_at dX5_move 48) ?_
          refine e_isub (dec_at dX5_move 49) ?_
          refine e_callVv (M' := mX4_forgetNumbersAbove) (dec_at dX5_move 50) mlX5_87 (c_forgetNumbers (l - 1) (by omega)) oX4_forgetNumbersAbove iX4_forgetNumbersAbove rfl rfl rfl rfl (by decide) (by decide) (Nat.le_of_ble_eq_true rfl) ?_
          refine e_aload (dec_at dX5_move 51) rfl ?_
          refine e_geti 3 3 (dec_at dX5_move 52) flX5_108 rfl rfl rfl (fun r103 => ?_)
          refine e_ireturn (dec_at dX5_move 53) rfl ?_
          rcases hv with ⟨e, _⟩ | ⟨v0, hr, hF, w, hor⟩
          · omega
          have w2 : ∀ a, 0 ≤ a → a < 3 → -1000 ≤ (mset (mset (mset ν 10 0 (3 * v) x) 10 0 (3 * v + 1) y) 10 0 (3 * v + 2) z) 10 0 (3 * v + a) ∧ (mset (mset (mset ν 10 0 (3 * v) x) 10 0 (3 * v + 1) y) 10 0 (3 * v + 2) z) 10 0 (3 * v + a) ≤ 1000 := fun a a0 a1 => by
            rcases (show a = 0 ∨ a = 1 ∨ a = 2 by omega) with rfl | rfl | rfl
            · rw [mset_i (by omega), mset_i (by omega), show 3 * v + 0 = 3 * v by omega, mset_eq]; omega
            · rw [mset_i (by omega), mset_eq]; omega
            · rw [mset_eq]; omega
          have q7 : (mset (mset (mset ν 10 0 (3 * v) x) 10 0 (3 * v + 1) y) 10 0 (3 * v + 2) z) 7 0 3 = ν 7 0 3 := by rw [mset_k (by decide), mset_k (by decide), mset_k (by decide)]
          have ww : (mset (mset (mset ν 10 0 (3 * v) x) 10 0 (3 * v + 1) y) 10 0 (3 * v + 2) z) 8 0 v = l ∧ (mset (mset (mset ν 10 0 (3 * v) x) 10 0 (3 * v + 1) y) 10 0 (3 * v + 2) z) 9 0 v = c := by
            rw [mset_k (by decide), mset_k (by decide), mset_k (by decide), mset_k (by decide), mset_k (by decide), mset_k (by decide)]; exact w
          have hD : Mv (mset (mset (mset ν 10 0 (3 * v) x) 10 0 (3 * v + 1) y) 10 0 (3 * v + 2) z) ∧ (∀ j c a, j < l → 0 ≤ a → a < 3 → mvx (mset (mset (mset ν 10 0 (3 * v) x) 10 0 (3 * v + 1) y) 10 0 (3 * v + 2) z) j c a = mvx μ j c a) := by
            rcases hor with ⟨p1, p2, p3⟩ | ⟨p1, p2, p3, p4, p5⟩
            · exact Mv_put hM (by omega) (by omega) ⟨v0.1, p1.1⟩ p1.2 (by rw [q7]; exact p2) (fun i a b e => (p3 i a b e).m10 e) ww w2
            · exact Mv_ins hM (by omega) (by omega) p2 hr p1 (by rw [q7]; exact p3) (fun i a b => (p4 i a b).m10 (by omega)) (fun i a b => (p5 i a b).m10 (by omega)) ww w2
          have K := mo_fin hI h6 (by omega) (fun k l1 i q => by rw [mset_k (by omega), mset_k (by omega), mset_k (by omega)]; exact hF k l1 i q) hD
          refine Or.inr (Or.inr (Or.inr (Or.inr ⟨by omega, ?_, K.1, ⟨v, hr, ⟨?_, ?_, ?_, ?_⟩, ?_⟩, K.2.1, K.2.2⟩)))
          · rw [mset_k (by decide), q7]
          · unfold ky
            rw [mset_k (k := 3) (by decide), mset_k (k := 3) (by decide), ww.1, ww.2]
          · rw [mset_k (by decide), mset_i (by omega), mset_i (by omega)]; exact mset_eq
          · rw [mset_k (by decide), mset_i (by omega)]; exact mset_eq
          · rw [mset_k (by decide)]; exact mset_eq
          · rcases hor with ⟨p1, p2, p3⟩ | ⟨p1, p2, p3, p4, p5⟩
            · exact Or.inl ⟨⟨p1.1, (ky_iff hM v0.1 p1.1 (by omega)).2 p1.2⟩, by rw [mset_k (by decide), q7]; exact p2, fun i a b e => ((p3 i a b e).m10 e).ms⟩
            · exact Or.inr ⟨p1, p2, by rw [mset_k (by decide), q7]; exact p3, fun i a b => ((p4 i a b).m10 (by omega)).ms, fun i a b => ((p5 i a b).m10 (by omega)).ms⟩
        · refine e_bipush (dec_at dX5_move 37) (by decide) ?_
          refine e_ireturn (dec_at dX5_move 38) rfl ?_
          rcases hv with ⟨e, rfl, q1, q2⟩ | hv
          · exact Or.inr (Or.inr (Or.inr (Or.inl ⟨by omega, q1, q2, rfl, rfl⟩)))
          · have := hv.1
            omega
      · refine e_iload (dec_at dX5_move 20) rfl ?_
        refine e_if_ne 61 (dec_at dX5_move 21) (by decide) (by omega) (fun h43 => ?_) (fun h43 => ?_)
        · refine e_aload (dec_at dX5_move 29) rfl ?_
          refine e_iload_n 1 (dec_at dX5_move 30) rfl rfl ?_
          refine e_iload_n 2 (dec_at dX5_move 31) rfl rfl ?_
          refine e_callV (M' := mX1_open) (dec_at dX5_move 32) mlX5_199 (c_mopen (μ := μ) l c hM (by omega) (by omega)) oX1_open iX1_open rfl rfl rfl rfl (by decide) (by decide) (Nat.le_of_ble_eq_true rfl) (fun r ν hQ => ?_)
          obtain ⟨v, rfl, ho⟩ := hQ
          show Ev mX5_move 6 68 _ [vI v] ν _
          have hv : (v = -1 ∧ ν = μ ∧ (∀ i, 0 ≤ i → i < μ 7 0 3 → ky μ i ≠ 10000 * l + c) ∧ 40 ≤ μ 7 0 3) ∨ ((0 ≤ v ∧ v < 40) ∧ RK μ (10000 * l + c) v ∧ (∀ k l1 i, ¬ (k = 7 ∨ k = 8 ∨ k = 9 ∨ k = 10) → ν k l1 i = μ k l1 i) ∧ (ν 8 0 v = l ∧ ν 9 0 v = c) ∧ (((v < μ 7 0 3 ∧ μ 8 0 v = l ∧ μ 9 0 v = c) ∧ ν 7 0 3 = μ 7 0 3 ∧ (∀ i, 0 ≤ i → i < μ 7 0 3 → i ≠ v → SM μ ν i i)) ∨ ((∀ i, 0 ≤ i → i < μ 7 0 3 → ky μ i ≠ 10000 * l + c) ∧ μ 7 0 3 < 40 ∧ ν 7 0 3 = μ 7 0 3 + 1 ∧ (∀ i, 0 ≤ i → i < v → SM μ ν i i) ∧ (∀ i, v < i → i ≤ μ 7 0 3 → SM μ ν i (i - 1))))) := by
            rcases ho with ⟨rfl, v1, v2, v3⟩ | ⟨hn, ⟨rfl, e, m⟩ | ⟨m, v1, v2, v3, f, n1, s1, w, s2⟩⟩
            · exact Or.inr ⟨by omega, RK.at hM v1 ((ky_iff hM v1.1 v1.2 (by omega)).2 ⟨v2, v3⟩), fun _ _ _ _ => rfl, ⟨v2, v3⟩, Or.inl ⟨⟨v1.2, v2, v3⟩, rfl, fun _ _ _ _ => SM.rf⟩⟩
            · exact Or.inl ⟨e, rfl, ky_ne hM (by omega) hn, m⟩
            · exact Or.inr ⟨by omega, ⟨v1, v2, v3⟩, fun k l1 i q => f k l1 i (by omega), w, Or.inr ⟨ky_ne hM (by omega) hn, m, n1, s1, s2⟩⟩
          have hvv : v = -1 ∨ (0 ≤ v ∧ v < 40) := hv.imp (fun q => q.1) (fun q => q.1)
          refine e_is7 (dec_at dX5_move 33) (by decide) rfl ?_
          refine e_iload (dec_at dX5_move 34) rfl ?_
          refine e_iconst (dec_at dX5_move 35) ?_
          refine e_icmp_ne 79 (dec_at dX5_move 36) (by decide) (by omega) (by omega) (fun h73 => ?_) (fun h73 => ?_)
          · refine e_aload (dec_at dX5_move 39) rfl ?_
            refine e_iload (dec_at dX5_move 40) rfl ?_
            refine e_iload_n 3 (dec_at dX5_move 41) rfl rfl ?_
            refine e_iload (dec_at dX5_move 42) rfl ?_
            refine e_iload (dec_at dX5_move 43) rfl ?_
            refine e_callVv (M' := mX1_write) (dec_at dX5_move 44) mlX5_202 (c_mwrite (μ := ν) v x y z (by omega) hx hy hz) oX1_write iX1_write rfl rfl rfl rfl (by decide) (by decide) (Nat.le_of_ble_eq_true rfl) ?_
            refine e_aload_n 0 (dec_at dX5_move 45) rfl rfl ?_
            refine e_getr 1 (dec_at dX5_move 46) flX5_19 rfl rfl ?_
            refine e_iload_n 1 (dec_at dX5_move 47) rfl rfl ?_
            refine e_iconst (dec_at dX5_move 48) ?_
            refine e_isub (dec_at dX5_move 49) ?_
            refine e_callVv (M' := mX4_forgetNumbersAbove) (dec_at dX5_move 50) mlX5_87 (c_forgetNumbers (l - 1) (by omega)) oX4_forgetNumbersAbove iX4_forgetNumbersAbove rfl rfl rfl rfl (by decide) (by decide) (Nat.le_of_ble_eq_true rfl) ?_
            refine e_aload (dec_at dX5_move 51) rfl ?_
            refine e_geti 3 3 (dec_at dX5_move 52) flX5_108 rfl rfl rfl (fun r103 => ?_)
            refine e_ireturn (dec_at dX5_move 53) rfl ?_
            rcases hv with ⟨e, _⟩ | ⟨v0, hr, hF, w, hor⟩
            · omega
            have w2 : ∀ a, 0 ≤ a → a < 3 → -1000 ≤ (mset (mset (mset ν 10 0 (3 * v) x) 10 0 (3 * v + 1) y) 10 0 (3 * v + 2) z) 10 0 (3 * v + a) ∧ (mset (mset (mset ν 10 0 (3 * v) x) 10 0 (3 * v + 1) y) 10 0 (3 * v + 2) z) 10 0 (3 * v + a) ≤ 1000 := fun a a0 a1 => by
              rcases (show a = 0 ∨ a = 1 ∨ a = 2 by omega) with rfl | rfl | rfl
              · rw [mset_i (by omega), mset_i (by omega), show 3 * v + 0 = 3 * v by omega, mset_eq]; omega
              · rw [mset_i (by omega), mset_eq]; omega
              · rw [mset_eq]; omega
            have q7 : (mset (mset (mset ν 10 0 (3 * v) x) 10 0 (3 * v + 1) y) 10 0 (3 * v + 2) z) 7 0 3 = ν 7 0 3 := by rw [mset_k (by decide), mset_k (by decide), mset_k (by decide)]
            have ww : (mset (mset (mset ν 10 0 (3 * v) x) 10 0 (3 * v + 1) y) 10 0 (3 * v + 2) z) 8 0 v = l ∧ (mset (mset (mset ν 10 0 (3 * v) x) 10 0 (3 * v + 1) y) 10 0 (3 * v + 2) z) 9 0 v = c := by
              rw [mset_k (by decide), mset_k (by decide), mset_k (by decide), mset_k (by decide), mset_k (by decide), mset_k (by decide)]; exact w
            have hD : Mv (mset (mset (mset ν 10 0 (3 * v) x) 10 0 (3 * v + 1) y) 10 0 (3 * v + 2) z) ∧ (∀ j c a, j < l → 0 ≤ a → a < 3 → mvx (mset (mset (mset ν 10 0 (3 * v) x) 10 0 (3 * v + 1) y) 10 0 (3 * v + 2) z) j c a = mvx μ j c a) := by
              rcases hor with ⟨p1, p2, p3⟩ | ⟨p1, p2, p3, p4, p5⟩
              · exact Mv_put hM (by omega) (by omega) ⟨v0.1, p1.1⟩ p1.2 (by rw [q7]; exact p2) (fun i a b e => (p3 i a b e).m10 e) ww w2
              · exact Mv_ins hM (by omega) (by omega) p2 hr p1 (by rw [q7]; exact p3) (fun i a b => (p4 i a b).m10 (by omega)) (fun i a b => (p5 i a b).m10 (by omega)) ww w2
            have K := mo_fin hI h6 (by omega) (fun k l1 i q => by rw [mset_k (by omega), mset_k (by omega), mset_k (by omega)]; exact hF k l1 i q) hD
            refine Or.inr (Or.inr (Or.inr (Or.inr ⟨by omega, ?_, K.1, ⟨v, hr, ⟨?_, ?_, ?_, ?_⟩, ?_⟩, K.2.1, K.2.2⟩)))
            · rw [mset_k (by decide), q7]
            · unfold ky
              rw [mset_k (k := 3) (by decide), mset_k (k := 3) (by decide), ww.1, ww.2]
            · rw [mset_k (by decide), mset_i (by omega), mset_i (by omega)]; exact mset_eq
            · rw [mset_k (by decide), mset_i (by omega)]; exact mset_eq
            · rw [mset_k (by decide)]; exact mset_eq
            · rcases hor with ⟨p1, p2, p3⟩ | ⟨p1, p2, p3, p4, p5⟩
              · exact Or.inl ⟨⟨p1.1, (ky_iff hM v0.1 p1.1 (by omega)).2 p1.2⟩, by rw [mset_k (by decide), q7]; exact p2, fun i a b e => ((p3 i a b e).m10 e).ms⟩
              · exact Or.inr ⟨p1, p2, by rw [mset_k (by decide), q7]; exact p3, fun i a b => ((p4 i a b).m10 (by omega)).ms, fun i a b => ((p5 i a b).m10 (by omega)).ms⟩
          · refine e_bipush (dec_at dX5_move 37) (by decide) ?_
            refine e_ireturn (dec_at dX5_move 38) rfl ?_
            rcases hv with ⟨e, rfl, q1, q2⟩ | hv
            · exact Or.inr (Or.inr (Or.inr (Or.inl ⟨by omega, q1, q2, rfl, rfl⟩)))
            · have := hv.1
              omega
        · refine e_iload (dec_at dX5_move 22) rfl ?_
          refine e_if_ne 61 (dec_at dX5_move 23) (by decide) (by omega) (fun h48 => ?_) (fun h48 => ?_)
          · refine e_aload (dec_at dX5_move 29) rfl ?_
            refine e_iload_n 1 (dec_at dX5_move 30) rfl rfl ?_
            refine e_iload_n 2 (dec_at dX5_move 31) rfl rfl ?_
            refine e_callV (M' := mX1_open) (dec_at dX5_move 32) mlX5_199 (c_mopen (μ := μ) l c hM (by omega) (by omega)) oX1_open iX1_open rfl rfl rfl rfl (by decide) (by decide) (Nat.le_of_ble_eq_true rfl) (fun r ν hQ => ?_)
            obtain ⟨v, rfl, ho⟩ := hQ
            show Ev mX5_move 6 68 _ [vI v] ν _
            have hv : (v = -1 ∧ ν = μ ∧ (∀ i, 0 ≤ i → i < μ 7 0 3 → ky μ i ≠ 10000 * l + c) ∧ 40 ≤ μ 7 0 3) ∨ ((0 ≤ v ∧ v < 40) ∧ RK μ (10000 * l + c) v ∧ (∀ k l1 i, ¬ (k = 7 ∨ k = 8 ∨ k = 9 ∨ k = 10) → ν k l1 i = μ k l1 i) ∧ (ν 8 0 v = l ∧ ν 9 0 v = c) ∧ (((v < μ 7 0 3 ∧ μ 8 0 v = l ∧ μ 9 0 v = c) ∧ ν 7 0 3 = μ 7 0 3 ∧ (∀ i, 0 ≤ i → i < μ 7 0 3 → i ≠ v → SM μ ν i i)) ∨ ((∀ i, 0 ≤ i → i < μ 7 0 3 → ky μ i ≠ 10000 * l + c) ∧ μ 7 0 3 < 40 ∧ ν 7 0 3 = μ 7 0 3 + 1 ∧ (∀ i, 0 ≤ i → i < v → SM μ ν i i) ∧ (∀ i, v < i → i ≤ μ 7 0 3 → SM μ ν i (i - 1))))) := by
              rcases ho with ⟨rfl, v1, v2, v3⟩ | ⟨hn, ⟨rfl, e, m⟩ | ⟨m, v1, v2, v3, f, n1, s1, w, s2⟩⟩
              · exact Or.inr ⟨by omega, RK.at hM v1 ((ky_iff hM v1.1 v1.2 (by omega)).2 ⟨v2, v3⟩), fun _ _ _ _ => rfl, ⟨v2, v3⟩, Or.inl ⟨⟨v1.2, v2, v3⟩, rfl, fun _ _ _ _ => SM.rf⟩⟩
              · exact Or.inl ⟨e, rfl, ky_ne hM (by omega) hn, m⟩
              · exact Or.inr ⟨by omega, ⟨v1, v2, v3⟩, fun k l1 i q => f k l1 i (by omega), w, Or.inr ⟨ky_ne hM (by omega) hn, m, n1, s1, s2⟩⟩
            have hvv : v = -1 ∨ (0 ≤ v ∧ v < 40) := hv.imp (fun q => q.1) (fun q => q.1)
            refine e_is7 (dec_at dX5_move 33) (by decide) rfl ?_
            refine e_iload (dec_at dX5_move 34) rfl ?_
            refine e_iconst (dec_at dX5_move 35) ?_
            refine e_icmp_ne 79 (dec_at dX5_move 36) (by decide) (by omega) (by omega) (fun h73 => ?_) (fun h73 => ?_)
            · refine e_aload (dec_at dX5_move 39) rfl ?_
              refine e_iload (dec_at dX5_move 40) rfl ?_
              refine e_iload_n 3 (dec_at dX5_move 41) rfl rfl ?_
              refine e_iload (dec_at dX5_move 42) rfl ?_
              refine e_iload (dec_at dX5_move 43) rfl ?_
              refine e_callVv (M' := mX1_write) (dec_at dX5_move 44) mlX5_202 (c_mwrite (μ := ν) v x y z (by omega) hx hy hz) oX1_write iX1_write rfl rfl rfl rfl (by decide) (by decide) (Nat.le_of_ble_eq_true rfl) ?_
              refine e_aload_n 0 (dec_at dX5_move 45) rfl rfl ?_
              refine e_getr 1 (dec_at dX5_move 46) flX5_19 rfl rfl ?_
              refine e_iload_n 1 (dec_at dX5_move 47) rfl rfl ?_
              refine e_iconst (dec_at dX5_move 48) ?_
              refine e_isub (dec_at dX5_move 49) ?_
              refine e_callVv (M' := mX4_forgetNumbersAbove) (dec_at dX5_move 50) mlX5_87 (c_forgetNumbers (l - 1) (by omega)) oX4_forgetNumbersAbove iX4_forgetNumbersAbove rfl rfl rfl rfl (by decide) (by decide) (Nat.le_of_ble_eq_true rfl) ?_
              refine e_aload (dec_at dX5_move 51) rfl ?_
              refine e_geti 3 3 (dec_at dX5_move 52) flX5_108 rfl rfl rfl (fun r103 => ?_)
              refine e_ireturn (dec_at dX5_move 53) rfl ?_
              rcases hv with ⟨e, _⟩ | ⟨v0, hr, hF, w, hor⟩
              · omega
              have w2 : ∀ a, 0 ≤ a → a < 3 → -1000 ≤ (mset (mset (mset ν 10 0 (3 * v) x) 10 0 (3 * v + 1) y) 10 0 (3 * v + 2) z) 10 0 (3 * v + a) ∧ (mset (mset (mset ν 10 0 (3 * v) x) 10 0 (3 * v + 1) y) 10 0 (3 * v + 2) z) 10 0 (3 * v + a) ≤ 1000 := fun a a0 a1 => by
                rcases (show a = 0 ∨ a = 1 ∨ a = 2 by omega) with rfl | rfl | rfl
                · rw [mset_i (by omega), mset_i (by omega), show 3 * v + 0 = 3 * v by omega, mset_eq]; omega
                · rw [mset_i (by omega), mset_eq]; omega
                · rw [mset_eq]; omega
              have q7 : (mset (mset (mset ν 10 0 (3 * v) x) 10 0 (3 * v + 1) y) 10 0 (3 * v + 2) z) 7 0 3 = ν 7 0 3 := by rw [mset_k (by decide), mset_k (by decide), mset_k (by decide)]
              have ww : (mset (mset (mset ν 10 0 (3 * v) x) 10 0 (3 * v + 1) y) 10 0 (3 * v + 2) z) 8 0 v = l ∧ (mset (mset (mset ν 10 0 (3 * v) x) 10 0 (3 * v + 1) y) 10 0 (3 * v + 2) z) 9 0 v = c := by
                rw [mset_k (by decide), mset_k (by decide), mset_k (by decide), mset_k (by decide), mset_k (by decide), mset_k (by decide)]; exact w
              have hD : Mv (mset (mset (mset ν 10 0 (3 * v) x) 10 0 (3 * v + 1) y) 10 0 (3 * v + 2) z) ∧ (∀ j c a, j < l → 0 ≤ a → a < 3 → mvx (mset (mset (mset ν 10 0 (3 * v) x) 10 0 (3 * v + 1) y) 10 0 (3 * v + 2) z) j c a = mvx μ j c a) := by
                rcases hor with ⟨p1, p2, p3⟩ | ⟨p1, p2, p3, p4, p5⟩
                · exact Mv_put hM (by omega) (by omega) ⟨v0.1, p1.1⟩ p1.2 (by rw [q7]; exact p2) (fun i a b e => (p3 i a b e).m10 e) ww w2
                · exact Mv_ins hM (by omega) (by omega) p2 hr p1 (by rw [q7]; exact p3) (fun i a b => (p4 i a b).m10 (by omega)) (fun i a b => (p5 i a b).m10 (by omega)) ww w2
              have K := mo_fin hI h6 (by omega) (fun k l1 i q => by rw [mset_k (by omega), mset_k (by omega), mset_k (by omega)]; exact hF k l1 i q) hD
              refine Or.inr (Or.inr (Or.inr (Or.inr ⟨by omega, ?_, K.1, ⟨v, hr, ⟨?_, ?_, ?_, ?_⟩, ?_⟩, K.2.1, K.2.2⟩)))
              · rw [mset_k (by decide), q7]
              · unfold ky
                rw [mset_k (k := 3) (by decide), mset_k (k := 3) (by decide), ww.1, ww.2]
              · rw [mset_k (by decide), mset_i (by omega), mset_i (by omega)]; exact mset_eq
              · rw [mset_k (by decide), mset_i (by omega)]; exact mset_eq
              · rw [mset_k (by decide)]; exact mset_eq
              · rcases hor with ⟨p1, p2, p3⟩ | ⟨p1, p2, p3, p4, p5⟩
                · exact Or.inl ⟨⟨p1.1, (ky_iff hM v0.1 p1.1 (by omega)).2 p1.2⟩, by rw [mset_k (by decide), q7]; exact p2, fun i a b e => ((p3 i a b e).m10 e).ms⟩
                · exact Or.inr ⟨p1, p2, by rw [mset_k (by decide), q7]; exact p3, fun i a b => ((p4 i a b).m10 (by omega)).ms, fun i a b => ((p5 i a b).m10 (by omega)).ms⟩
            · refine e_bipush (dec_at dX5_move 37) (by decide) ?_
              refine e_ireturn (dec_at dX5_move 38) rfl ?_
              rcases hv with ⟨e, rfl, q1, q2⟩ | hv
              · exact Or.inr (Or.inr (Or.inr (Or.inl ⟨by omega, q1, q2, rfl, rfl⟩)))
              · have := hv.1
                omega
          · refine e_aload (dec_at dX5_move 24) rfl ?_
            refine e_iload_n 1 (dec_at dX5_move 25) rfl rfl ?_
            refine e_iload_n 2 (dec_at dX5_move 26) rfl rfl ?_
            refine e_callV (M' := mX1_drop) (dec_at dX5_move 27) mlX5_196 (c_drop (μ := μ) l c hM (by omega) (by omega)) oX1_drop iX1_drop rfl rfl rfl rfl (by decide) (by decide) (Nat.le_of_ble_eq_true rfl) (fun r ν hQ => ?_)
            obtain ⟨rfl, hd⟩ := hQ
            show Ev mX5_move 6 58 _ [] ν _
            have hD : Mv ν ∧ (∀ j c a, j < l → 0 ≤ a → a < 3 → mvx ν j c a = mvx μ j c a) := by
              rcases hd with ⟨rfl, hn⟩ | ⟨v, v1, v2, f, n1, s1, s2⟩
              · exact ⟨hM, fun _ _ _ _ _ _ => rfl⟩
              · exact Mv_drop hM v1 v2.1 n1 s1 s2
            have hF : ∀ k l1 i, ¬ (k = 7 ∨ k = 8 ∨ k = 9 ∨ k = 10) → ν k l1 i = μ k l1 i := by
              rcases hd with ⟨rfl, hn⟩ | ⟨v, v1, v2, f, n1, s1, s2⟩
              · exact fun _ _ _ _ => rfl
              · exact fun k l1 i q => f k l1 i (by omega)
            refine e_goto 91 (dec_at dX5_move 28) (by decide) ?_
            refine e_aload_n 0 (dec_at dX5_move 45) rfl rfl ?_
            refine e_getr 1 (dec_at dX5_move 46) flX5_19 rfl rfl ?_
            refine e_iload_n 1 (dec_at dX5_move 47) rfl rfl ?_
            refine e_iconst (dec_at dX5_move 48) ?_
            refine e_isub (dec_at dX5_move 49) ?_
            refine e_callVv (M' := mX4_forgetNumbersAbove) (dec_at dX5_move 50) mlX5_87 (c_forgetNumbers (l - 1) (by omega)) oX4_forgetNumbersAbove iX4_forgetNumbersAbove rfl rfl rfl rfl (by decide) (by decide) (Nat.le_of_ble_eq_true rfl) ?_
            refine e_aload (dec_at dX5_move 51) rfl ?_
            refine e_geti 3 3 (dec_at dX5_move 52) flX5_108 rfl rfl rfl (fun r103 => ?_)
            refine e_ireturn (dec_at dX5_move 53) rfl ?_
            have K := mo_fin hI h6 (by omega) hF hD
            refine Or.inr (Or.inr (Or.inl ⟨by omega, ?_, K.1, ?_, K.2.1, K.2.2⟩))
            · rw [mset_k (by decide)]
            · rcases hd with ⟨rfl, hn⟩ | ⟨v, v1, v2, f, n1, s1, s2⟩
              · obtain ⟨v, hr⟩ := RK_ex hM (10000 * l + c)
                exact ⟨v, hr, Or.inl ⟨ky_ne hM (by omega) hn, mset_k (by decide), fun i _ _ => SM.rf.ms⟩⟩
              · exact ⟨v, RK.at hM v1 ((ky_iff hM v1.1 v1.2 (by omega)).2 v2), Or.inr ⟨⟨v1.2, (ky_iff hM v1.1 v1.2 (by omega)).2 v2⟩, by rw [mset_k (by decide)]; exact n1, fun i a b => SM.ms (s1 i a b), fun i a b => SM.ms (s2 i a b)⟩⟩
    · refine e_bipush (dec_at dX5_move 16) (by decide) ?_
      refine e_ireturn (dec_at dX5_move 17) rfl ?_
      exact Or.inr (Or.inl ⟨by omega, rfl, rfl⟩)
  · refine e_bipush (dec_at dX5_move 8) (by decide) ?_
    refine e_ireturn (dec_at dX5_move 9) rfl ?_
    exact Or.inl ⟨by omega, rfl, rfl⟩
end
section
/-! THE REFERENCE: its small methods -/
def gF (μ : Mm) (l f : Int) : Int := μ 27 0 (160 * l + f)
def gS (μ : Mm) (l f : Int) : Int := μ 28 0 (160 * l + f)
def gR (μ : Mm) (l s : Int) : Int := μ 29 0 (700 * l + s)
def gA (μ : Mm) (l e : Int) : Int := μ 30 0 (350 * l + e)
def gB (μ : Mm) (l e : Int) : Int := μ 31 0 (350 * l + e)
def gN (μ : Mm) (l c a : Int) : Int := μ 26 0 (3 * (200 * l + c) + a)
/-- level l of the reference holds the plates of the net B -/
def MP (μ : Mm) (l : Int) (B : Net) : Prop := ((0 ≤ l ∧ l ≤ 3) ∧ Bas B ∧ B 0 1 ≤ 160 ∧ nN B ≤ 700 ∧ B 0 0 ≤ 200) ∧ μ 23 0 l = B 0 0 ∧ μ 24 0 l = B 0 1 ∧ (∀ f, 0 ≤ f → f < B 0 1 → gF μ l f = B 2 f ∧ gS μ l f = B 2 (f + 1) - B 2 f) ∧ (∀ s, 0 ≤ s → s < nN B → gR μ l s = B 3 s)
/-- .. and its edges -/
def ME (μ : Mm) (l : Int) (B : Net) : Prop := (0 ≤ B 0 2 ∧ B 0 2 ≤ 350) ∧ μ 25 0 l = B 0 2 ∧ ∀ e, 0 ≤ e → e < B 0 2 → gA μ l e = B 3 (B 7 e) ∧ gB μ l e = B 3 (nx B (B 7 e))
theorem MP.fr {μ ν : Mm} {l : Int} {B : Net} (h : MP μ l B) (f23 : ν 23 0 l = μ 23 0 l) (f24 : ν 24 0 l = μ 24 0 l) (f27 : ∀ i, 160 * l ≤ i → i < 160 * l + 160 → ν 27 0 i = μ 27 0 i ∧ ν 28 0 i = μ 28 0 i) (f29 : ∀ i, 700 * l ≤ i → i < 700 * l + 700 → ν 29 0 i = μ 29 0 i) : MP ν l B := by
  obtain ⟨h1, h2, h3, h4, h5⟩ := h
  refine ⟨h1, by rw [f23]; exact h2, by rw [f24]; exact h3, fun f a b => ?_, fun s a b => ?_⟩
  · have z := f27 (160 * l + f) (by omega) (by omega)
    unfold gF gS at h4 ⊢
    rw [z.1, z.2]; exact h4 f a b
  · unfold gR at h5 ⊢
    rw [f29 (700 * l + s) (by omega) (by omega)]; exact h5 s a b
theorem MP.fr0 {μ ν : Mm} {l : Int} {B : Net} (h : MP μ l B) (f : ∀ (k : Nat) (i : Int), 23 ≤ k → k ≤ 29 → ν k 0 i = μ k 0 i) : MP ν l B :=
  h.fr (f 23 l (by omega) (by omega)) (f 24 l (by omega) (by omega)) (fun i _ _ => ⟨f 27 i (by omega) (by omega), f 28 i (by omega) (by omega)⟩) (fun i _ _ => f 29 i (by omega) (by omega))
theorem MP.at {μ : Mm} {l f : Int} {B : Net} (h : MP μ l B) (f0 : 0 ≤ f) (f1 : f < B 0 1) : (0 ≤ B 2 f ∧ B 2 f + 3 ≤ B 2 (f + 1) ∧ B 2 (f + 1) ≤ nN B) ∧ nN B ≤ 700 ∧ (0 ≤ l ∧ l ≤ 3) ∧ f < 160 := by
  obtain ⟨⟨h1, h2, h3, h4, h5⟩, _⟩ := h
  have h2 := h2.2.1
  have a := h2.le f0 (by omega)
  have b := h2.le (f := f + 1) (by omega) (by omega)
  have c := h2.2.2.1 f f0 f1
  omega
theorem MP.gp {μ : Mm} {l : Int} {B : Net} (h : MP μ l B) : GP B := h.1.2.1.2.1
theorem MP.rg {μ : Mm} {l s : Int} {B : Net} (h : MP μ l B) (h0 : 0 ≤ s) (h1 : s < nN B) : (0 ≤ B 3 s ∧ B 3 s < B 0 0) ∧ B 0 0 ≤ 200 ∧ (0 ≤ B 3 (nx B s) ∧ B 3 (nx B s) < B 0 0) := by
  have x := h.gp.nxr h0 h1
  exact ⟨h.1.2.1.2.2 s h0 h1, h.1.2.2.2.2, h.1.2.1.2.2 _ x.1.1 x.1.2⟩
theorem nx_at {B : Net} (h : GP B) {f k : Int} (f0 : 0 ≤ f) (f1 : f < B 0 1) (k0 : 0 ≤ k) (k1 : k < B 2 (f + 1) - B 2 f) : B 2 f + (k + 1) % (B 2 (f + 1) - B 2 f) = nx B (B 2 f + k) := by
  have e := h.pl f0 f1 (s := B 2 f + k) (by omega) (by omega)
  unfold nx nxF
  rw [e]
  by_cases q : k + 1 < B 2 (f + 1) - B 2 f
  · rw [if_pos (by omega), Int.emod_eq_of_lt (by omega) q]; omega
  · rw [if_neg (by omega), show k + 1 = B 2 (f + 1) - B 2 f by omega, Int.emod_self]; omega
theorem pv_at {B : Net} (h : GP B) {f k : Int} (f0 : 0 ≤ f) (f1 : f < B 0 1) (k0 : 0 ≤ k) (k1 : k < B 2 (f + 1) - B 2 f) : B 2 f + (k + (B 2 (f + 1) - B 2 f) - 1) % (B 2 (f + 1) - B 2 f) = pv B (B 2 f + k) := by
  have e := h.pl f0 f1 (s := B 2 f + k) (by omega) (by omega)
  unfold pv pvF
  rw [e]
  by_cases q : k = 0
  · subst q
    rw [if_neg (by omega), show 0 + (B 2 (f + 1) - B 2 f) - 1 = B 2 (f + 1) - B 2 f - 1 by omega, Int.emod_eq_of_lt (by omega) (by omega)]; omega
  · rw [if_pos (by omega), show k + (B 2 (f + 1) - B 2 f) - 1 = (k - 1) + (B 2 (f + 1) - B 2 f) by omega, Int.add_emod_right, Int.emod_eq_of_lt (by omega) (by omega)]; omega

set_option maxRecDepth 100000 in
set_option maxHeartbeats 4000000 in
theorem m_in {μ : Mm} (v a b : Int) (hv : inL v) (ha : inL a) (hb : inL b) : Mc mX6_in 0 [vL v, vL a, vL b] μ (Rt (some (vI (b01 (a ≤ v ∧ v ≤ b)))) μ) := by
  refine Mc.of (L := [some (vL v), none, some (vL a), none, some (vL b), none]) (by decide +kernel) (by simp [leL, entA, isLong, mX6_in]) (by simp [entA, isLong, mX6_in]) ?_
  refine e_lload_n 0 (dec_at dX6_in 0) rfl rfl ?_
  refine e_lload_n 2 (dec_at dX6_in 1) rfl rfl ?_
  refine e_lcmp (dec_at dX6_in 2) (by omega) (by omega) ?_
  refine e_clt 17 (dec_at dX6_in 3) (by decide) (fun h3 => ?_) (fun h3 => ?_)
  · refine e_iconst (dec_at dX6_in 10) ?_
    refine e_zreturn (dec_at dX6_in 11) rfl (by first | exact Or.inl rfl | exact Or.inr rfl | exact b01_or) ?_
    refine ⟨congrArg (fun z => some (vI z)) ?_, rfl⟩
    first | exact (b01_t (by omega)).symm | exact (b01_f (by omega)).symm
  · refine e_lload_n 0 (dec_at dX6_in 4) rfl rfl ?_
    refine e_lload (dec_at dX6_in 5) rfl ?_
    refine e_lcmp (dec_at dX6_in 6) (by omega) (by omega) ?_
    refine e_cgt 17 (dec_at dX6_in 7) (by decide) (fun h10 => ?_) (fun h10 => ?_)
    · refine e_iconst (dec_at dX6_in 10) ?_
      refine e_zreturn (dec_at dX6_in 11) rfl (by first | exact Or.inl rfl | exact Or.inr rfl | exact b01_or) ?_
      refine ⟨congrArg (fun z => some (vI z)) ?_, rfl⟩
      first | exact (b01_t (by omega)).symm | exact (b01_f (by omega)).symm
    · refine e_iconst (dec_at dX6_in 8) ?_
      refine e_goto 18 (dec_at dX6_in 9) (by decide) ?_
      refine e_zreturn (dec_at dX6_in 11) rfl (by first | exact Or.inl rfl | exact Or.inr rfl | exact b01_or) ?_
      refine ⟨congrArg (fun z => some (vI z)) ?_, rfl⟩
      first | exact (b01_t (by omega)).symm | exact (b01_f (by omega)).symm

set_option maxRecDepth 100000 in
set_option maxHeartbeats 4000000 in
theorem m_isLevel {μ : Mm} (a : Int) (ha : inR a) : Mc mX6_isLevel 1 [vI a] μ (Rt (some (vI (b01 (0 ≤ a ∧ a ≤ 3)))) μ) := by
  refine Mc.of (L := [some (vI a)]) (by decide +kernel) (by simp [leL, entA, isLong, mX6_isLevel]) (by simp [entA, isLong, mX6_isLevel]) ?_
  refine e_iload_n 0 (dec_at dX6_isLevel 0) rfl rfl ?_
  refine e_i2l (dec_at dX6_isLevel 1) (by omega) ?_
  refine e_lconst 0 (dec_at dX6_isLevel 2) rfl ?_
  refine e_ldc2 3 (dec_at dX6_isLevel 3) klX6_82 (by decide) ?_
  refine e_callSr (M' := mX6_in) (dec_at dX6_isLevel 4) mlX6_59 (m_in (a) (0) (3) (by omega) (by omega) (by omega)) oX6_in sX6_in rfl rfl (by decide) (by decide) (Nat.le_of_ble_eq_true rfl) ?_
  refine e_zreturn (dec_at dX6_isLevel 5) rfl (by first | exact Or.inl rfl | exact Or.inr rfl | exact b01_or) ?_
  exact ⟨rfl, rfl⟩

set_option maxRecDepth 100000 in
set_option maxHeartbeats 4000000 in
theorem m_isAxis {μ : Mm} (a : Int) (ha : inR a) : Mc mX6_isAxis 1 [vI a] μ (Rt (some (vI (b01 (0 ≤ a ∧ a ≤ 2)))) μ) := by
  refine Mc.of (L := [some (vI a)]) (by decide +kernel) (by simp [leL, entA, isLong, mX6_isAxis]) (by simp [entA, isLong, mX6_isAxis]) ?_
  refine e_iload_n 0 (dec_at dX6_isAxis 0) rfl rfl ?_
  refine e_i2l (dec_at dX6_isAxis 1) (by omega) ?_
  refine e_lconst 0 (dec_at dX6_isAxis 2) rfl ?_
  refine e_ldc2 2 (dec_at dX6_isAxis 3) klX6_57 (by decide) ?_
  refine e_callSr (M' := mX6_in) (dec_at dX6_isAxis 4) mlX6_59 (m_in (a) (0) (2) (by omega) (by omega) (by omega)) oX6_in sX6_in rfl rfl (by decide) (by decide) (Nat.le_of_ble_eq_true rfl) ?_
  refine e_zreturn (dec_at dX6_isAxis 5) rfl (by first | exact Or.inl rfl | exact Or.inr rfl | exact b01_or) ?_
  exact ⟨rfl, rfl⟩

set_option maxRecDepth 100000 in
set_option maxHeartbeats 4000000 in
theorem m_meets {μ : Mm} (a : Int) (ha : inR a) : Mc mX6_meets 0 [vR 21 0, vI a] μ (Rt (some (vI (-10 - a))) (mset μ 21 0 0 a)) := by
  refine Mc.of (L := [some (vR 21 0), some (vI a)]) (by decide +kernel) (by simp [leL, entA, isLong, mX6_meets]) (by simp [entA, isLong, mX6_meets]) ?_
  refine e_aload_n 0 (dec_at dX6_meets 0) rfl rfl ?_
  refine e_iload_n 1 (dec_at dX6_meets 1) rfl rfl ?_
  refine e_put 0 0 (dec_at dX6_meets 2) flX6_54 fpX6_0 rfl rfl rfl (by omega) (fit_int _) ?_
  refine e_bipush (dec_at dX6_meets 3) (by decide) ?_
  refine e_iload_n 1 (dec_at dX6_meets 4) rfl rfl ?_
  refine e_isub (dec_at dX6_meets 5) ?_
  refine e_ireturn (dec_at dX6_meets 6) rfl ?_
  exact ⟨rfl, rfl⟩

set_option maxRecDepth 100000 in
set_option maxHeartbeats 4000000 in
theorem m_sizeOf {μ : Mm} {B : Net} (l f : Int) (h : MP μ l B) (f0 : 0 ≤ f) (f1 : f < B 0 1) : Mc mX6_sizeOf 0 [vR 21 0, vI l, vI f] μ (Rt (some (vI (B 2 (f + 1) - B 2 f))) μ) := by
  refine Mc.of (L := [some (vR 21 0), some (vI l), some (vI f)]) (by decide +kernel) (by simp [leL, entA, isLong, mX6_sizeOf]) (by simp [entA, isLong, mX6_sizeOf]) ?_
  have ha := h.at f0 f1
  refine e_aload_n 0 (dec_at dX6_sizeOf 0) rfl rfl ?_
  refine e_getr 12 (dec_at dX6_sizeOf 1) flX6_28 rfl rfl ?_
  refine e_sipush (dec_at dX6_sizeOf 2) (by decide) ?_
  refine e_iload_n 1 (dec_at dX6_sizeOf 3) rfl rfl ?_
  refine e_imul (dec_at dX6_sizeOf 4) ?_
  refine e_iload_n 2 (dec_at dX6_sizeOf 5) rfl rfl ?_
  refine e_iadd (dec_at dX6_sizeOf 6) ?_
  refine e_ialdv (B 2 (f + 1) - B 2 f) (dec_at dX6_sizeOf 7) rfl (by decide) (aLk_28 _) (by omega) (by exact (h.2.2.2.1 f f0 f1).2) (fun r11 => ?_)
  refine e_ireturn (dec_at dX6_sizeOf 8) rfl ?_
  exact ⟨rfl, rfl⟩

set_option maxRecDepth 100000 in
set_option maxHeartbeats 4000000 in
theorem m_cornerOf {μ : Mm} {B : Net} (l f k : Int) (h : MP μ l B) (f0 : 0 ≤ f) (f1 : f < B 0 1) (k0 : 0 ≤ k) (k1 : k < B 2 (f + 1) - B 2 f) : Mc mX6_cornerOf 0 [vR 21 0, vI l, vI f, vI k] μ (Rt (some (vI (B 3 (B 2 f + k)))) μ) := by
  refine Mc.of (L := [some (vR 21 0), some (vI l), some (vI f), some (vI k)]) (by decide +kernel) (by simp [leL, entA, isLong, mX6_cornerOf]) (by simp [entA, isLong, mX6_cornerOf]) ?_
  have ha := h.at f0 f1
  refine e_aload_n 0 (dec_at dX6_cornerOf 0) rfl rfl ?_
  refine e_getr 13 (dec_at dX6_cornerOf 1) flX6_31 rfl rfl ?_
  refine e_sipush (dec_at dX6_cornerOf 2) (by decide) ?_
  refine e_iload_n 1 (dec_at dX6_cornerOf 3) rfl rfl ?_
  refine e_imul (dec_at dX6_cornerOf 4) ?_
  refine e_aload_n 0 (dec_at dX6_cornerOf 5) rfl rfl ?_
  refine e_getr 11 (dec_at dX6_cornerOf 6) flX6_25 rfl rfl ?_
  refine e_sipush (dec_at dX6_cornerOf 7) (by decide) ?_
  refine e_iload_n 1 (dec_at dX6_cornerOf 8) rfl rfl ?_
  refine e_imul (dec_at dX6_cornerOf 9) ?_
  refine e_iload_n 2 (dec_at dX6_cornerOf 10) rfl rfl ?_
  refine e_iadd (dec_at dX6_cornerOf 11) ?_
  refine e_ialdv (B 2 f) (dec_at dX6_cornerOf 12) rfl (by decide) (aLk_27 _) (by omega) (by exact (h.2.2.2.1 f f0 f1).1) (fun r20 => ?_)
  refine e_iadd (dec_at dX6_cornerOf 13) ?_
  refine e_iload_n 3 (dec_at dX6_cornerOf 14) rfl rfl ?_
  refine e_iadd (dec_at dX6_cornerOf 15) ?_
  refine e_ialdv (B 3 (B 2 f + k)) (dec_at dX6_cornerOf 16) rfl (by decide) (aLk_29 _) (by omega) (by rw [show 700 * l + B 2 f + k = 700 * l + (B 2 f + k) by omega]; exact h.2.2.2.2 (B 2 f + k) (by omega) (by omega)) (fun r24 => ?_)
  refine e_ireturn (dec_at dX6_cornerOf 17) rfl ?_
  exact ⟨rfl, rfl⟩

set_option maxRecDepth 100000 in
set_option maxHeartbeats 4000000 in
theorem m_next {μ : Mm} {B : Net} (l f k : Int) (h : MP μ l B) (f0 : 0 ≤ f) (f1 : f < B 0 1) (k0 : 0 ≤ k) (k1 : k < B 2 (f + 1) - B 2 f) : Mc mX6_next 1 [vR 21 0, vI l, vI f, vI k] μ (Rt (some (vI (B 3 (nx B (B 2 f + k))))) μ) := by
  refine Mc.of (L := [some (vR 21 0), some (vI l), some (vI f), some (vI k)]) (by decide +kernel) (by simp [leL, entA, isLong, mX6_next]) (by simp [entA, isLong, mX6_next]) ?_
  have ha := h.at f0 f1
  have hm0 := Int.emod_nonneg (k + 1) (show B 2 (f + 1) - B 2 f ≠ 0 by omega)
  have hm1 := Int.emod_lt_of_pos (k + 1) (show 0 < B 2 (f + 1) - B 2 f by omega)
  refine e_aload_n 0 (dec_at dX6_next 0) rfl rfl ?_
  refine e_iload_n 1 (dec_at dX6_next 1) rfl rfl ?_
  refine e_iload_n 2 (dec_at dX6_next 2) rfl rfl ?_
  refine e_iload_n 3 (dec_at dX6_next 3) rfl rfl ?_
  refine e_iconst (dec_at dX6_next 4) ?_
  refine e_iadd (dec_at dX6_next 5) ?_
  refine e_aload_n 0 (dec_at dX6_next 6) rfl rfl ?_
  refine e_iload_n 1 (dec_at dX6_next 7) rfl rfl ?_
  refine e_iload_n 2 (dec_at dX6_next 8) rfl rfl ?_
  refine e_callVr (M' := mX6_sizeOf) (dec_at dX6_next 9) mlX6_70 (m_sizeOf (μ := μ) (B := B) l f h f0 f1) oX6_sizeOf iX6_sizeOf rfl rfl rfl rfl (by decide) (by decide) (Nat.le_of_ble_eq_true rfl) ?_
  refine e_irem (dec_at dX6_next 10) (by omega) (by omega) ?_
  refine e_callVr (M' := mX6_cornerOf) (dec_at dX6_next 11) mlX6_74 (m_cornerOf (μ := μ) (B := B) l f ((k + 1) % (B 2 (f + 1) - B 2 f)) h f0 f1 hm0 hm1) oX6_cornerOf iX6_cornerOf rfl rfl rfl rfl (by decide) (by decide) (Nat.le_of_ble_eq_true rfl) ?_
  refine e_ireturn (dec_at dX6_next 12) rfl ?_
  refine ⟨?_, rfl⟩
  rw [nx_at h.gp f0 f1 k0 k1]

set_option maxRecDepth 100000 in
set_option maxHeartbeats 4000000 in
theorem m_number {μ : Mm} (l c a : Int) (hl : 0 ≤ l ∧ l ≤ 3) (hc : 0 ≤ c ∧ c < 200) (ha : 0 ≤ a ∧ a < 3) : Mc mX6_number 0 [vR 21 0, vI l, vI c, vI a] μ (Rt (some (vI (gN μ l c a))) μ) := by
  refine Mc.of (L := [some (vR 21 0), some (vI l), some (vI c), some (vI a)]) (by decide +kernel) (by simp [leL, entA, isLong, mX6_number]) (by simp [entA, isLong, mX6_number]) ?_
  refine e_aload_n 0 (dec_at dX6_number 0) rfl rfl ?_
  refine e_getr 10 (dec_at dX6_number 1) flX6_22 rfl rfl ?_
  refine e_iconst (dec_at dX6_number 2) ?_
  refine e_sipush (dec_at dX6_number 3) (by decide) ?_
  refine e_iload_n 1 (dec_at dX6_number 4) rfl rfl ?_
  refine e_imul (dec_at dX6_number 5) ?_
  refine e_iload_n 2 (dec_at dX6_number 6) rfl rfl ?_
  refine e_iadd (dec_at dX6_number 7) ?_
  refine e_imul (dec_at dX6_number 8) ?_
  refine e_iload_n 3 (dec_at dX6_number 9) rfl rfl ?_
  refine e_iadd (dec_at dX6_number 10) ?_
  refine e_iald (dec_at dX6_number 11) rfl (by decide) (aLk_26 _) (by omega) (fun r15 => ?_)
  refine e_ireturn (dec_at dX6_number 12) rfl ?_
  exact ⟨rfl, rfl⟩

set_option maxRecDepth 100000 in
set_option maxHeartbeats 4000000 in
theorem m_square {μ : Mm} (a : Int) : Mc mX6_square 0 [vL a] μ (Rt (some (vL (a * a))) μ) := by
  refine Mc.of (L := [some (vL a), none]) (by decide +kernel) (by simp [leL, entA, isLong, mX6_square]) (by simp [entA, isLong, mX6_square]) ?_
  refine e_lload_n 0 (dec_at dX6_square 0) rfl rfl ?_
  refine e_lload_n 0 (dec_at dX6_square 1) rfl rfl ?_
  refine e_lmul (dec_at dX6_square 2) ?_
  refine e_lreturn (dec_at dX6_square 3) rfl ?_
  exact ⟨rfl, rfl⟩

set_option maxRecDepth 100000 in
set_option maxHeartbeats 4000000 in
theorem l_faceWith2 {μ : Mm} {B : Net} {l a b n : Int} (h : MP μ l B) (ha : inR a) (hb : inR b) (hn : 0 ≤ n ∧ n ≤ B 0 1) {f : Int} (f0 : 0 ≤ f) (f1 : f < n) (hf : ∀ s, 0 ≤ s → s < B 2 f → ¬ (B 3 s = a ∧ B 3 (nx B s) = b)) : ∀ (q : Nat) (k : Int), (B 2 (f + 1) - B 2 f - k).toNat = q → 0 ≤ k → k ≤ B 2 (f + 1) - B 2 f → (∀ s, 0 ≤ s → s < B 2 f + k → ¬ (B 3 s = a ∧ B 3 (nx B s) = b)) → ((∀ s, 0 ≤ s → s < B 2 (f + 1) → ¬ (B 3 s = a ∧ B 3 (nx B s) = b)) → Ev mX6_faceWith 2 66 [some (vR 21 0), some (vI l), some (vI a), some (vI b), some (vI n), some (vI f), none] [] μ (fun r ν => ∃ v, r = some (vI v) ∧ ((v = -1 ∧ ν = μ ∧ ∀ s, 0 ≤ s → s < B 2 n → ¬ (B 3 s = a ∧ B 3 (nx B s) = b)) ∨ ((0 ≤ v ∧ v < n) ∧ ∃ k, (0 ≤ k ∧ k < B 2 (v + 1) - B 2 v) ∧ ν = mset μ 21 0 16 k ∧ B 3 (B 2 v + k) = a ∧ B 3 (nx B (B 2 v + k)) = b)))) → Ev mX6_faceWith 2 13 [some (vR 21 0), some (vI l), some (vI a), some (vI b), some (vI n), some (vI f), some (vI k)] [] μ (fun r ν => ∃ v, r = some (vI v) ∧ ((v = -1 ∧ ν = μ ∧ ∀ s, 0 ≤ s → s < B 2 n → ¬ (B 3 s = a ∧ B 3 (nx B s) = b)) ∨ ((0 ≤ v ∧ v < n) ∧ ∃ k, (0 ≤ k ∧ k < B 2 (v + 1) - B 2 v) ∧ ν = mset μ 21 0 16 k ∧ B 3 (B 2 v + k) = a ∧ B 3 (nx B (B 2 v + k)) = b))) := by
  intro q
  induction q using Nat.strongRecOn with
  | _ q ih =>
  intro k hq k0 k1 hk K
  have hat := h.at f0 (by omega)
  refine e_iload (dec_at dX6_faceWith 7) rfl ?_
  refine e_aload_n 0 (dec_at dX6_faceWith 8) rfl rfl ?_
  refine e_iload_n 1 (dec_at dX6_faceWith 9) rfl rfl ?_
  refine e_iload (dec_at dX6_faceWith 10) rfl ?_
  refine e_callVr (M' := mX6_sizeOf) (dec_at dX6_faceWith 11) mlX6_70 (m_sizeOf (μ := μ) (B := B) l f h f0 (by omega)) oX6_sizeOf iX6_sizeOf rfl rfl rfl rfl (by decide) (by decide) (Nat.le_of_ble_eq_true rfl) ?_
  refine e_icmp_ge 66 (dec_at dX6_faceWith 12) (by decide) (by omega) (by omega) (fun h22 => ?_) (fun h22 => ?_)
  · refine e_le [some (vR 21 0), some (vI l), some (vI a), some (vI b), some (vI n), some (vI f), none] (by simp [leL]) (K (fun s s0 s1 => hk s s0 (by omega)))
  · have hrg := h.rg (s := B 2 f + k) (by omega) (by omega)
    refine e_aload_n 0 (dec_at dX6_faceWith 13) rfl rfl ?_
    refine e_iload_n 1 (dec_at dX6_faceWith 14) rfl rfl ?_
    refine e_iload (dec_at dX6_faceWith 15) rfl ?_
    refine e_iload (dec_at dX6_faceWith 16) rfl ?_
    refine e_callVr (M' := mX6_cornerOf) (dec_at dX6_faceWith 17) mlX6_74 (m_cornerOf (μ := μ) (B := B) l f k h f0 (by omega) k0 (by omega)) oX6_cornerOf iX6_cornerOf rfl rfl rfl rfl (by decide) (by decide) (Nat.le_of_ble_eq_true rfl) ?_
    refine e_iload_n 2 (dec_at dX6_faceWith 18) rfl rfl ?_
    refine e_icmp_ne 60 (dec_at dX6_faceWith 19) (by decide) (by omega) (by omega) (fun h35 => ?_) (fun h35 => ?_)
    · refine e_ii6 (dec_at dX6_faceWith 32) (by decide) rfl ?_
      refine e_goto 13 (dec_at dX6_faceWith 33) (by decide) ?_
      refine ih _ (by omega) (k + 1) rfl (by omega) (by omega) (fun s s0 s1 => ?_) K
      by_cases q : s = B 2 f + k
      · subst q; intro z; omega
      · exact hk s s0 (by omega)
    · refine e_aload_n 0 (dec_at dX6_faceWith 20) rfl rfl ?_
      refine e_iload_n 1 (dec_at dX6_faceWith 21) rfl rfl ?_
      refine e_iload (dec_at dX6_faceWith 22) rfl ?_
      refine e_iload (dec_at dX6_faceWith 23) rfl ?_
      refine e_callVr (M' := mX6_next) (dec_at dX6_faceWith 24) mlX6_89 (m_next (μ := μ) (B := B) l f k h f0 (by omega) k0 (by omega)) oX6_next iX6_next rfl rfl rfl rfl (by decide) (by decide) (Nat.le_of_ble_eq_true rfl) ?_
      refine e_iload_n 3 (dec_at dX6_faceWith 25) rfl rfl ?_
      refine e_icmp_ne 60 (dec_at dX6_faceWith 26) (by decide) (by omega) (by omega) (fun h48 => ?_) (fun h48 => ?_)
      · refine e_ii6 (dec_at dX6_faceWith 32) (by decide) rfl ?_
        refine e_goto 13 (dec_at dX6_faceWith 33) (by decide) ?_
        refine ih _ (by omega) (k + 1) rfl (by omega) (by omega) (fun s s0 s1 => ?_) K
        by_cases q : s = B 2 f + k
        · subst q; intro z; omega
        · exact hk s s0 (by omega)
      · refine e_aload_n 0 (dec_at dX6_faceWith 27) rfl rfl ?_
        refine e_iload (dec_at dX6_faceWith 28) rfl ?_
        refine e_put 16 16 (dec_at dX6_faceWith 29) flX6_92 fpX6_16 rfl rfl rfl (by omega) (fit_int _) ?_
        refine e_iload (dec_at dX6_faceWith 30) rfl ?_
        refine e_ireturn (dec_at dX6_faceWith 31) rfl ?_
        exact ⟨f, rfl, Or.inr ⟨by omega, k, by omega, rfl, by omega, by omega⟩⟩

set_option maxRecDepth 100000 in
set_option maxHeartbeats 4000000 in
theorem l_faceWith1 {μ : Mm} {B : Net} {l a b n : Int} (h : MP μ l B) (ha : inR a) (hb : inR b) (hn : 0 ≤ n ∧ n ≤ B 0 1) : ∀ (q : Nat) (f : Int), (n - f).toNat = q → 0 ≤ f → f ≤ n → (∀ s, 0 ≤ s → s < B 2 f → ¬ (B 3 s = a ∧ B 3 (nx B s) = b)) → Ev mX6_faceWith 2 3 [some (vR 21 0), some (vI l), some (vI a), some (vI b), some (vI n), some (vI f), none] [] μ (fun r ν => ∃ v, r = some (vI v) ∧ ((v = -1 ∧ ν = μ ∧ ∀ s, 0 ≤ s → s < B 2 n → ¬ (B 3 s = a ∧ B 3 (nx B s) = b)) ∨ ((0 ≤ v ∧ v < n) ∧ ∃ k, (0 ≤ k ∧ k < B 2 (v + 1) - B 2 v) ∧ ν = mset μ 21 0 16 k ∧ B 3 (B 2 v + k) = a ∧ B 3 (nx B (B 2 v + k)) = b))) := by
  intro q
  induction q using Nat.strongRecOn with
  | _ q ih =>
  intro f hq f0 f1 hf
  have hat := h.1.2.2.1
  refine e_iload (dec_at dX6_faceWith 2) rfl ?_
  refine e_iload (dec_at dX6_faceWith 3) rfl ?_
  refine e_icmp_ge 72 (dec_at dX6_faceWith 4) (by decide) (by omega) (by omega) (fun h7 => ?_) (fun h7 => ?_)
  · refine e_iconst (dec_at dX6_faceWith 36) ?_
    refine e_ireturn (dec_at dX6_faceWith 37) rfl ?_
    obtain rfl : f = n := by omega
    exact ⟨-1, rfl, Or.inl ⟨rfl, rfl, hf⟩⟩
  · refine e_iconst (dec_at dX6_faceWith 5) ?_
    refine e_is6 (dec_at dX6_faceWith 6) (by decide) rfl ?_
    refine l_faceWith2 h ha hb hn f0 (by omega) hf _ 0 rfl (by omega) (by have := h.at f0 (f := f) (by omega); omega) (fun s s0 s1 => hf s s0 (by omega)) (fun hk => ?_)
    refine e_ii5 (dec_at dX6_faceWith 34) (by decide) rfl ?_
    refine e_goto 3 (dec_at dX6_faceWith 35) (by decide) ?_
    exact ih _ (by omega) (f + 1) rfl (by omega) (by omega) hk

set_option maxRecDepth 100000 in
set_option maxHeartbeats 4000000 in
theorem m_faceWith {μ : Mm} {B : Net} (l a b n : Int) (h : MP μ l B) (ha : inR a) (hb : inR b) (hn : 0 ≤ n ∧ n ≤ B 0 1) : Mc mX6_faceWith 2 [vR 21 0, vI l, vI a, vI b, vI n] μ (fun r ν => ∃ v, r = some (vI v) ∧ ((v = -1 ∧ ν = μ ∧ ∀ s, 0 ≤ s → s < B 2 n → ¬ (B 3 s = a ∧ B 3 (nx B s) = b)) ∨ ((0 ≤ v ∧ v < n) ∧ ∃ k, (0 ≤ k ∧ k < B 2 (v + 1) - B 2 v) ∧ ν = mset μ 21 0 16 k ∧ B 3 (B 2 v + k) = a ∧ B 3 (nx B (B 2 v + k)) = b))) := by
  refine Mc.of (L := [some (vR 21 0), some (vI l), some (vI a), some (vI b), some (vI n), none, none]) (by decide +kernel) (by simp [leL, entA, isLong, mX6_faceWith]) (by simp [entA, isLong, mX6_faceWith]) ?_
  refine e_iconst (dec_at dX6_faceWith 0) ?_
  refine e_is5 (dec_at dX6_faceWith 1) (by decide) rfl ?_
  exact l_faceWith1 h ha hb hn _ 0 rfl (by omega) (by omega) (fun s s0 s1 => by have := h.gp.2.1; omega)
end
