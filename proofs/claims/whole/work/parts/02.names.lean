def RX0 : String := "MidSkins$Check"
def TX0 : u_T := fun k => match k with
  | 0 => ("MidSkins$Check", "made", "[I", true)
  | 1 => ("MidSkins$Check", "found", "I", false)
  | _ => ("MidSkins$Check", "spot", "I", false)
def tyX0 : Nat → FieldType := fun k => match k with
  | 0 => .array .int
  | 1 => .int
  | _ => .int
theorem nmX0 : ∀ a, a < 3 → ∀ b, b < 3 → a ≠ b → (TX0 a).2.1 ≠ (TX0 b).2.1 := by decide +kernel
theorem tyX0_ok : ∀ k, k < 3 → parseFieldDescriptor (TX0 k).2.2.1 = some (tyX0 k) := by decide +kernel
def RX1 : String := "MidSkins$Moves"
def TX1 : u_T := fun k => match k with
  | 0 => ("MidSkins$Moves", "levels", "[I", true)
  | 1 => ("MidSkins$Moves", "corners", "[I", true)
  | 2 => ("MidSkins$Moves", "numbers", "[I", true)
  | _ => ("MidSkins$Moves", "many", "I", false)
def tyX1 : Nat → FieldType := fun k => match k with
  | 0 => .array .int
  | 1 => .array .int
  | 2 => .array .int
  | _ => .int
theorem nmX1 : ∀ a, a < 4 → ∀ b, b < 4 → a ≠ b → (TX1 a).2.1 ≠ (TX1 b).2.1 := by decide +kernel
theorem tyX1_ok : ∀ k, k < 4 → parseFieldDescriptor (TX1 k).2.2.1 = some (tyX1 k) := by decide +kernel
def RX2 : String := "MidSkins$Net"
def TX2 : u_T := fun k => match k with
  | 0 => ("MidSkins$Net", "corners", "I", false)
  | 1 => ("MidSkins$Net", "plates", "I", false)
  | 2 => ("MidSkins$Net", "edges", "I", false)
  | 3 => ("MidSkins$Net", "numbers", "[I", true)
  | 4 => ("MidSkins$Net", "first", "[I", true)
  | 5 => ("MidSkins$Net", "rings", "[I", true)
  | 6 => ("MidSkins$Net", "plateOf", "[I", true)
  | 7 => ("MidSkins$Net", "back", "[I", true)
  | 8 => ("MidSkins$Net", "edgeOf", "[I", true)
  | 9 => ("MidSkins$Net", "met", "[I", true)
  | 10 => ("MidSkins$Net", "degree", "[I", true)
  | _ => ("MidSkins$Net", "door", "[I", true)
def tyX2 : Nat → FieldType := fun k => match k with
  | 0 => .int
  | 1 => .int
  | 2 => .int
  | 3 => .array .int
  | 4 => .array .int
  | 5 => .array .int
  | 6 => .array .int
  | 7 => .array .int
  | 8 => .array .int
  | 9 => .array .int
  | 10 => .array .int
  | _ => .array .int
theorem nmX2 : ∀ a, a < 12 → ∀ b, b < 12 → a ≠ b → (TX2 a).2.1 ≠ (TX2 b).2.1 := by decide +kernel
theorem tyX2_ok : ∀ k, k < 12 → parseFieldDescriptor (TX2 k).2.2.1 = some (tyX2 k) := by decide +kernel
def RX3 : String := "MidSkins$Row"
def TX3 : u_T := fun k => match k with
  | 0 => ("MidSkins$Row", "numbers", "[I", true)
  | 1 => ("MidSkins$Row", "lane", "I", false)
  | _ => ("MidSkins$Row", "length", "I", false)
def tyX3 : Nat → FieldType := fun k => match k with
  | 0 => .array .int
  | 1 => .int
  | _ => .int
theorem nmX3 : ∀ a, a < 3 → ∀ b, b < 3 → a ≠ b → (TX3 a).2.1 ≠ (TX3 b).2.1 := by decide +kernel
theorem tyX3_ok : ∀ k, k < 3 → parseFieldDescriptor (TX3 k).2.2.1 = some (tyX3 k) := by decide +kernel
def RX4 : String := "MidSkins$Skin"
def TX4 : u_T := fun k => match k with
  | 0 => ("MidSkins$Skin", "nets", "[LMidSkins$Net;", true)
  | 1 => ("MidSkins$Skin", "base", "LMidSkins$Net;", true)
  | 2 => ("MidSkins$Skin", "check", "LMidSkins$Check;", true)
  | 3 => ("MidSkins$Skin", "moves", "LMidSkins$Moves;", true)
  | 4 => ("MidSkins$Skin", "checked", "Z", false)
  | 5 => ("MidSkins$Skin", "shaped", "I", false)
  | _ => ("MidSkins$Skin", "summed", "I", false)
def tyX4 : Nat → FieldType := fun k => match k with
  | 0 => .array (.object "MidSkins$Net")
  | 1 => .object "MidSkins$Net"
  | 2 => .object "MidSkins$Check"
  | 3 => .object "MidSkins$Moves"
  | 4 => .boolean
  | 5 => .int
  | _ => .int
theorem nmX4 : ∀ a, a < 7 → ∀ b, b < 7 → a ≠ b → (TX4 a).2.1 ≠ (TX4 b).2.1 := by decide +kernel
theorem tyX4_ok : ∀ k, k < 7 → parseFieldDescriptor (TX4 k).2.2.1 = some (tyX4 k) := by decide +kernel
def RX5 : String := "MidSkins"
def TX5 : u_T := fun k => match k with
  | 0 => ("MidSkins", "hand", "LMidSkins$Row;", true)
  | 1 => ("MidSkins", "skin", "LMidSkins$Skin;", true)
  | _ => ("MidSkins", "latestCause", "I", false)
def tyX5 : Nat → FieldType := fun k => match k with
  | 0 => .object "MidSkins$Row"
  | 1 => .object "MidSkins$Skin"
  | _ => .int
theorem nmX5 : ∀ a, a < 3 → ∀ b, b < 3 → a ≠ b → (TX5 a).2.1 ≠ (TX5 b).2.1 := by decide +kernel
theorem tyX5_ok : ∀ k, k < 3 → parseFieldDescriptor (TX5 k).2.2.1 = some (tyX5 k) := by decide +kernel
def RX6 : String := "MidSkinsModel"
def TX6 : u_T := fun k => match k with
  | 0 => ("MidSkinsModel", "latest", "I", false)
  | 1 => ("MidSkinsModel", "lane", "I", false)
  | 2 => ("MidSkinsModel", "rowSize", "I", false)
  | 3 => ("MidSkinsModel", "row", "[I", true)
  | 4 => ("MidSkinsModel", "stale", "Z", false)
  | 5 => ("MidSkinsModel", "faultKind", "I", false)
  | 6 => ("MidSkinsModel", "faultPlace", "I", false)
  | 7 => ("MidSkinsModel", "cornerMany", "[I", true)
  | 8 => ("MidSkinsModel", "faceMany", "[I", true)
  | 9 => ("MidSkinsModel", "edgeMany", "[I", true)
  | 10 => ("MidSkinsModel", "numbers", "[I", true)
  | 11 => ("MidSkinsModel", "faceFrom", "[I", true)
  | 12 => ("MidSkinsModel", "faceSize", "[I", true)
  | 13 => ("MidSkinsModel", "rings", "[I", true)
  | 14 => ("MidSkinsModel", "edgeFrom", "[I", true)
  | 15 => ("MidSkinsModel", "edgeTo", "[I", true)
  | 16 => ("MidSkinsModel", "stepAt", "I", false)
  | 17 => ("MidSkinsModel", "ringMany", "I", false)
  | 18 => ("MidSkinsModel", "moves", "I", false)
  | 19 => ("MidSkinsModel", "moveAt", "[I", true)
  | _ => ("MidSkinsModel", "moveBy", "[I", true)
def tyX6 : Nat → FieldType := fun k => match k with
  | 0 => .int
  | 1 => .int
  | 2 => .int
  | 3 => .array .int
  | 4 => .boolean
  | 5 => .int
  | 6 => .int
  | 7 => .array .int
  | 8 => .array .int
  | 9 => .array .int
  | 10 => .array .int
  | 11 => .array .int
  | 12 => .array .int
  | 13 => .array .int
  | 14 => .array .int
  | 15 => .array .int
  | 16 => .int
  | 17 => .int
  | 18 => .int
  | 19 => .array .int
  | _ => .array .int
theorem nmX6 : ∀ a, a < 21 → ∀ b, b < 21 → a ≠ b → (TX6 a).2.1 ≠ (TX6 b).2.1 := by decide +kernel
theorem tyX6_ok : ∀ k, k < 21 → parseFieldDescriptor (TX6 k).2.2.1 = some (tyX6 k) := by decide +kernel
abbrev vwCl : List vw_C := [(RX0, TX0, 3), (RX1, TX1, 4), (RX2, TX2, 12), (RX3, TX3, 3), (RX4, TX4, 7), (RX5, TX5, 3), (RX6, TX6, 21)]
/-- the words of the tables that hold at every later state -/
def Gw : List Cond := lw_tbl.filter goodWord
theorem Gw_good : ∀ w ∈ Gw, w ∈ lw_tbl ∧ goodWord w = true := fun w h => List.mem_filter.mp h
theorem Gw_in {w : Cond} (h : w ∈ lw_tbl) (hg : goodWord w = true) : w ∈ Gw := List.mem_filter.mpr ⟨h, hg⟩
theorem Gw_t1 {w : Cond} (i : Nat) (h : tables_1_1[i]? = some w) (hg : goodWord w = true) : w ∈ Gw := Gw_in (List.mem_append_right _ (List.mem_append_left _ (List.mem_of_getElem? h))) hg
theorem Gw_t2 {w : Cond} (i : Nat) (h : tables_1_2[i]? = some w) (hg : goodWord w = true) : w ∈ Gw := Gw_in (List.mem_append_right _ (List.mem_append_right _ (List.mem_append_left _ (List.mem_of_getElem? h)))) hg
theorem Gw_t3 {w : Cond} (i : Nat) (h : tables_1_3[i]? = some w) (hg : goodWord w = true) : w ∈ Gw := Gw_in (List.mem_append_right _ (List.mem_append_right _ (List.mem_append_right _ (List.mem_append_left _ (List.mem_of_getElem? h))))) hg
theorem Gw_t4 {w : Cond} (i : Nat) (h : tables_1_4[i]? = some w) (hg : goodWord w = true) : w ∈ Gw := Gw_in (List.mem_append_right _ (List.mem_append_right _ (List.mem_append_right _ (List.mem_append_right _ (List.mem_of_getElem? h))))) hg
theorem Gw_sel {q : MethodName × Nat} (i : Nat) (h : lw_privs[i]? = some q) (hg : goodWord (Cond.selects q.1.cls q.1 q.1) = true) : Cond.selects q.1.cls q.1 q.1 ∈ Gw := Gw_in (List.mem_append_left _ (List.mem_map.mpr ⟨q, List.mem_of_getElem? h, rfl⟩)) hg
/-- a method: its name, its bytes, its locals, its answer's type -/
abbrev MI : Type := MethodName × ByteArray × Nat × Option FieldType
def dec_ok (c : ByteArray) (t : List (Nat × Instr × Nat)) (i : Nat) : Prop := match t[i]? with
  | some q => decode c q.1 = .ok q.2
  | none => True
theorem dec_at {c : ByteArray} {t : List (Nat × Instr × Nat)} (h : ∀ q ∈ t, decode c q.1 = .ok q.2) (i : Nat) : dec_ok c t i := by
  unfold dec_ok
  split
  · next q hq => exact h q (List.mem_of_getElem? hq)
  · trivial
/-- what a call needs of its method -/
def MOk (M : MI) (n : Nat) : Prop := Cond.initialized M.1.cls ∈ Gw ∧ Cond.code M.1 M.2.1 M.2.2.1 M.2.2.2 ∈ Gw ∧ (M.1.cls ≠ "java/lang/invoke/MethodHandle" ∧ M.1.cls ≠ "java/lang/invoke/VarHandle") ∧ (parseMethodDescriptor M.1.desc).map (fun d => d.parameters.length) = some n ∧ plainName M.1.cls = true
def MIn (M : MI) : Prop := Cond.instanceMethod M.1 ∈ Gw ∧ Cond.selects M.1.cls M.1 M.1 ∈ Gw
def MSt (M : MI) : Prop := Cond.static M.1 ∈ Gw
/-- a field: its class's number, its slot, the link by which it is named -/
def FL (own : String) (idx ci k : Nat) : Prop := ∃ (C : String) (T : u_T) (N : Nat), vwCl[ci]? = some (C, T, N) ∧ k < N ∧ (∀ w ∈ u_ws C T N, w ∈ Gw) ∧ Cond.fieldLink own idx (T k).1 (T k).2.1 (T k).2.2.1 ∈ Gw
/-- it may be written: not final, of this type -/
def FP (ci k : Nat) (ty : FieldType) : Prop := ∃ (C : String) (T : u_T) (N : Nat) (ty0 : Nat → FieldType), vwCl[ci]? = some (C, T, N) ∧ k < N ∧ (∀ k, k < N → parseFieldDescriptor (T k).2.2.1 = some (ty0 k)) ∧ (∀ a, a < N → ∀ b, b < N → a ≠ b → (T a).2.1 ≠ (T b).2.1) ∧ (T k).2.2.2 = false ∧ parseFieldDescriptor (T k).2.2.1 = some ty
theorem inX0a : ∀ w ∈ u_ws RX0 TX0 3, w ∈ lw_tbl ∧ goodWord w = true := by decide +kernel
theorem inX0 : ∀ w ∈ u_ws RX0 TX0 3, w ∈ Gw := fun w h => Gw_in (inX0a w h).1 (inX0a w h).2
theorem inX1a : ∀ w ∈ u_ws RX1 TX1 4, w ∈ lw_tbl ∧ goodWord w = true := by decide +kernel
theorem inX1 : ∀ w ∈ u_ws RX1 TX1 4, w ∈ Gw := fun w h => Gw_in (inX1a w h).1 (inX1a w h).2
theorem inX2a : ∀ w ∈ u_ws RX2 TX2 12, w ∈ lw_tbl ∧ goodWord w = true := by decide +kernel
theorem inX2 : ∀ w ∈ u_ws RX2 TX2 12, w ∈ Gw := fun w h => Gw_in (inX2a w h).1 (inX2a w h).2
theorem inX3a : ∀ w ∈ u_ws RX3 TX3 3, w ∈ lw_tbl ∧ goodWord w = true := by decide +kernel
theorem inX3 : ∀ w ∈ u_ws RX3 TX3 3, w ∈ Gw := fun w h => Gw_in (inX3a w h).1 (inX3a w h).2
theorem inX4a : ∀ w ∈ u_ws RX4 TX4 7, w ∈ lw_tbl ∧ goodWord w = true := by decide +kernel
theorem inX4 : ∀ w ∈ u_ws RX4 TX4 7, w ∈ Gw := fun w h => Gw_in (inX4a w h).1 (inX4a w h).2
theorem inX5a : ∀ w ∈ u_ws RX5 TX5 3, w ∈ lw_tbl ∧ goodWord w = true := by decide +kernel
theorem inX5 : ∀ w ∈ u_ws RX5 TX5 3, w ∈ Gw := fun w h => Gw_in (inX5a w h).1 (inX5a w h).2
theorem inX6a : ∀ w ∈ u_ws RX6 TX6 21, w ∈ lw_tbl ∧ goodWord w = true := by decide +kernel
theorem inX6 : ∀ w ∈ u_ws RX6 TX6 21, w ∈ Gw := fun w h => Gw_in (inX6a w h).1 (inX6a w h).2
theorem flX3_9 : FL RX3 9 3 0 := ⟨RX3, TX3, 3, rfl, by decide, inX3, Gw_t1 23 rfl rfl⟩
theorem flX5_65 : FL RX5 65 3 0 := ⟨RX3, TX3, 3, rfl, by decide, inX3, Gw_t1 24 rfl rfl⟩
theorem flX3_15 : FL RX3 15 3 1 := ⟨RX3, TX3, 3, rfl, by decide, inX3, Gw_t1 25 rfl rfl⟩
theorem flX5_43 : FL RX5 43 3 1 := ⟨RX3, TX3, 3, rfl, by decide, inX3, Gw_t1 26 rfl rfl⟩
theorem flX3_19 : FL RX3 19 3 2 := ⟨RX3, TX3, 3, rfl, by decide, inX3, Gw_t1 27 rfl rfl⟩
theorem flX5_46 : FL RX5 46 3 2 := ⟨RX3, TX3, 3, rfl, by decide, inX3, Gw_t1 28 rfl rfl⟩
theorem flX2_39 : FL RX2 39 2 0 := ⟨RX2, TX2, 12, rfl, by decide, inX2, Gw_t1 50 rfl rfl⟩
theorem flX5_60 : FL RX5 60 2 0 := ⟨RX2, TX2, 12, rfl, by decide, inX2, Gw_t1 51 rfl rfl⟩
theorem flX0_74 : FL RX0 74 2 0 := ⟨RX2, TX2, 12, rfl, by decide, inX2, Gw_t1 52 rfl rfl⟩
theorem flX0_22 : FL RX0 22 2 1 := ⟨RX2, TX2, 12, rfl, by decide, inX2, Gw_t1 53 rfl rfl⟩
theorem flX2_43 : FL RX2 43 2 1 := ⟨RX2, TX2, 12, rfl, by decide, inX2, Gw_t1 54 rfl rfl⟩
theorem flX5_91 : FL RX5 91 2 1 := ⟨RX2, TX2, 12, rfl, by decide, inX2, Gw_t1 55 rfl rfl⟩
theorem flX5_133 : FL RX5 133 2 2 := ⟨RX2, TX2, 12, rfl, by decide, inX2, Gw_t1 56 rfl rfl⟩
theorem flX2_61 : FL RX2 61 2 2 := ⟨RX2, TX2, 12, rfl, by decide, inX2, Gw_t1 57 rfl rfl⟩
theorem flX2_9 : FL RX2 9 2 3 := ⟨RX2, TX2, 12, rfl, by decide, inX2, Gw_t1 58 rfl rfl⟩
theorem flX5_86 : FL RX5 86 2 3 := ⟨RX2, TX2, 12, rfl, by decide, inX2, Gw_t1 59 rfl rfl⟩
theorem flX1_42 : FL RX1 42 2 3 := ⟨RX2, TX2, 12, rfl, by decide, inX2, Gw_t1 60 rfl rfl⟩
theorem flX2_15 : FL RX2 15 2 4 := ⟨RX2, TX2, 12, rfl, by decide, inX2, Gw_t1 61 rfl rfl⟩
theorem flX0_54 : FL RX0 54 2 4 := ⟨RX2, TX2, 12, rfl, by decide, inX2, Gw_t1 62 rfl rfl⟩
theorem flX5_159 : FL RX5 159 2 4 := ⟨RX2, TX2, 12, rfl, by decide, inX2, Gw_t1 63 rfl rfl⟩
theorem flX2_18 : FL RX2 18 2 5 := ⟨RX2, TX2, 12, rfl, by decide, inX2, Gw_t1 64 rfl rfl⟩
theorem flX0_57 : FL RX0 57 2 5 := ⟨RX2, TX2, 12, rfl, by decide, inX2, Gw_t1 65 rfl rfl⟩
theorem flX5_156 : FL RX5 156 2 5 := ⟨RX2, TX2, 12, rfl, by decide, inX2, Gw_t1 66 rfl rfl⟩
theorem flX2_21 : FL RX2 21 2 6 := ⟨RX2, TX2, 12, rfl, by decide, inX2, Gw_t1 67 rfl rfl⟩
theorem flX0_68 : FL RX0 68 2 6 := ⟨RX2, TX2, 12, rfl, by decide, inX2, Gw_t1 68 rfl rfl⟩
theorem flX2_24 : FL RX2 24 2 7 := ⟨RX2, TX2, 12, rfl, by decide, inX2, Gw_t1 69 rfl rfl⟩
theorem flX0_71 : FL RX0 71 2 7 := ⟨RX2, TX2, 12, rfl, by decide, inX2, Gw_t1 70 rfl rfl⟩
theorem flX2_27 : FL RX2 27 2 8 := ⟨RX2, TX2, 12, rfl, by decide, inX2, Gw_t1 71 rfl rfl⟩
theorem flX2_30 : FL RX2 30 2 9 := ⟨RX2, TX2, 12, rfl, by decide, inX2, Gw_t1 72 rfl rfl⟩
theorem flX2_33 : FL RX2 33 2 10 := ⟨RX2, TX2, 12, rfl, by decide, inX2, Gw_t1 73 rfl rfl⟩
theorem flX0_77 : FL RX0 77 2 10 := ⟨RX2, TX2, 12, rfl, by decide, inX2, Gw_t1 74 rfl rfl⟩
theorem flX2_36 : FL RX2 36 2 11 := ⟨RX2, TX2, 12, rfl, by decide, inX2, Gw_t1 75 rfl rfl⟩
theorem flX0_80 : FL RX0 80 2 11 := ⟨RX2, TX2, 12, rfl, by decide, inX2, Gw_t1 76 rfl rfl⟩
theorem flX0_9 : FL RX0 9 0 0 := ⟨RX0, TX0, 3, rfl, by decide, inX0, Gw_t1 108 rfl rfl⟩
theorem flX0_15 : FL RX0 15 0 1 := ⟨RX0, TX0, 3, rfl, by decide, inX0, Gw_t1 109 rfl rfl⟩
theorem flX4_59 : FL RX4 59 0 1 := ⟨RX0, TX0, 3, rfl, by decide, inX0, Gw_t1 110 rfl rfl⟩
theorem flX0_19 : FL RX0 19 0 2 := ⟨RX0, TX0, 3, rfl, by decide, inX0, Gw_t1 111 rfl rfl⟩
theorem flX5_121 : FL RX5 121 0 2 := ⟨RX0, TX0, 3, rfl, by decide, inX0, Gw_t1 112 rfl rfl⟩
theorem flX1_9 : FL RX1 9 1 0 := ⟨RX1, TX1, 4, rfl, by decide, inX1, Gw_t1 126 rfl rfl⟩
theorem flX1_15 : FL RX1 15 1 1 := ⟨RX1, TX1, 4, rfl, by decide, inX1, Gw_t1 127 rfl rfl⟩
theorem flX1_18 : FL RX1 18 1 2 := ⟨RX1, TX1, 4, rfl, by decide, inX1, Gw_t1 128 rfl rfl⟩
theorem flX5_208 : FL RX5 208 1 2 := ⟨RX1, TX1, 4, rfl, by decide, inX1, Gw_t1 129 rfl rfl⟩
theorem flX1_21 : FL RX1 21 1 3 := ⟨RX1, TX1, 4, rfl, by decide, inX1, Gw_t1 130 rfl rfl⟩
theorem flX5_108 : FL RX5 108 1 3 := ⟨RX1, TX1, 4, rfl, by decide, inX1, Gw_t1 131 rfl rfl⟩
theorem flX4_11 : FL RX4 11 4 0 := ⟨RX4, TX4, 7, rfl, by decide, inX4, Gw_t1 141 rfl rfl⟩
theorem flX4_20 : FL RX4 20 4 1 := ⟨RX4, TX4, 7, rfl, by decide, inX4, Gw_t1 142 rfl rfl⟩
theorem flX5_52 : FL RX5 52 4 1 := ⟨RX4, TX4, 7, rfl, by decide, inX4, Gw_t1 143 rfl rfl⟩
theorem flX4_27 : FL RX4 27 4 2 := ⟨RX4, TX4, 7, rfl, by decide, inX4, Gw_t1 144 rfl rfl⟩
theorem flX5_117 : FL RX5 117 4 2 := ⟨RX4, TX4, 7, rfl, by decide, inX4, Gw_t1 145 rfl rfl⟩
theorem flX4_34 : FL RX4 34 4 3 := ⟨RX4, TX4, 7, rfl, by decide, inX4, Gw_t1 146 rfl rfl⟩
theorem flX5_104 : FL RX5 104 4 3 := ⟨RX4, TX4, 7, rfl, by decide, inX4, Gw_t1 147 rfl rfl⟩
theorem flX4_38 : FL RX4 38 4 4 := ⟨RX4, TX4, 7, rfl, by decide, inX4, Gw_t1 148 rfl rfl⟩
theorem flX4_42 : FL RX4 42 4 5 := ⟨RX4, TX4, 7, rfl, by decide, inX4, Gw_t1 149 rfl rfl⟩
theorem flX4_46 : FL RX4 46 4 6 := ⟨RX4, TX4, 7, rfl, by decide, inX4, Gw_t1 150 rfl rfl⟩
theorem flX5_12 : FL RX5 12 5 0 := ⟨RX5, TX5, 3, rfl, by decide, inX5, Gw_t1 166 rfl rfl⟩
theorem flX5_19 : FL RX5 19 5 1 := ⟨RX5, TX5, 3, rfl, by decide, inX5, Gw_t1 167 rfl rfl⟩
theorem flX5_23 : FL RX5 23 5 2 := ⟨RX5, TX5, 3, rfl, by decide, inX5, Gw_t1 168 rfl rfl⟩
theorem flX6_54 : FL RX6 54 6 0 := ⟨RX6, TX6, 21, rfl, by decide, inX6, Gw_t3 82 rfl rfl⟩
theorem flX6_46 : FL RX6 46 6 1 := ⟨RX6, TX6, 21, rfl, by decide, inX6, Gw_t3 83 rfl rfl⟩
theorem flX6_67 : FL RX6 67 6 2 := ⟨RX6, TX6, 21, rfl, by decide, inX6, Gw_t3 84 rfl rfl⟩
theorem flX6_7 : FL RX6 7 6 3 := ⟨RX6, TX6, 21, rfl, by decide, inX6, Gw_t3 85 rfl rfl⟩
theorem flX6_50 : FL RX6 50 6 4 := ⟨RX6, TX6, 21, rfl, by decide, inX6, Gw_t3 86 rfl rfl⟩
theorem flX6_99 : FL RX6 99 6 5 := ⟨RX6, TX6, 21, rfl, by decide, inX6, Gw_t3 87 rfl rfl⟩
theorem flX6_102 : FL RX6 102 6 6 := ⟨RX6, TX6, 21, rfl, by decide, inX6, Gw_t3 88 rfl rfl⟩
theorem flX6_13 : FL RX6 13 6 7 := ⟨RX6, TX6, 21, rfl, by decide, inX6, Gw_t3 89 rfl rfl⟩
theorem flX6_16 : FL RX6 16 6 8 := ⟨RX6, TX6, 21, rfl, by decide, inX6, Gw_t3 90 rfl rfl⟩
theorem flX6_19 : FL RX6 19 6 9 := ⟨RX6, TX6, 21, rfl, by decide, inX6, Gw_t3 91 rfl rfl⟩
theorem flX6_22 : FL RX6 22 6 10 := ⟨RX6, TX6, 21, rfl, by decide, inX6, Gw_t3 92 rfl rfl⟩
theorem flX6_25 : FL RX6 25 6 11 := ⟨RX6, TX6, 21, rfl, by decide, inX6, Gw_t3 93 rfl rfl⟩
theorem flX6_28 : FL RX6 28 6 12 := ⟨RX6, TX6, 21, rfl, by decide, inX6, Gw_t3 94 rfl rfl⟩
theorem flX6_31 : FL RX6 31 6 13 := ⟨RX6, TX6, 21, rfl, by decide, inX6, Gw_t3 95 rfl rfl⟩
theorem flX6_34 : FL RX6 34 6 14 := ⟨RX6, TX6, 21, rfl, by decide, inX6, Gw_t3 96 rfl rfl⟩
theorem flX6_37 : FL RX6 37 6 15 := ⟨RX6, TX6, 21, rfl, by decide, inX6, Gw_t3 97 rfl rfl⟩
theorem flX6_92 : FL RX6 92 6 16 := ⟨RX6, TX6, 21, rfl, by decide, inX6, Gw_t3 98 rfl rfl⟩
theorem flX6_118 : FL RX6 118 6 17 := ⟨RX6, TX6, 21, rfl, by decide, inX6, Gw_t3 99 rfl rfl⟩
theorem flX6_86 : FL RX6 86 6 18 := ⟨RX6, TX6, 21, rfl, by decide, inX6, Gw_t3 100 rfl rfl⟩
theorem flX6_40 : FL RX6 40 6 19 := ⟨RX6, TX6, 21, rfl, by decide, inX6, Gw_t3 101 rfl rfl⟩
theorem flX6_43 : FL RX6 43 6 20 := ⟨RX6, TX6, 21, rfl, by decide, inX6, Gw_t3 102 rfl rfl⟩
theorem fpX0_1 : FP 0 1 .int := ⟨RX0, TX0, 3, tyX0, rfl, by decide, tyX0_ok, nmX0, rfl, by decide +kernel⟩
theorem fpX0_2 : FP 0 2 .int := ⟨RX0, TX0, 3, tyX0, rfl, by decide, tyX0_ok, nmX0, rfl, by decide +kernel⟩
theorem fpX1_3 : FP 1 3 .int := ⟨RX1, TX1, 4, tyX1, rfl, by decide, tyX1_ok, nmX1, rfl, by decide +kernel⟩
theorem fpX2_0 : FP 2 0 .int := ⟨RX2, TX2, 12, tyX2, rfl, by decide, tyX2_ok, nmX2, rfl, by decide +kernel⟩
theorem fpX2_1 : FP 2 1 .int := ⟨RX2, TX2, 12, tyX2, rfl, by decide, tyX2_ok, nmX2, rfl, by decide +kernel⟩
theorem fpX2_2 : FP 2 2 .int := ⟨RX2, TX2, 12, tyX2, rfl, by decide, tyX2_ok, nmX2, rfl, by decide +kernel⟩
theorem fpX3_1 : FP 3 1 .int := ⟨RX3, TX3, 3, tyX3, rfl, by decide, tyX3_ok, nmX3, rfl, by decide +kernel⟩
theorem fpX3_2 : FP 3 2 .int := ⟨RX3, TX3, 3, tyX3, rfl, by decide, tyX3_ok, nmX3, rfl, by decide +kernel⟩
theorem fpX4_4 : FP 4 4 .boolean := ⟨RX4, TX4, 7, tyX4, rfl, by decide, tyX4_ok, nmX4, rfl, by decide +kernel⟩
theorem fpX4_5 : FP 4 5 .int := ⟨RX4, TX4, 7, tyX4, rfl, by decide, tyX4_ok, nmX4, rfl, by decide +kernel⟩
theorem fpX4_6 : FP 4 6 .int := ⟨RX4, TX4, 7, tyX4, rfl, by decide, tyX4_ok, nmX4, rfl, by decide +kernel⟩
theorem fpX5_2 : FP 5 2 .int := ⟨RX5, TX5, 3, tyX5, rfl, by decide, tyX5_ok, nmX5, rfl, by decide +kernel⟩
theorem fpX6_0 : FP 6 0 .int := ⟨RX6, TX6, 21, tyX6, rfl, by decide, tyX6_ok, nmX6, rfl, by decide +kernel⟩
theorem fpX6_1 : FP 6 1 .int := ⟨RX6, TX6, 21, tyX6, rfl, by decide, tyX6_ok, nmX6, rfl, by decide +kernel⟩
theorem fpX6_2 : FP 6 2 .int := ⟨RX6, TX6, 21, tyX6, rfl, by decide, tyX6_ok, nmX6, rfl, by decide +kernel⟩
theorem fpX6_4 : FP 6 4 .boolean := ⟨RX6, TX6, 21, tyX6, rfl, by decide, tyX6_ok, nmX6, rfl, by decide +kernel⟩
theorem fpX6_5 : FP 6 5 .int := ⟨RX6, TX6, 21, tyX6, rfl, by decide, tyX6_ok, nmX6, rfl, by decide +kernel⟩
theorem fpX6_6 : FP 6 6 .int := ⟨RX6, TX6, 21, tyX6, rfl, by decide, tyX6_ok, nmX6, rfl, by decide +kernel⟩
theorem fpX6_16 : FP 6 16 .int := ⟨RX6, TX6, 21, tyX6, rfl, by decide, tyX6_ok, nmX6, rfl, by decide +kernel⟩
theorem fpX6_17 : FP 6 17 .int := ⟨RX6, TX6, 21, tyX6, rfl, by decide, tyX6_ok, nmX6, rfl, by decide +kernel⟩
theorem fpX6_18 : FP 6 18 .int := ⟨RX6, TX6, 21, tyX6, rfl, by decide, tyX6_ok, nmX6, rfl, by decide +kernel⟩
