/-! The tables' words that a method may hand to those that it calls (o_TT), the words between nest mates (o_NW), the kinds of objects (o_cl). -/
def o_TT : List Cond := lw_tbl.filter goodWord
def o_isN (w : Cond) : Bool := match w with
  | .fieldLinkNest _ _ _ _ _ _ => true
  | .methodLinkNest _ _ _ _ => true
  | _ => false
def o_NW : List Cond := lw_tbl.filter o_isN
def o_AO : List String := ["TrapGate$StoredFile", "TrapGate$Pipe"]
theorem o_TT_good (w : Cond) (h : w ∈ o_TT) : (w.onTables && w.keeps) = true ∨ ∃ ty, w = .arrayClass ty := good_of_word (List.mem_filter.mp h).2
theorem o_NW_tab (w : Cond) (h : w ∈ o_NW) : w.onTables = true := by
  have h2 := (List.mem_filter.mp h).2
  cases w <;> first | rfl | (simp [o_isN] at h2; done)
theorem o_NW_warm {s U : State} (w : Cond) (h : w ∈ o_NW) (hW : s.WarmedH U.vm) (hZ : va_Nw w s) : va_Nw w U := by
  have h2 := (List.mem_filter.mp h).2
  cases w <;> first | exact va_Nw.warmF hW hZ | exact va_Nw.warmM hW hZ | (simp [o_isN] at h2; done)
theorem o_inT {w : Cond} (i : Nat) (h : lw_tbl[i]? = some w) (hg : goodWord w = true) : w ∈ o_TT := List.mem_filter.mpr ⟨List.mem_of_getElem? h, hg⟩
theorem o_inN {w : Cond} (i : Nat) (h : lw_tbl[i]? = some w) (hg : o_isN w = true) : w ∈ o_NW := List.mem_filter.mpr ⟨List.mem_of_getElem? h, hg⟩
def RX0 : String := "TrapGate$Memory"
def TX0 : u_T := fun k => match k with
  | 0 => ("TrapGate$Memory", "bytes", "[I", true)
  | _ => ("TrapGate$Memory", "entries", "[I", true)
def tyX0 : Nat → FieldType := fun k => match k with
  | 0 => .array .int
  | _ => .array .int
theorem nmX0 : ∀ a, a < 2 → ∀ b, b < 2 → a ≠ b → (TX0 a).2.1 ≠ (TX0 b).2.1 := by decide +kernel
theorem tyX0_ok : ∀ k, k < 2 → parseFieldDescriptor (TX0 k).2.2.1 = some (tyX0 k) := by decide +kernel
def RX1 : String := "TrapGate$Names"
def TX1 : u_T := fun k => match k with
  | 0 => ("TrapGate$Names", "texts", "[J", true)
  | 1 => ("TrapGate$Names", "files", "[I", true)
  | _ => ("TrapGate$Names", "size", "I", false)
def tyX1 : Nat → FieldType := fun k => match k with
  | 0 => .array .long
  | 1 => .array .int
  | _ => .int
theorem nmX1 : ∀ a, a < 3 → ∀ b, b < 3 → a ≠ b → (TX1 a).2.1 ≠ (TX1 b).2.1 := by decide +kernel
theorem tyX1_ok : ∀ k, k < 3 → parseFieldDescriptor (TX1 k).2.2.1 = some (tyX1 k) := by decide +kernel
def RX2 : String := "TrapGate$Opens"
def TX2 : u_T := fun k => match k with
  | 0 => ("TrapGate$Opens", "standsFor", "[I", true)
  | 1 => ("TrapGate$Opens", "holders", "[I", true)
  | 2 => ("TrapGate$Opens", "targets", "[I", true)
  | 3 => ("TrapGate$Opens", "modes", "[I", true)
  | _ => ("TrapGate$Opens", "positions", "[I", true)
def tyX2 : Nat → FieldType := fun k => match k with
  | 0 => .array .int
  | 1 => .array .int
  | 2 => .array .int
  | 3 => .array .int
  | _ => .array .int
theorem nmX2 : ∀ a, a < 5 → ∀ b, b < 5 → a ≠ b → (TX2 a).2.1 ≠ (TX2 b).2.1 := by decide +kernel
theorem tyX2_ok : ∀ k, k < 5 → parseFieldDescriptor (TX2 k).2.2.1 = some (tyX2 k) := by decide +kernel
def RX3 : String := "TrapGate$Pipe"
def TX3 : u_T := fun k => match k with
  | 0 => ("TrapGate$Pipe", "bytes", "[I", true)
  | _ => ("TrapGate$Pipe", "size", "I", false)
def tyX3 : Nat → FieldType := fun k => match k with
  | 0 => .array .int
  | _ => .int
theorem nmX3 : ∀ a, a < 2 → ∀ b, b < 2 → a ≠ b → (TX3 a).2.1 ≠ (TX3 b).2.1 := by decide +kernel
theorem tyX3_ok : ∀ k, k < 2 → parseFieldDescriptor (TX3 k).2.2.1 = some (tyX3 k) := by decide +kernel
def RX4 : String := "TrapGate$Ranges"
def TX4 : u_T := fun k => match k with
  | 0 => ("TrapGate$Ranges", "starts", "[I", true)
  | 1 => ("TrapGate$Ranges", "lengths", "[I", true)
  | _ => ("TrapGate$Ranges", "size", "I", false)
def tyX4 : Nat → FieldType := fun k => match k with
  | 0 => .array .int
  | 1 => .array .int
  | _ => .int
theorem nmX4 : ∀ a, a < 3 → ∀ b, b < 3 → a ≠ b → (TX4 a).2.1 ≠ (TX4 b).2.1 := by decide +kernel
theorem tyX4_ok : ∀ k, k < 3 → parseFieldDescriptor (TX4 k).2.2.1 = some (tyX4 k) := by decide +kernel
def RX5 : String := "TrapGate$StoredFile"
def TX5 : u_T := fun k => match k with
  | 0 => ("TrapGate$StoredFile", "bytes", "[I", true)
  | _ => ("TrapGate$StoredFile", "length", "I", false)
def tyX5 : Nat → FieldType := fun k => match k with
  | 0 => .array .int
  | _ => .int
theorem nmX5 : ∀ a, a < 2 → ∀ b, b < 2 → a ≠ b → (TX5 a).2.1 ≠ (TX5 b).2.1 := by decide +kernel
theorem tyX5_ok : ∀ k, k < 2 → parseFieldDescriptor (TX5 k).2.2.1 = some (tyX5 k) := by decide +kernel
def RX6 : String := "TrapGate"
def TX6 : u_T := fun k => match k with
  | 0 => ("TrapGate", "memory", "LTrapGate$Memory;", true)
  | 1 => ("TrapGate", "registers", "[I", true)
  | 2 => ("TrapGate", "names", "LTrapGate$Names;", true)
  | 3 => ("TrapGate", "opens", "LTrapGate$Opens;", true)
  | 4 => ("TrapGate", "files", "[LTrapGate$StoredFile;", true)
  | 5 => ("TrapGate", "pipes", "[LTrapGate$Pipe;", true)
  | 6 => ("TrapGate", "ranges", "LTrapGate$Ranges;", true)
  | 7 => ("TrapGate", "buffer", "[I", true)
  | _ => ("TrapGate", "trapsMade", "I", false)
def tyX6 : Nat → FieldType := fun k => match k with
  | 0 => .object "TrapGate$Memory"
  | 1 => .array .int
  | 2 => .object "TrapGate$Names"
  | 3 => .object "TrapGate$Opens"
  | 4 => .array (.object "TrapGate$StoredFile")
  | 5 => .array (.object "TrapGate$Pipe")
  | 6 => .object "TrapGate$Ranges"
  | 7 => .array .int
  | _ => .int
theorem nmX6 : ∀ a, a < 9 → ∀ b, b < 9 → a ≠ b → (TX6 a).2.1 ≠ (TX6 b).2.1 := by decide +kernel
theorem tyX6_ok : ∀ k, k < 9 → parseFieldDescriptor (TX6 k).2.2.1 = some (tyX6 k) := by decide +kernel
def RX7 : String := "TrapGateModel"
def TX7 : u_T := fun k => match k with
  | 0 => ("TrapGateModel", "memory", "[I", true)
  | 1 => ("TrapGateModel", "frames", "[I", true)
  | 2 => ("TrapGateModel", "flags", "[I", true)
  | 3 => ("TrapGateModel", "registers", "[I", true)
  | 4 => ("TrapGateModel", "traps", "I", false)
  | 5 => ("TrapGateModel", "file", "[Z", true)
  | 6 => ("TrapGateModel", "size", "[I", true)
  | 7 => ("TrapGateModel", "data", "[I", true)
  | 8 => ("TrapGateModel", "nameSize", "[I", true)
  | 9 => ("TrapGateModel", "nameBytes", "[I", true)
  | 10 => ("TrapGateModel", "nameFile", "[I", true)
  | 11 => ("TrapGateModel", "kind", "[I", true)
  | 12 => ("TrapGateModel", "of", "[I", true)
  | 13 => ("TrapGateModel", "position", "[I", true)
  | 14 => ("TrapGateModel", "mode", "[I", true)
  | 15 => ("TrapGateModel", "pipe", "[Z", true)
  | 16 => ("TrapGateModel", "held", "[I", true)
  | 17 => ("TrapGateModel", "inPipe", "[I", true)
  | 18 => ("TrapGateModel", "descriptor", "[I", true)
  | 19 => ("TrapGateModel", "who", "I", false)
  | 20 => ("TrapGateModel", "a0", "I", false)
  | 21 => ("TrapGateModel", "a1", "I", false)
  | 22 => ("TrapGateModel", "a2", "I", false)
  | 23 => ("TrapGateModel", "spots", "I", false)
  | 24 => ("TrapGateModel", "spot", "[I", true)
  | 25 => ("TrapGateModel", "taken", "[I", true)
  | 26 => ("TrapGateModel", "text", "[I", true)
  | _ => ("TrapGateModel", "textSize", "[I", true)
def tyX7 : Nat → FieldType := fun k => match k with
  | 0 => .array .int
  | 1 => .array .int
  | 2 => .array .int
  | 3 => .array .int
  | 4 => .int
  | 5 => .array .boolean
  | 6 => .array .int
  | 7 => .array .int
  | 8 => .array .int
  | 9 => .array .int
  | 10 => .array .int
  | 11 => .array .int
  | 12 => .array .int
  | 13 => .array .int
  | 14 => .array .int
  | 15 => .array .boolean
  | 16 => .array .int
  | 17 => .array .int
  | 18 => .array .int
  | 19 => .int
  | 20 => .int
  | 21 => .int
  | 22 => .int
  | 23 => .int
  | 24 => .array .int
  | 25 => .array .int
  | 26 => .array .int
  | _ => .array .int
theorem nmX7 : ∀ a, a < 28 → ∀ b, b < 28 → a ≠ b → (TX7 a).2.1 ≠ (TX7 b).2.1 := by decide +kernel
theorem tyX7_ok : ∀ k, k < 28 → parseFieldDescriptor (TX7 k).2.2.1 = some (tyX7 k) := by decide +kernel
abbrev o_cl : List vw_C := [(RX0, TX0, 2), (RX1, TX1, 3), (RX2, TX2, 5), (RX3, TX3, 2), (RX4, TX4, 3), (RX5, TX5, 2), (RX6, TX6, 9), (RX7, TX7, 28)]
