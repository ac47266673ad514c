def RX0 : String := "BlockLog$Bytes"
def TX0 : u_T := fun k => match k with
  | _ => ("", "", "", false)
def tyX0 : Nat → FieldType := fun k => match k with
  | _ => .int
abbrev wsX00 : List Cond := u_ws RX0 TX0 0
theorem nmX0 : ∀ a, a < 0 → ∀ b, b < 0 → a ≠ b → (TX0 a).2.1 ≠ (TX0 b).2.1 := by decide +kernel
theorem tyX0_ok : ∀ k, k < 0 → parseFieldDescriptor (TX0 k).2.2.1 = some (tyX0 k) := by decide +kernel
def RX1 : String := "BlockLog$Disk"
def TX1 : u_T := fun k => match k with
  | 0 => ("BlockLog$Disk", "pageCount", "I", true)
  | 1 => ("BlockLog$Disk", "low", "[B", true)
  | 2 => ("BlockLog$Disk", "rowStates", "[B", true)
  | 3 => ("BlockLog$Disk", "touched", "Ljava/util/ArrayList;", true)
  | 4 => ("BlockLog$Disk", "powered", "Z", false)
  | 5 => ("BlockLog$Disk", "actsLeft", "I", false)
  | _ => ("BlockLog$Disk", "actsDone", "I", false)
def tyX1 : Nat → FieldType := fun k => match k with
  | 0 => .int
  | 1 => .array .byte
  | 2 => .array .byte
  | 3 => .object "java/util/ArrayList"
  | 4 => .boolean
  | 5 => .int
  | _ => .int
abbrev wsX10 : List Cond := u_ws RX1 TX1 7
theorem nmX1 : ∀ a, a < 7 → ∀ b, b < 7 → a ≠ b → (TX1 a).2.1 ≠ (TX1 b).2.1 := by decide +kernel
theorem tyX1_ok : ∀ k, k < 7 → parseFieldDescriptor (TX1 k).2.2.1 = some (tyX1 k) := by decide +kernel
def RX2 : String := "BlockLog$Page"
def TX2 : u_T := fun k => match k with
  | 0 => ("BlockLog$Page", "number", "I", true)
  | 1 => ("BlockLog$Page", "bytes", "[B", true)
  | _ => ("BlockLog$Page", "known", "I", false)
def tyX2 : Nat → FieldType := fun k => match k with
  | 0 => .int
  | 1 => .array .byte
  | _ => .int
abbrev wsX20 : List Cond := u_ws RX2 TX2 3
theorem nmX2 : ∀ a, a < 3 → ∀ b, b < 3 → a ≠ b → (TX2 a).2.1 ≠ (TX2 b).2.1 := by decide +kernel
theorem tyX2_ok : ∀ k, k < 3 → parseFieldDescriptor (TX2 k).2.2.1 = some (tyX2 k) := by decide +kernel
def RX3 : String := "BlockLog$Pruning"
def TX3 : u_T := fun k => match k with
  | 0 => ("BlockLog$Pruning", "disk", "LBlockLog$Disk;", true)
  | 1 => ("BlockLog$Pruning", "rows", "LBlockLog$Rows;", true)
  | 2 => ("BlockLog$Pruning", "story", "LBlockLog$Story;", true)
  | _ => ("BlockLog$Pruning", "keeps", "[Z", true)
def tyX3 : Nat → FieldType := fun k => match k with
  | 0 => .object "BlockLog$Disk"
  | 1 => .object "BlockLog$Rows"
  | 2 => .object "BlockLog$Story"
  | _ => .array .boolean
abbrev wsX30 : List Cond := u_ws RX3 TX3 4
theorem nmX3 : ∀ a, a < 4 → ∀ b, b < 4 → a ≠ b → (TX3 a).2.1 ≠ (TX3 b).2.1 := by decide +kernel
theorem tyX3_ok : ∀ k, k < 4 → parseFieldDescriptor (TX3 k).2.2.1 = some (tyX3 k) := by decide +kernel
def RX4 : String := "BlockLog$Rows"
def TX4 : u_T := fun k => match k with
  | 0 => ("BlockLog$Rows", "disk", "LBlockLog$Disk;", true)
  | 1 => ("BlockLog$Rows", "image", "[B", true)
  | 2 => ("BlockLog$Rows", "area", "I", false)
  | 3 => ("BlockLog$Rows", "generation", "I", false)
  | 4 => ("BlockLog$Rows", "count", "I", false)
  | _ => ("BlockLog$Rows", "bad", "I", false)
def tyX4 : Nat → FieldType := fun k => match k with
  | 0 => .object "BlockLog$Disk"
  | 1 => .array .byte
  | 2 => .int
  | 3 => .int
  | 4 => .int
  | _ => .int
abbrev wsX40 : List Cond := u_ws RX4 TX4 6
theorem nmX4 : ∀ a, a < 6 → ∀ b, b < 6 → a ≠ b → (TX4 a).2.1 ≠ (TX4 b).2.1 := by decide +kernel
theorem tyX4_ok : ∀ k, k < 6 → parseFieldDescriptor (TX4 k).2.2.1 = some (tyX4 k) := by decide +kernel
def RX5 : String := "BlockLog$Snapshot"
def TX5 : u_T := fun k => match k with
  | 0 => ("BlockLog$Snapshot", "slots", "[I", true)
  | 1 => ("BlockLog$Snapshot", "starts", "[I", true)
  | 2 => ("BlockLog$Snapshot", "sizes", "[I", true)
  | 3 => ("BlockLog$Snapshot", "digests", "[J", true)
  | 4 => ("BlockLog$Snapshot", "height", "I", false)
  | 5 => ("BlockLog$Snapshot", "block", "J", false)
  | _ => ("BlockLog$Snapshot", "count", "I", false)
def tyX5 : Nat → FieldType := fun k => match k with
  | 0 => .array .int
  | 1 => .array .int
  | 2 => .array .int
  | 3 => .array .long
  | 4 => .int
  | 5 => .long
  | _ => .int
abbrev wsX50 : List Cond := u_ws RX5 TX5 7
theorem nmX5 : ∀ a, a < 7 → ∀ b, b < 7 → a ≠ b → (TX5 a).2.1 ≠ (TX5 b).2.1 := by decide +kernel
theorem tyX5_ok : ∀ k, k < 7 → parseFieldDescriptor (TX5 k).2.2.1 = some (tyX5 k) := by decide +kernel
def RX6 : String := "BlockLog$Story"
def TX6 : u_T := fun k => match k with
  | 0 => ("BlockLog$Story", "rows", "LBlockLog$Rows;", true)
  | 1 => ("BlockLog$Story", "digests", "[J", true)
  | 2 => ("BlockLog$Story", "isBlock", "[Z", true)
  | 3 => ("BlockLog$Story", "inBlock", "[Z", true)
  | 4 => ("BlockLog$Story", "fits", "[Z", true)
  | 5 => ("BlockLog$Story", "chain", "[I", true)
  | 6 => ("BlockLog$Story", "slots", "[J", true)
  | 7 => ("BlockLog$Story", "heard", "I", false)
  | 8 => ("BlockLog$Story", "certified", "I", false)
  | 9 => ("BlockLog$Story", "lastVote", "I", false)
  | 10 => ("BlockLog$Story", "based", "Z", false)
  | _ => ("BlockLog$Story", "baseHeight", "I", false)
def tyX6 : Nat → FieldType := fun k => match k with
  | 0 => .object "BlockLog$Rows"
  | 1 => .array .long
  | 2 => .array .boolean
  | 3 => .array .boolean
  | 4 => .array .boolean
  | 5 => .array .int
  | 6 => .array .long
  | 7 => .int
  | 8 => .int
  | 9 => .int
  | 10 => .boolean
  | _ => .int
abbrev wsX60 : List Cond := u_ws RX6 TX6 12
theorem nmX6 : ∀ a, a < 12 → ∀ b, b < 12 → a ≠ b → (TX6 a).2.1 ≠ (TX6 b).2.1 := by decide +kernel
theorem tyX6_ok : ∀ k, k < 12 → parseFieldDescriptor (TX6 k).2.2.1 = some (tyX6 k) := by decide +kernel
def RX7 : String := "BlockLog$Tape"
def TX7 : u_T := fun k => match k with
  | 0 => ("BlockLog$Tape", "bytes", "[B", true)
  | _ => ("BlockLog$Tape", "count", "I", false)
def tyX7 : Nat → FieldType := fun k => match k with
  | 0 => .array .byte
  | _ => .int
abbrev wsX70 : List Cond := u_ws RX7 TX7 2
theorem nmX7 : ∀ a, a < 2 → ∀ b, b < 2 → a ≠ b → (TX7 a).2.1 ≠ (TX7 b).2.1 := by decide +kernel
theorem tyX7_ok : ∀ k, k < 2 → parseFieldDescriptor (TX7 k).2.2.1 = some (tyX7 k) := by decide +kernel
def RX8 : String := "BlockLog"
def TX8 : u_T := fun k => match k with
  | 0 => ("BlockLog", "tape", "LBlockLog$Tape;", true)
  | 1 => ("BlockLog", "disk", "LBlockLog$Disk;", true)
  | 2 => ("BlockLog", "rows", "LBlockLog$Rows;", true)
  | 3 => ("BlockLog", "story", "LBlockLog$Story;", true)
  | 4 => ("BlockLog", "pruning", "LBlockLog$Pruning;", true)
  | 5 => ("BlockLog", "snapshot", "LBlockLog$Snapshot;", true)
  | 6 => ("BlockLog", "pageImage", "[B", true)
  | 7 => ("BlockLog", "collectedSlots", "[I", true)
  | 8 => ("BlockLog", "collectedLeaves", "[J", true)
  | _ => ("BlockLog", "collected", "I", false)
def tyX8 : Nat → FieldType := fun k => match k with
  | 0 => .object "BlockLog$Tape"
  | 1 => .object "BlockLog$Disk"
  | 2 => .object "BlockLog$Rows"
  | 3 => .object "BlockLog$Story"
  | 4 => .object "BlockLog$Pruning"
  | 5 => .object "BlockLog$Snapshot"
  | 6 => .array .byte
  | 7 => .array .int
  | 8 => .array .long
  | _ => .int
abbrev wsX80 : List Cond := u_ws RX8 TX8 10
theorem nmX8 : ∀ a, a < 10 → ∀ b, b < 10 → a ≠ b → (TX8 a).2.1 ≠ (TX8 b).2.1 := by decide +kernel
theorem tyX8_ok : ∀ k, k < 10 → parseFieldDescriptor (TX8 k).2.2.1 = some (tyX8 k) := by decide +kernel
def RX9 : String := "BlockLogModel"
def TX9 : u_T := fun k => match k with
  | 0 => ("BlockLogModel", "disk", "[I", true)
  | 1 => ("BlockLogModel", "pages", "I", false)
  | 2 => ("BlockLogModel", "size", "I", false)
  | 3 => ("BlockLogModel", "on", "Z", false)
  | 4 => ("BlockLogModel", "acts", "I", false)
  | 5 => ("BlockLogModel", "power", "I", false)
  | 6 => ("BlockLogModel", "dark", "Z", false)
  | 7 => ("BlockLogModel", "area", "I", false)
  | 8 => ("BlockLogModel", "tape", "[I", true)
  | 9 => ("BlockLogModel", "tapeSize", "I", false)
  | 10 => ("BlockLogModel", "slots", "[I", true)
  | 11 => ("BlockLogModel", "leaves", "[J", true)
  | 12 => ("BlockLogModel", "collected", "I", false)
  | 13 => ("BlockLogModel", "thrown", "I", false)
  | 14 => ("BlockLogModel", "fresh", "[I", true)
  | 15 => ("BlockLogModel", "rowsNow", "I", false)
  | 16 => ("BlockLogModel", "many", "I", false)
  | 17 => ("BlockLogModel", "needs", "Z", false)
  | 18 => ("BlockLogModel", "digestAt", "[J", true)
  | 19 => ("BlockLogModel", "isGroup", "[Z", true)
  | 20 => ("BlockLogModel", "counts", "[Z", true)
  | 21 => ("BlockLogModel", "lastVote", "I", false)
  | 22 => ("BlockLogModel", "baseHeight", "I", false)
  | 23 => ("BlockLogModel", "baseDigest", "J", false)
  | 24 => ("BlockLogModel", "hasBase", "Z", false)
  | 25 => ("BlockLogModel", "versionRow", "[I", true)
  | 26 => ("BlockLogModel", "lastVersion", "I", false)
  | 27 => ("BlockLogModel", "lastDigest", "J", false)
  | 28 => ("BlockLogModel", "state", "[J", true)
  | 29 => ("BlockLogModel", "names", "[J", true)
  | 30 => ("BlockLogModel", "named", "I", false)
  | 31 => ("BlockLogModel", "keptRow", "[I", true)
  | 32 => ("BlockLogModel", "kept", "I", false)
  | 33 => ("BlockLogModel", "inSlot", "[I", true)
  | 34 => ("BlockLogModel", "inAt", "[I", true)
  | 35 => ("BlockLogModel", "inSize", "[I", true)
  | 36 => ("BlockLogModel", "inDigest", "[J", true)
  | _ => ("BlockLogModel", "inMany", "I", false)
def tyX9 : Nat → FieldType := fun k => match k with
  | 0 => .array .int
  | 1 => .int
  | 2 => .int
  | 3 => .boolean
  | 4 => .int
  | 5 => .int
  | 6 => .boolean
  | 7 => .int
  | 8 => .array .int
  | 9 => .int
  | 10 => .array .int
  | 11 => .array .long
  | 12 => .int
  | 13 => .int
  | 14 => .array .int
  | 15 => .int
  | 16 => .int
  | 17 => .boolean
  | 18 => .array .long
  | 19 => .array .boolean
  | 20 => .array .boolean
  | 21 => .int
  | 22 => .int
  | 23 => .long
  | 24 => .boolean
  | 25 => .array .int
  | 26 => .int
  | 27 => .long
  | 28 => .array .long
  | 29 => .array .long
  | 30 => .int
  | 31 => .array .int
  | 32 => .int
  | 33 => .array .int
  | 34 => .array .int
  | 35 => .array .int
  | 36 => .array .long
  | _ => .int
abbrev wsX90 : List Cond := u_ws RX9 TX9 38
theorem nmX9 : ∀ a, a < 38 → ∀ b, b < 38 → a ≠ b → (TX9 a).2.1 ≠ (TX9 b).2.1 := by decide +kernel
theorem tyX9_ok : ∀ k, k < 38 → parseFieldDescriptor (TX9 k).2.2.1 = some (tyX9 k) := by decide +kernel
abbrev cX9_more : ByteArray := prog_11_method_8_code
def yX9_more : MethodName := ⟨RX9, "more", "(JI)J"⟩
def RJ0 : String := "java/lang/String"
def TJ0 : u_T := fun k => match k with
  | 0 => ("java/lang/String", "value", "[B", true)
  | 1 => ("java/lang/String", "coder", "B", true)
  | 2 => ("java/lang/String", "hash", "I", false)
  | _ => ("java/lang/String", "hashIsZero", "Z", false)
def RJ4 : String := "java/lang/StringBuilder"
def TJ4 : u_T := fun k => match k with
  | 0 => ("java/lang/AbstractStringBuilder", "value", "[B", false)
  | 1 => ("java/lang/AbstractStringBuilder", "coder", "B", false)
  | 2 => ("java/lang/AbstractStringBuilder", "maybeLatin1", "Z", false)
  | _ => ("java/lang/AbstractStringBuilder", "count", "I", false)
def RJx4a65c : String := "java/util/ArrayList"
def TJx4a65c : u_T := fun k => match k with
  | 0 => ("java/util/AbstractList", "modCount", "I", false)
  | 1 => ("java/util/ArrayList", "elementData", "[Ljava/lang/Object;", false)
  | _ => ("java/util/ArrayList", "size", "I", false)
def RL : String := "BlockLogLaw"
def wsX9_more : List Cond := .code yX9_more cX9_more 5 (some .long) :: ([.constantLong RX9 100 (-4417276706812531889)])
abbrev vwCl : List vw_C := [(RJ0, TJ0, 4), (RJ4, TJ4, 4), (RJx4a65c, TJx4a65c, 3), (RX1, TX1, 7), (RX2, TX2, 3), (RX3, TX3, 4), (RX4, TX4, 6), (RX5, TX5, 7), (RX6, TX6, 12), (RX7, TX7, 2), (RX8, TX8, 10), (RX9, TX9, 38)]
