def RX0 : String := "BlockLog$Bytes"
def TX0 : u_T := fun k => match k with
  | _ => ("", "", "", false)
def tyX0 : Nat → FieldType := fun k => match k with
  | _ => .int
abbrev wsX00 : List Cond := u_ws RX0 TX0 0
theorem nmX0 : ∀ a, a < 0 → ∀ b, b < 0 → a ≠ b → (TX0 a).2.1 ≠ (TX0 b).2.1 := by decide +kernel
theorem tyX0_ok : ∀ k, k < 0 → parseFieldDescriptor (TX0 k).2.2.1 = some (tyX0 k) := by decide +kernel
abbrev cX0_start : ByteArray := prog_2_method_2_code
def yX0_start : MethodName := ⟨RX0, "start", "(I)J"⟩
abbrev cX0_add : ByteArray := prog_2_method_3_code
def yX0_add : MethodName := ⟨RX0, "add", "(JI)J"⟩
abbrev cX0_sum : ByteArray := prog_2_method_6_code
def yX0_sum : MethodName := ⟨RX0, "sum", "([BIII)J"⟩
abbrev cX0_putInt : ByteArray := prog_2_method_9_code
def yX0_putInt : MethodName := ⟨RX0, "putInt", "([BII)V"⟩
abbrev cX0_putLong : ByteArray := prog_2_method_10_code
def yX0_putLong : MethodName := ⟨RX0, "putLong", "([BIJ)V"⟩
def RX1 : String := "BlockLog$Disk"
def TX1 : u_T := fun k => match k with
  | 0 => ("BlockLog$Disk", "pageCount", "I", true)
  | 1 => ("BlockLog$Disk", "low", "[B", true)
  | 2 => ("BlockLog$Disk", "rowStates", "[B", true)
  | 3 => ("BlockLog$Disk", "touched", "Ljava/util/ArrayList;", true)
  | 4 => ("BlockLog$Disk", "powered", "Z", false)
  | 5 => ("BlockLog$Disk", "actsLeft", "I", false)
  | _ => ("BlockLog$Disk", "actsDone", "I", false)
def tyX1 : Nat → FieldType := fun k => match k with
  | 0 => .int
  | 1 => .array .byte
  | 2 => .array .byte
  | 3 => .object "java/util/ArrayList"
  | 4 => .boolean
  | 5 => .int
  | _ => .int
abbrev wsX10 : List Cond := u_ws RX1 TX1 7
theorem nmX1 : ∀ a, a < 7 → ∀ b, b < 7 → a ≠ b → (TX1 a).2.1 ≠ (TX1 b).2.1 := by decide +kernel
theorem tyX1_ok : ∀ k, k < 7 → parseFieldDescriptor (TX1 k).2.2.1 = some (tyX1 k) := by decide +kernel
def RX2 : String := "BlockLog$Page"
def TX2 : u_T := fun k => match k with
  | 0 => ("BlockLog$Page", "number", "I", true)
  | 1 => ("BlockLog$Page", "bytes", "[B", true)
  | _ => ("BlockLog$Page", "known", "I", false)
def tyX2 : Nat → FieldType := fun k => match k with
  | 0 => .int
  | 1 => .array .byte
  | _ => .int
abbrev wsX20 : List Cond := u_ws RX2 TX2 3
theorem nmX2 : ∀ a, a < 3 → ∀ b, b < 3 → a ≠ b → (TX2 a).2.1 ≠ (TX2 b).2.1 := by decide +kernel
theorem tyX2_ok : ∀ k, k < 3 → parseFieldDescriptor (TX2 k).2.2.1 = some (tyX2 k) := by decide +kernel
def RX3 : String := "BlockLog$Pruning"
def TX3 : u_T := fun k => match k with
  | 0 => ("BlockLog$Pruning", "disk", "LBlockLog$Disk;", true)
  | 1 => ("BlockLog$Pruning", "rows", "LBlockLog$Rows;", true)
  | 2 => ("BlockLog$Pruning", "story", "LBlockLog$Story;", true)
  | _ => ("BlockLog$Pruning", "keeps", "[Z", true)
def tyX3 : Nat → FieldType := fun k => match k with
  | 0 => .object "BlockLog$Disk"
  | 1 => .object "BlockLog$Rows"
  | 2 => .object "BlockLog$Story"
  | _ => .array .boolean
abbrev wsX30 : List Cond := u_ws RX3 TX3 4
theorem nmX3 : ∀ a, a < 4 → ∀ b, b < 4 → a ≠ b → (TX3 a).2.1 ≠ (TX3 b).2.1 := by decide +kernel
theorem tyX3_ok : ∀ k, k < 4 → parseFieldDescriptor (TX3 k).2.2.1 = some (tyX3 k) := by decide +kernel
def RX4 : String := "BlockLog$Rows"
def TX4 : u_T := fun k => match k with
  | 0 => ("BlockLog$Rows", "disk", "LBlockLog$Disk;", true)
  | 1 => ("BlockLog$Rows", "image", "[B", true)
  | 2 => ("BlockLog$Rows", "area", "I", false)
  | 3 => ("BlockLog$Rows", "generation", "I", false)
  | 4 => ("BlockLog$Rows", "count", "I", false)
  | _ => ("BlockLog$Rows", "bad", "I", false)
def tyX4 : Nat → FieldType := fun k => match k with
  | 0 => .object "BlockLog$Disk"
  | 1 => .array .byte
  | 2 => .int
  | 3 => .int
  | 4 => .int
  | _ => .int
abbrev wsX40 : List Cond := u_ws RX4 TX4 6
theorem nmX4 : ∀ a, a < 6 → ∀ b, b < 6 → a ≠ b → (TX4 a).2.1 ≠ (TX4 b).2.1 := by decide +kernel
theorem tyX4_ok : ∀ k, k < 6 → parseFieldDescriptor (TX4 k).2.2.1 = some (tyX4 k) := by decide +kernel
abbrev cX4_init : ByteArray := prog_6_method_1_code
def yX4_init : MethodName := ⟨RX4, "<init>", "(LBlockLog$Disk;)V"⟩
abbrev cX4_drawHead : ByteArray := prog_6_method_10_code
def yX4_drawHead : MethodName := ⟨RX4, "drawHead", "(I)V"⟩
def RX5 : String := "BlockLog$Snapshot"
def TX5 : u_T := fun k => match k with
  | 0 => ("BlockLog$Snapshot", "slots", "[I", true)
  | 1 => ("BlockLog$Snapshot", "starts", "[I", true)
  | 2 => ("BlockLog$Snapshot", "sizes", "[I", true)
  | 3 => ("BlockLog$Snapshot", "digests", "[J", true)
  | 4 => ("BlockLog$Snapshot", "height", "I", false)
  | 5 => ("BlockLog$Snapshot", "block", "J", false)
  | _ => ("BlockLog$Snapshot", "count", "I", false)
def tyX5 : Nat → FieldType := fun k => match k with
  | 0 => .array .int
  | 1 => .array .int
  | 2 => .array .int
  | 3 => .array .long
  | 4 => .int
  | 5 => .long
  | _ => .int
abbrev wsX50 : List Cond := u_ws RX5 TX5 7
theorem nmX5 : ∀ a, a < 7 → ∀ b, b < 7 → a ≠ b → (TX5 a).2.1 ≠ (TX5 b).2.1 := by decide +kernel
theorem tyX5_ok : ∀ k, k < 7 → parseFieldDescriptor (TX5 k).2.2.1 = some (tyX5 k) := by decide +kernel
def RX6 : String := "BlockLog$Story"
def TX6 : u_T := fun k => match k with
  | 0 => ("BlockLog$Story", "rows", "LBlockLog$Rows;", true)
  | 1 => ("BlockLog$Story", "digests", "[J", true)
  | 2 => ("BlockLog$Story", "isBlock", "[Z", true)
  | 3 => ("BlockLog$Story", "inBlock", "[Z", true)
  | 4 => ("BlockLog$Story", "fits", "[Z", true)
  | 5 => ("BlockLog$Story", "chain", "[I", true)
  | 6 => ("BlockLog$Story", "slots", "[J", true)
  | 7 => ("BlockLog$Story", "heard", "I", false)
  | 8 => ("BlockLog$Story", "certified", "I", false)
  | 9 => ("BlockLog$Story", "lastVote", "I", false)
  | 10 => ("BlockLog$Story", "based", "Z", false)
  | _ => ("BlockLog$Story", "baseHeight", "I", false)
def tyX6 : Nat → FieldType := fun k => match k with
  | 0 => .object "BlockLog$Rows"
  | 1 => .array .long
  | 2 => .array .boolean
  | 3 => .array .boolean
  | 4 => .array .boolean
  | 5 => .array .int
  | 6 => .array .long
  | 7 => .int
  | 8 => .int
  | 9 => .int
  | 10 => .boolean
  | _ => .int
abbrev wsX60 : List Cond := u_ws RX6 TX6 12
theorem nmX6 : ∀ a, a < 12 → ∀ b, b < 12 → a ≠ b → (TX6 a).2.1 ≠ (TX6 b).2.1 := by decide +kernel
theorem tyX6_ok : ∀ k, k < 12 → parseFieldDescriptor (TX6 k).2.2.1 = some (tyX6 k) := by decide +kernel
def RX7 : String := "BlockLog$Tape"
def TX7 : u_T := fun k => match k with
  | 0 => ("BlockLog$Tape", "bytes", "[B", true)
  | _ => ("BlockLog$Tape", "count", "I", false)
def tyX7 : Nat → FieldType := fun k => match k with
  | 0 => .array .byte
  | _ => .int
abbrev wsX70 : List Cond := u_ws RX7 TX7 2
theorem nmX7 : ∀ a, a < 2 → ∀ b, b < 2 → a ≠ b → (TX7 a).2.1 ≠ (TX7 b).2.1 := by decide +kernel
theorem tyX7_ok : ∀ k, k < 2 → parseFieldDescriptor (TX7 k).2.2.1 = some (tyX7 k) := by decide +kernel
def RX8 : String := "BlockLog"
def TX8 : u_T := fun k => match k with
  | 0 => ("BlockLog", "tape", "LBlockLog$Tape;", true)
  | 1 => ("BlockLog", "disk", "LBlockLog$Disk;", true)
  | 2 => ("BlockLog", "rows", "LBlockLog$Rows;", true)
  | 3 => ("BlockLog", "story", "LBlockLog$Story;", true)
  | 4 => ("BlockLog", "pruning", "LBlockLog$Pruning;", true)
  | 5 => ("BlockLog", "snapshot", "LBlockLog$Snapshot;", true)
  | 6 => ("BlockLog", "pageImage", "[B", true)
  | 7 => ("BlockLog", "collectedSlots", "[I", true)
  | 8 => ("BlockLog", "collectedLeaves", "[J", true)
  | _ => ("BlockLog", "collected", "I", false)
def tyX8 : Nat → FieldType := fun k => match k with
  | 0 => .object "BlockLog$Tape"
  | 1 => .object "BlockLog$Disk"
  | 2 => .object "BlockLog$Rows"
  | 3 => .object "BlockLog$Story"
  | 4 => .object "BlockLog$Pruning"
  | 5 => .object "BlockLog$Snapshot"
  | 6 => .array .byte
  | 7 => .array .int
  | 8 => .array .long
  | _ => .int
abbrev wsX80 : List Cond := u_ws RX8 TX8 10
theorem nmX8 : ∀ a, a < 10 → ∀ b, b < 10 → a ≠ b → (TX8 a).2.1 ≠ (TX8 b).2.1 := by decide +kernel
theorem tyX8_ok : ∀ k, k < 10 → parseFieldDescriptor (TX8 k).2.2.1 = some (tyX8 k) := by decide +kernel
def RX9 : String := "BlockLogModel"
def TX9 : u_T := fun k => match k with
  | 0 => ("BlockLogModel", "disk", "[I", true)
  | 1 => ("BlockLogModel", "pages", "I", false)
  | 2 => ("BlockLogModel", "size", "I", false)
  | 3 => ("BlockLogModel", "on", "Z", false)
  | 4 => ("BlockLogModel", "acts", "I", false)
  | 5 => ("BlockLogModel", "power", "I", false)
  | 6 => ("BlockLogModel", "dark", "Z", false)
  | 7 => ("BlockLogModel", "area", "I", false)
  | 8 => ("BlockLogModel", "tape", "[I", true)
  | 9 => ("BlockLogModel", "tapeSize", "I", false)
  | 10 => ("BlockLogModel", "slots", "[I", true)
  | 11 => ("BlockLogModel", "leaves", "[J", true)
  | 12 => ("BlockLogModel", "collected", "I", false)
  | 13 => ("BlockLogModel", "thrown", "I", false)
  | 14 => ("BlockLogModel", "fresh", "[I", true)
  | 15 => ("BlockLogModel", "rowsNow", "I", false)
  | 16 => ("BlockLogModel", "many", "I", false)
  | 17 => ("BlockLogModel", "needs", "Z", false)
  | 18 => ("BlockLogModel", "digestAt", "[J", true)
  | 19 => ("BlockLogModel", "isGroup", "[Z", true)
  | 20 => ("BlockLogModel", "counts", "[Z", true)
  | 21 => ("BlockLogModel", "lastVote", "I", false)
  | 22 => ("BlockLogModel", "baseHeight", "I", false)
  | 23 => ("BlockLogModel", "baseDigest", "J", false)
  | 24 => ("BlockLogModel", "hasBase", "Z", false)
  | 25 => ("BlockLogModel", "versionRow", "[I", true)
  | 26 => ("BlockLogModel", "lastVersion", "I", false)
  | 27 => ("BlockLogModel", "lastDigest", "J", false)
  | 28 => ("BlockLogModel", "state", "[J", true)
  | 29 => ("BlockLogModel", "names", "[J", true)
  | 30 => ("BlockLogModel", "named", "I", false)
  | 31 => ("BlockLogModel", "keptRow", "[I", true)
  | 32 => ("BlockLogModel", "kept", "I", false)
  | 33 => ("BlockLogModel", "inSlot", "[I", true)
  | 34 => ("BlockLogModel", "inAt", "[I", true)
  | 35 => ("BlockLogModel", "inSize", "[I", true)
  | 36 => ("BlockLogModel", "inDigest", "[J", true)
  | _ => ("BlockLogModel", "inMany", "I", false)
def tyX9 : Nat → FieldType := fun k => match k with
  | 0 => .array .int
  | 1 => .int
  | 2 => .int
  | 3 => .boolean
  | 4 => .int
  | 5 => .int
  | 6 => .boolean
  | 7 => .int
  | 8 => .array .int
  | 9 => .int
  | 10 => .array .int
  | 11 => .array .long
  | 12 => .int
  | 13 => .int
  | 14 => .array .int
  | 15 => .int
  | 16 => .int
  | 17 => .boolean
  | 18 => .array .long
  | 19 => .array .boolean
  | 20 => .array .boolean
  | 21 => .int
  | 22 => .int
  | 23 => .long
  | 24 => .boolean
  | 25 => .array .int
  | 26 => .int
  | 27 => .long
  | 28 => .array .long
  | 29 => .array .long
  | 30 => .int
  | 31 => .array .int
  | 32 => .int
  | 33 => .array .int
  | 34 => .array .int
  | 35 => .array .int
  | 36 => .array .long
  | _ => .int
abbrev wsX90 : List Cond := u_ws RX9 TX9 38
theorem nmX9 : ∀ a, a < 38 → ∀ b, b < 38 → a ≠ b → (TX9 a).2.1 ≠ (TX9 b).2.1 := by decide +kernel
theorem tyX9_ok : ∀ k, k < 38 → parseFieldDescriptor (TX9 k).2.2.1 = some (tyX9 k) := by decide +kernel
abbrev cX9_init : ByteArray := prog_11_method_1_code
def yX9_init : MethodName := ⟨RX9, "<init>", "(I)V"⟩
abbrev cX9_bytesOf : ByteArray := prog_11_method_4_code
def yX9_bytesOf : MethodName := ⟨RX9, "bytesOf", "(IJI)V"⟩
abbrev cX9_byteIn : ByteArray := prog_11_method_5_code
def yX9_byteIn : MethodName := ⟨RX9, "byteIn", "(I)I"⟩
abbrev cX9_set : ByteArray := prog_11_method_6_code
def yX9_set : MethodName := ⟨RX9, "set", "(II)V"⟩
abbrev cX9_number : ByteArray := prog_11_method_7_code
def yX9_number : MethodName := ⟨RX9, "number", "(II)J"⟩
abbrev cX9_more : ByteArray := prog_11_method_8_code
def yX9_more : MethodName := ⟨RX9, "more", "(JI)J"⟩
abbrev cX9_sumOf : ByteArray := prog_11_method_9_code
def yX9_sumOf : MethodName := ⟨RX9, "sumOf", "(III)J"⟩
def RJ0 : String := "java/lang/String"
def TJ0 : u_T := fun k => match k with
  | 0 => ("java/lang/String", "value", "[B", true)
  | 1 => ("java/lang/String", "coder", "B", true)
  | 2 => ("java/lang/String", "hash", "I", false)
  | _ => ("java/lang/String", "hashIsZero", "Z", false)
def RJ4 : String := "java/lang/StringBuilder"
def TJ4 : u_T := fun k => match k with
  | 0 => ("java/lang/AbstractStringBuilder", "value", "[B", false)
  | 1 => ("java/lang/AbstractStringBuilder", "coder", "B", false)
  | 2 => ("java/lang/AbstractStringBuilder", "maybeLatin1", "Z", false)
  | _ => ("java/lang/AbstractStringBuilder", "count", "I", false)
def RJx4a65c : String := "java/util/ArrayList"
def TJx4a65c : u_T := fun k => match k with
  | 0 => ("java/util/AbstractList", "modCount", "I", false)
  | 1 => ("java/util/ArrayList", "elementData", "[Ljava/lang/Object;", false)
  | _ => ("java/util/ArrayList", "size", "I", false)
def RL : String := "BlockLogLaw"
def wsX0_start : List Cond := .code yX0_start cX0_start 1 (some .long) :: ([.constantLong RX0 9 (1000003)])
def wsX0_add : List Cond := .code yX0_add cX0_add 5 (some .long) :: ([.constantLong RX0 13 (-4417276706812531889)])
def wsX0_sum : List Cond := .code yX0_sum cX0_sum 7 (some .long) :: ([.methodLink RX0 19 yX0_start, .static yX0_start, .initialized RX0, .code yX0_start cX0_start 1 (some .long), .constantLong RX0 9 (1000003), .methodLink RX0 15 yX0_add, .static yX0_add, .code yX0_add cX0_add 5 (some .long), .constantLong RX0 13 (-4417276706812531889)])
def wsX0_putInt : List Cond := .code yX0_putInt cX0_putInt 4 none :: ([])
def wsX0_putLong : List Cond := .code yX0_putLong cX0_putLong 5 none :: ([])
def wsX4_drawHead : List Cond := .code yX4_drawHead cX4_drawHead 2 none :: ([.fieldLink RX4 15 "BlockLog$Rows" "image" "[B", .methodLink RX4 65 yX0_putInt, .static yX0_putInt, .initialized RX0, .code yX0_putInt cX0_putInt 4 none, .methodLink RX4 76 yX0_sum, .static yX0_sum, .code yX0_sum cX0_sum 7 (some .long), .methodLink RX0 19 yX0_start, .static yX0_start, .code yX0_start cX0_start 1 (some .long), .constantLong RX0 9 (1000003), .methodLink RX0 15 yX0_add, .static yX0_add, .code yX0_add cX0_add 5 (some .long), .constantLong RX0 13 (-4417276706812531889), .methodLink RX4 69 yX0_putLong, .static yX0_putLong, .code yX0_putLong cX0_putLong 5 none] ++ wsX40)
def wsX4_init_r1 : List Cond := [Cond.methodLink RX4 3 objectInit, Cond.instanceMethod objectInit, Cond.code objectInit ⟨#[0xb1]⟩ 1 none, Cond.fieldLink RX4 9 "BlockLog$Rows" "disk" "LBlockLog$Disk;", Cond.arrayClass .byte, Cond.fieldLink RX4 15 "BlockLog$Rows" "image" "[B", Cond.fieldLink RX4 19 "BlockLog$Rows" "area" "I", Cond.fieldLink RX4 23 "BlockLog$Rows" "generation" "I", Cond.fieldLink RX4 26 "BlockLog$Rows" "count" "I", Cond.fieldLink RX4 29 "BlockLog$Rows" "bad" "I", Cond.methodLink RX4 41 arraycopyName, Cond.native arraycopyName, Cond.static arraycopyName, Cond.initialized "java/lang/System", Cond.methodLink RX4 32 yX4_drawHead, Cond.instanceMethod yX4_drawHead, Cond.selects RX4 yX4_drawHead yX4_drawHead, Cond.initialized RX4, Cond.code yX4_drawHead cX4_drawHead 2 none, Cond.methodLink RX4 65 yX0_putInt, Cond.static yX0_putInt, Cond.initialized RX0, Cond.code yX0_putInt cX0_putInt 4 none, Cond.methodLink RX4 76 yX0_sum]
def wsX4_init_r2 : List Cond := [Cond.static yX0_sum, Cond.code yX0_sum cX0_sum 7 (some .long), Cond.methodLink RX0 19 yX0_start, Cond.static yX0_start, Cond.code yX0_start cX0_start 1 (some .long), Cond.constantLong RX0 9 (1000003), Cond.methodLink RX0 15 yX0_add, Cond.static yX0_add, Cond.code yX0_add cX0_add 5 (some .long), Cond.constantLong RX0 13 (-4417276706812531889), Cond.methodLink RX4 69 yX0_putLong, Cond.static yX0_putLong, Cond.code yX0_putLong cX0_putLong 5 none]
def wsX4_init : List Cond := .code yX4_init cX4_init 2 none :: ((wsX4_init_r1 ++ wsX4_init_r2) ++ wsX40 ++ wsX10)
def wsX9_set : List Cond := .code yX9_set cX9_set 4 none :: ([.fieldLink RX9 8 "BlockLogModel" "disk" "[I"] ++ wsX90)
def wsX9_bytesOf : List Cond := .code yX9_bytesOf cX9_bytesOf 6 none :: ([.constantLong RX9 94 (255), .methodLink RX9 83 yX9_set, .instanceMethod yX9_set, .selects RX9 yX9_set yX9_set, .initialized RX9, .code yX9_set cX9_set 4 none, .fieldLink RX9 8 "BlockLogModel" "disk" "[I"] ++ wsX90)
def wsX9_byteIn : List Cond := .code yX9_byteIn cX9_byteIn 2 (some .int) :: ([.fieldLink RX9 8 "BlockLogModel" "disk" "[I"] ++ wsX90)
def wsX9_more : List Cond := .code yX9_more cX9_more 5 (some .long) :: ([.constantLong RX9 100 (-4417276706812531889)])
def wsX9_sumOf : List Cond := .code yX9_sumOf cX9_sumOf 7 (some .long) :: ([.constantLong RX9 102 (1000003), .methodLink RX9 96 yX9_byteIn, .instanceMethod yX9_byteIn, .selects RX9 yX9_byteIn yX9_byteIn, .initialized RX9, .code yX9_byteIn cX9_byteIn 2 (some .int), .fieldLink RX9 8 "BlockLogModel" "disk" "[I", .methodLink RX9 104 yX9_more, .static yX9_more, .code yX9_more cX9_more 5 (some .long), .constantLong RX9 100 (-4417276706812531889)] ++ wsX90)
def wsX9_init_r1 : List Cond := [Cond.methodLink RX9 1 objectInit, Cond.instanceMethod objectInit, Cond.code objectInit ⟨#[0xb1]⟩ 1 none, Cond.constant RX9 7 (428040), Cond.arrayClass .int, Cond.fieldLink RX9 8 "BlockLogModel" "disk" "[I", Cond.fieldLink RX9 14 "BlockLogModel" "tape" "[I", Cond.fieldLink RX9 17 "BlockLogModel" "slots" "[I", Cond.arrayClass .long, Cond.fieldLink RX9 20 "BlockLogModel" "leaves" "[J", Cond.fieldLink RX9 24 "BlockLogModel" "fresh" "[I", Cond.fieldLink RX9 27 "BlockLogModel" "digestAt" "[J", Cond.arrayClass .boolean, Cond.fieldLink RX9 30 "BlockLogModel" "isGroup" "[Z", Cond.fieldLink RX9 34 "BlockLogModel" "counts" "[Z", Cond.fieldLink RX9 37 "BlockLogModel" "versionRow" "[I", Cond.fieldLink RX9 40 "BlockLogModel" "state" "[J", Cond.fieldLink RX9 43 "BlockLogModel" "names" "[J", Cond.fieldLink RX9 46 "BlockLogModel" "keptRow" "[I", Cond.fieldLink RX9 49 "BlockLogModel" "inSlot" "[I", Cond.fieldLink RX9 52 "BlockLogModel" "inAt" "[I", Cond.fieldLink RX9 55 "BlockLogModel" "inSize" "[I", Cond.fieldLink RX9 58 "BlockLogModel" "inDigest" "[J", Cond.constant RX9 61 (65536)]
def wsX9_init_r2 : List Cond := [Cond.fieldLink RX9 62 "BlockLogModel" "pages" "I", Cond.fieldLink RX9 66 "BlockLogModel" "size" "I", Cond.fieldLink RX9 69 "BlockLogModel" "power" "I", Cond.fieldLink RX9 72 "BlockLogModel" "on" "Z", Cond.fieldLink RX9 76 "BlockLogModel" "area" "I", Cond.methodLink RX9 79 yX9_bytesOf, Cond.instanceMethod yX9_bytesOf, Cond.selects RX9 yX9_bytesOf yX9_bytesOf, Cond.initialized RX9, Cond.code yX9_bytesOf cX9_bytesOf 6 none, Cond.constantLong RX9 94 (255), Cond.methodLink RX9 83 yX9_set, Cond.instanceMethod yX9_set, Cond.selects RX9 yX9_set yX9_set, Cond.code yX9_set cX9_set 4 none, Cond.methodLink RX9 87 yX9_sumOf, Cond.instanceMethod yX9_sumOf, Cond.selects RX9 yX9_sumOf yX9_sumOf, Cond.code yX9_sumOf cX9_sumOf 7 (some .long), Cond.constantLong RX9 102 (1000003), Cond.methodLink RX9 96 yX9_byteIn, Cond.instanceMethod yX9_byteIn, Cond.selects RX9 yX9_byteIn yX9_byteIn, Cond.code yX9_byteIn cX9_byteIn 2 (some .int)]
def wsX9_init_r3 : List Cond := [Cond.methodLink RX9 104 yX9_more, Cond.static yX9_more, Cond.code yX9_more cX9_more 5 (some .long), Cond.constantLong RX9 100 (-4417276706812531889)]
def wsX9_init : List Cond := .code yX9_init cX9_init 2 none :: ((wsX9_init_r1 ++ (wsX9_init_r2 ++ wsX9_init_r3)) ++ wsX90)
def wsX9_number : List Cond := .code yX9_number cX9_number 6 (some .long) :: ([.methodLink RX9 96 yX9_byteIn, .instanceMethod yX9_byteIn, .selects RX9 yX9_byteIn yX9_byteIn, .initialized RX9, .code yX9_byteIn cX9_byteIn 2 (some .int), .fieldLink RX9 8 "BlockLogModel" "disk" "[I"] ++ wsX90)
set_option maxRecDepth 20000 in
theorem ggX0_sum_X0_start : GoodIn wsX0_sum wsX0_start := goodIn_r _ [4, 5] (by decide +kernel) (by decide +kernel)
set_option maxRecDepth 20000 in
theorem gX0_sum_X0_start : GoodIn wsX0_sum (va_wsS RX0 19 yX0_start wsX0_start) := goodIn_app (goodIn_of _ (by decide +kernel)) ggX0_sum_X0_start
set_option maxRecDepth 20000 in
theorem ggX0_sum_X0_add : GoodIn wsX0_sum wsX0_add := goodIn_r _ [8, 9] (by decide +kernel) (by decide +kernel)
set_option maxRecDepth 20000 in
theorem gX0_sum_X0_add : GoodIn wsX0_sum (va_wsS RX0 15 yX0_add wsX0_add) := goodIn_app (goodIn_of _ (by decide +kernel)) ggX0_sum_X0_add
set_option maxRecDepth 20000 in
theorem ggX4_init_X4_drawHead : GoodIn wsX4_init wsX4_drawHead := goodIn_r _ [19, 6, 20, 21, 22, 23, 24, 25, 26, 27, 28, 29, 30, 31, 32, 33, 34, 35, 36, 37, 38, 39, 40, 41, 42, 43] (by decide +kernel) (by decide +kernel)
set_option maxRecDepth 20000 in
theorem gX4_init_X4_drawHead : GoodIn wsX4_init (wsV RX4 32 RX4 yX4_drawHead wsX4_drawHead) := goodIn_app (goodIn_of _ (by decide +kernel)) ggX4_init_X4_drawHead
set_option maxRecDepth 20000 in
theorem ggX4_drawHead_X0_putInt : GoodIn wsX4_drawHead wsX0_putInt := goodIn_r _ [5] (by decide +kernel) (by decide +kernel)
set_option maxRecDepth 20000 in
theorem gX4_drawHead_X0_putInt : GoodIn wsX4_drawHead (va_wsS RX4 65 yX0_putInt wsX0_putInt) := goodIn_app (goodIn_of _ (by decide +kernel)) ggX4_drawHead_X0_putInt
set_option maxRecDepth 20000 in
theorem ggX4_drawHead_X0_sum : GoodIn wsX4_drawHead wsX0_sum := goodIn_r _ [8, 9, 10, 4, 11, 12, 13, 14, 15, 16] (by decide +kernel) (by decide +kernel)
set_option maxRecDepth 20000 in
theorem gX4_drawHead_X0_sum : GoodIn wsX4_drawHead (va_wsS RX4 76 yX0_sum wsX0_sum) := goodIn_app (goodIn_of _ (by decide +kernel)) ggX4_drawHead_X0_sum
set_option maxRecDepth 20000 in
theorem ggX4_drawHead_X0_putLong : GoodIn wsX4_drawHead wsX0_putLong := goodIn_r _ [19] (by decide +kernel) (by decide +kernel)
set_option maxRecDepth 20000 in
theorem gX4_drawHead_X0_putLong : GoodIn wsX4_drawHead (va_wsS RX4 69 yX0_putLong wsX0_putLong) := goodIn_app (goodIn_of _ (by decide +kernel)) ggX4_drawHead_X0_putLong
set_option maxRecDepth 20000 in
theorem ggX9_init_X9_bytesOf : GoodIn wsX9_init wsX9_bytesOf := goodIn_r _ [34, 35, 36, 37, 38, 33, 39, 6, 53, 54, 55, 56, 57, 58, 59, 60, 61, 62, 63, 64, 65, 66, 67, 68, 69, 70, 71, 72, 73, 74, 75, 76, 77, 78, 79, 80, 81, 82, 83, 84, 85, 86, 87, 88, 89, 90] (by decide +kernel) (by decide +kernel)
set_option maxRecDepth 20000 in
theorem gX9_init_X9_bytesOf : GoodIn wsX9_init (wsV RX9 79 RX9 yX9_bytesOf wsX9_bytesOf) := goodIn_app (goodIn_of _ (by decide +kernel)) ggX9_init_X9_bytesOf
set_option maxRecDepth 20000 in
theorem ggX9_init_X9_set : GoodIn wsX9_init wsX9_set := goodIn_r _ [39, 6, 53, 54, 55, 56, 57, 58, 59, 60, 61, 62, 63, 64, 65, 66, 67, 68, 69, 70, 71, 72, 73, 74, 75, 76, 77, 78, 79, 80, 81, 82, 83, 84, 85, 86, 87, 88, 89, 90] (by decide +kernel) (by decide +kernel)
set_option maxRecDepth 20000 in
theorem gX9_init_X9_set : GoodIn wsX9_init (wsV RX9 83 RX9 yX9_set wsX9_set) := goodIn_app (goodIn_of _ (by decide +kernel)) ggX9_init_X9_set
set_option maxRecDepth 20000 in
theorem ggX9_init_X9_sumOf : GoodIn wsX9_init wsX9_sumOf := goodIn_r _ [43, 44, 45, 46, 47, 33, 48, 6, 49, 50, 51, 52, 53, 54, 55, 56, 57, 58, 59, 60, 61, 62, 63, 64, 65, 66, 67, 68, 69, 70, 71, 72, 73, 74, 75, 76, 77, 78, 79, 80, 81, 82, 83, 84, 85, 86, 87, 88, 89, 90] (by decide +kernel) (by decide +kernel)
set_option maxRecDepth 20000 in
theorem gX9_init_X9_sumOf : GoodIn wsX9_init (wsV RX9 87 RX9 yX9_sumOf wsX9_sumOf) := goodIn_app (goodIn_of _ (by decide +kernel)) ggX9_init_X9_sumOf
set_option maxRecDepth 20000 in
theorem ggX9_bytesOf_X9_set : GoodIn wsX9_bytesOf wsX9_set := goodIn_r _ [6, 7, 8, 9, 10, 11, 12, 13, 14, 15, 16, 17, 18, 19, 20, 21, 22, 23, 24, 25, 26, 27, 28, 29, 30, 31, 32, 33, 34, 35, 36, 37, 38, 39, 40, 41, 42, 43, 44, 45] (by decide +kernel) (by decide +kernel)
set_option maxRecDepth 20000 in
theorem gX9_bytesOf_X9_set : GoodIn wsX9_bytesOf (wsV RX9 83 RX9 yX9_set wsX9_set) := goodIn_app (goodIn_of _ (by decide +kernel)) ggX9_bytesOf_X9_set
set_option maxRecDepth 20000 in
theorem ggX9_number_X9_byteIn : GoodIn wsX9_number wsX9_byteIn := goodIn_r _ [5, 6, 7, 8, 9, 10, 11, 12, 13, 14, 15, 16, 17, 18, 19, 20, 21, 22, 23, 24, 25, 26, 27, 28, 29, 30, 31, 32, 33, 34, 35, 36, 37, 38, 39, 40, 41, 42, 43, 44] (by decide +kernel) (by decide +kernel)
set_option maxRecDepth 20000 in
theorem gX9_number_X9_byteIn : GoodIn wsX9_number (wsV RX9 96 RX9 yX9_byteIn wsX9_byteIn) := goodIn_app (goodIn_of _ (by decide +kernel)) ggX9_number_X9_byteIn
set_option maxRecDepth 20000 in
theorem ggX9_sumOf_X9_byteIn : GoodIn wsX9_sumOf wsX9_byteIn := goodIn_r _ [6, 7, 12, 13, 14, 15, 16, 17, 18, 19, 20, 21, 22, 23, 24, 25, 26, 27, 28, 29, 30, 31, 32, 33, 34, 35, 36, 37, 38, 39, 40, 41, 42, 43, 44, 45, 46, 47, 48, 49] (by decide +kernel) (by decide +kernel)
set_option maxRecDepth 20000 in
theorem gX9_sumOf_X9_byteIn : GoodIn wsX9_sumOf (wsV RX9 96 RX9 yX9_byteIn wsX9_byteIn) := goodIn_app (goodIn_of _ (by decide +kernel)) ggX9_sumOf_X9_byteIn
set_option maxRecDepth 20000 in
theorem ggX9_sumOf_X9_more : GoodIn wsX9_sumOf wsX9_more := goodIn_r _ [10, 11] (by decide +kernel) (by decide +kernel)
set_option maxRecDepth 20000 in
theorem gX9_sumOf_X9_more : GoodIn wsX9_sumOf (va_wsS RX9 104 yX9_more wsX9_more) := goodIn_app (goodIn_of _ (by decide +kernel)) ggX9_sumOf_X9_more
abbrev vwCl : List vw_C := [(RJ0, TJ0, 4), (RJ4, TJ4, 4), (RJx4a65c, TJx4a65c, 3), (RX1, TX1, 7), (RX2, TX2, 3), (RX3, TX3, 4), (RX4, TX4, 6), (RX5, TX5, 7), (RX6, TX6, 12), (RX7, TX7, 2), (RX8, TX8, 10), (RX9, TX9, 38)]
