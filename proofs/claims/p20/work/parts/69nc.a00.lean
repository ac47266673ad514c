abbrev cX6_hearAnew : ByteArray := prog_8_method_2_code
def yX6_hearAnew : MethodName := ⟨RX6, "hearAnew", "()V"⟩
abbrev cX6_hear : ByteArray := prog_8_method_3_code
def yX6_hear : MethodName := ⟨RX6, "hear", "()V"⟩
abbrev cX6_hearBase : ByteArray := prog_8_method_4_code
def yX6_hearBase : MethodName := ⟨RX6, "hearBase", "(I)V"⟩
abbrev cX6_hearBlock : ByteArray := prog_8_method_5_code
def yX6_hearBlock : MethodName := ⟨RX6, "hearBlock", "(I)V"⟩
abbrev cX6_hearCertificate : ByteArray := prog_8_method_6_code
def yX6_hearCertificate : MethodName := ⟨RX6, "hearCertificate", "(I)V"⟩
abbrev cX6_isWhole : ByteArray := prog_8_method_7_code
def yX6_isWhole : MethodName := ⟨RX6, "isWhole", "(I)Z"⟩
abbrev cX6_sumOfBlock : ByteArray := prog_8_method_8_code
def yX6_sumOfBlock : MethodName := ⟨RX6, "sumOfBlock", "(I)J"⟩
abbrev cX6_blockRow : ByteArray := prog_8_method_9_code
def yX6_blockRow : MethodName := ⟨RX6, "blockRow", "(J)I"⟩
abbrev cX6_digestAt : ByteArray := prog_8_method_10_code
def yX6_digestAt : MethodName := ⟨RX6, "digestAt", "(I)J"⟩
abbrev cX6_meant : ByteArray := prog_8_method_11_code
def yX6_meant : MethodName := ⟨RX6, "meant", "(J)J"⟩
abbrev cX6_heightOfParent : ByteArray := prog_8_method_12_code
def yX6_heightOfParent : MethodName := ⟨RX6, "heightOfParent", "(J)I"⟩
abbrev cX6_lastVersion : ByteArray := prog_8_method_13_code
def yX6_lastVersion : MethodName := ⟨RX6, "lastVersion", "()I"⟩
abbrev cX6_isKept : ByteArray := prog_8_method_14_code
def yX6_isKept : MethodName := ⟨RX6, "isKept", "(I)Z"⟩
abbrev cX6_blockOf : ByteArray := prog_8_method_15_code
def yX6_blockOf : MethodName := ⟨RX6, "blockOf", "(I)J"⟩
abbrev cX6_isNext : ByteArray := prog_8_method_16_code
def yX6_isNext : MethodName := ⟨RX6, "isNext", "(I)Z"⟩
abbrev cX6_isCertified : ByteArray := prog_8_method_17_code
def yX6_isCertified : MethodName := ⟨RX6, "isCertified", "(I)Z"⟩
abbrev cX6_drawVersion : ByteArray := prog_8_method_18_code
def yX6_drawVersion : MethodName := ⟨RX6, "drawVersion", "(I)V"⟩
abbrev cX6_drawChanges : ByteArray := prog_8_method_19_code
def yX6_drawChanges : MethodName := ⟨RX6, "drawChanges", "(I)V"⟩
abbrev cX6_filledSlots : ByteArray := prog_8_method_20_code
def yX6_filledSlots : MethodName := ⟨RX6, "filledSlots", "()I"⟩
abbrev cX6_names : ByteArray := prog_8_method_21_code
def yX6_names : MethodName := ⟨RX6, "names", "(J)Z"⟩
abbrev cX8_isHeight : ByteArray := prog_1_method_33_code
def yX8_isHeight : MethodName := ⟨RX8, "isHeight", "(I)Z"⟩
def wsX6_drawChanges_r1 : List Cond := [Cond.fieldLink RX6 9 "BlockLog$Story" "rows" "LBlockLog$Rows;", Cond.fieldLink RX6 36 "BlockLog$Story" "heard" "I", Cond.fieldLink RX6 33 "BlockLog$Story" "slots" "[J", Cond.methodLink RX6 97 yX4_b, Cond.instanceMethod yX4_b, Cond.selects RX4 yX4_b yX4_b, Cond.initialized RX4, Cond.code yX4_b cX4_b 2 (some .int), Cond.fieldLink RX4 9 "BlockLog$Rows" "disk" "LBlockLog$Disk;", Cond.methodLink RX4 47 yX4_place, Cond.instanceMethod yX4_place, Cond.selects RX4 yX4_place yX4_place, Cond.code yX4_place cX4_place 2 (some .int), Cond.fieldLink RX4 19 "BlockLog$Rows" "area" "I", Cond.methodLink RX4 51 yX0_intAt, Cond.static yX0_intAt, Cond.initialized RX0, Cond.code yX0_intAt cX0_intAt 4 (some .int), Cond.methodLink RX6 87 yX4_a, Cond.instanceMethod yX4_a, Cond.selects RX4 yX4_a yX4_a, Cond.code yX4_a cX4_a 2 (some .int), Cond.methodLink RX6 83 yX4_c, Cond.instanceMethod yX4_c]
def wsX6_drawChanges_r2 : List Cond := [Cond.selects RX4 yX4_c yX4_c, Cond.code yX4_c cX4_c 2 (some .long), Cond.methodLink RX4 57 yX0_longAt, Cond.static yX0_longAt, Cond.code yX0_longAt cX0_longAt 5 (some .long)]
def wsX6_drawChanges : List Cond := .code yX6_drawChanges cX6_drawChanges 5 none :: ((wsX6_drawChanges_r1 ++ wsX6_drawChanges_r2) ++ wsX60 ++ wsX40 ++ wsX10)
def wsX6_drawVersion_r1 : List Cond := [Cond.fieldLink RX6 33 "BlockLog$Story" "slots" "[J", Cond.fieldLink RX6 46 "BlockLog$Story" "based" "Z", Cond.fieldLink RX6 40 "BlockLog$Story" "certified" "I", Cond.fieldLink RX6 50 "BlockLog$Story" "baseHeight" "I", Cond.fieldLink RX6 29 "BlockLog$Story" "chain" "[I", Cond.methodLink RX6 133 yX6_drawChanges, Cond.instanceMethod yX6_drawChanges, Cond.selects RX6 yX6_drawChanges yX6_drawChanges, Cond.initialized RX6, Cond.code yX6_drawChanges cX6_drawChanges 5 none, Cond.fieldLink RX6 9 "BlockLog$Story" "rows" "LBlockLog$Rows;", Cond.fieldLink RX6 36 "BlockLog$Story" "heard" "I", Cond.methodLink RX6 97 yX4_b, Cond.instanceMethod yX4_b, Cond.selects RX4 yX4_b yX4_b, Cond.initialized RX4, Cond.code yX4_b cX4_b 2 (some .int), Cond.fieldLink RX4 9 "BlockLog$Rows" "disk" "LBlockLog$Disk;", Cond.methodLink RX4 47 yX4_place, Cond.instanceMethod yX4_place, Cond.selects RX4 yX4_place yX4_place, Cond.code yX4_place cX4_place 2 (some .int), Cond.fieldLink RX4 19 "BlockLog$Rows" "area" "I", Cond.methodLink RX4 51 yX0_intAt]
def wsX6_drawVersion_r2 : List Cond := [Cond.static yX0_intAt, Cond.initialized RX0, Cond.code yX0_intAt cX0_intAt 4 (some .int), Cond.methodLink RX6 87 yX4_a, Cond.instanceMethod yX4_a, Cond.selects RX4 yX4_a yX4_a, Cond.code yX4_a cX4_a 2 (some .int), Cond.methodLink RX6 83 yX4_c, Cond.instanceMethod yX4_c, Cond.selects RX4 yX4_c yX4_c, Cond.code yX4_c cX4_c 2 (some .long), Cond.methodLink RX4 57 yX0_longAt, Cond.static yX0_longAt, Cond.code yX0_longAt cX0_longAt 5 (some .long)]
def wsX6_drawVersion : List Cond := .code yX6_drawVersion cX6_drawVersion 3 none :: ((wsX6_drawVersion_r1 ++ wsX6_drawVersion_r2) ++ wsX60 ++ wsX40 ++ wsX10)
def wsX6_blockRow : List Cond := .code yX6_blockRow cX6_blockRow 4 (some .int) :: ([.fieldLink RX6 36 "BlockLog$Story" "heard" "I", .fieldLink RX6 19 "BlockLog$Story" "isBlock" "[Z", .fieldLink RX6 15 "BlockLog$Story" "digests" "[J"] ++ wsX60)
def wsX6_blockOf : List Cond := .code yX6_blockOf cX6_blockOf 3 (some .long) :: ([.fieldLink RX6 50 "BlockLog$Story" "baseHeight" "I", .fieldLink RX6 40 "BlockLog$Story" "certified" "I", .fieldLink RX6 15 "BlockLog$Story" "digests" "[J", .fieldLink RX6 29 "BlockLog$Story" "chain" "[I", .fieldLink RX6 46 "BlockLog$Story" "based" "Z"] ++ wsX60)
def wsX6_filledSlots : List Cond := .code yX6_filledSlots cX6_filledSlots 3 (some .int) :: ([.fieldLink RX6 33 "BlockLog$Story" "slots" "[J"] ++ wsX60)
def wsX8_isHeight : List Cond := .code yX8_isHeight cX8_isHeight 1 (some .boolean) :: ([.constant RX8 163 (1000000)])
def wsX6_isWhole_r1 : List Cond := [Cond.fieldLink RX6 9 "BlockLog$Story" "rows" "LBlockLog$Rows;", Cond.fieldLink RX6 36 "BlockLog$Story" "heard" "I", Cond.methodLink RX6 97 yX4_b, Cond.instanceMethod yX4_b, Cond.selects RX4 yX4_b yX4_b, Cond.initialized RX4, Cond.code yX4_b cX4_b 2 (some .int), Cond.fieldLink RX4 9 "BlockLog$Rows" "disk" "LBlockLog$Disk;", Cond.methodLink RX4 47 yX4_place, Cond.instanceMethod yX4_place, Cond.selects RX4 yX4_place yX4_place, Cond.code yX4_place cX4_place 2 (some .int), Cond.fieldLink RX4 19 "BlockLog$Rows" "area" "I", Cond.methodLink RX4 51 yX0_intAt, Cond.static yX0_intAt, Cond.initialized RX0, Cond.code yX0_intAt cX0_intAt 4 (some .int), Cond.methodLink RX6 87 yX4_a, Cond.instanceMethod yX4_a, Cond.selects RX4 yX4_a yX4_a, Cond.code yX4_a cX4_a 2 (some .int), Cond.static yX8_isHeight, Cond.initialized RX8, Cond.code yX8_isHeight cX8_isHeight 1 (some .boolean)]
def wsX6_isWhole_r2 : List Cond := [Cond.constant RX8 163 (1000000), Cond.methodLink RX6 65 yX4_kind, Cond.instanceMethod yX4_kind, Cond.selects RX4 yX4_kind yX4_kind, Cond.code yX4_kind cX4_kind 2 (some .int)]
def wsX6_isWhole : List Cond := .code yX6_isWhole cX6_isWhole 5 (some .boolean) :: ((wsX6_isWhole_r1 ++ wsX6_isWhole_r2) ++ wsX60 ++ wsX40 ++ wsX10)
def wsX6_sumOfBlock_r1 : List Cond := [Cond.fieldLink RX6 9 "BlockLog$Story" "rows" "LBlockLog$Rows;", Cond.methodLink RX6 106 yX0_start, Cond.static yX0_start, Cond.initialized RX0, Cond.code yX0_start cX0_start 1 (some .long), Cond.constantLong RX0 9 (1000003), Cond.methodLink RX6 87 yX4_a, Cond.instanceMethod yX4_a, Cond.selects RX4 yX4_a yX4_a, Cond.initialized RX4, Cond.code yX4_a cX4_a 2 (some .int), Cond.fieldLink RX4 9 "BlockLog$Rows" "disk" "LBlockLog$Disk;", Cond.methodLink RX4 47 yX4_place, Cond.instanceMethod yX4_place, Cond.selects RX4 yX4_place yX4_place, Cond.code yX4_place cX4_place 2 (some .int), Cond.fieldLink RX4 19 "BlockLog$Rows" "area" "I", Cond.methodLink RX4 51 yX0_intAt, Cond.static yX0_intAt, Cond.code yX0_intAt cX0_intAt 4 (some .int), Cond.methodLink RX6 111 yX0_addInt, Cond.static yX0_addInt, Cond.code yX0_addInt cX0_addInt 6 (some .long), Cond.methodLink RX0 15 yX0_add]
def wsX6_sumOfBlock_r2 : List Cond := [Cond.static yX0_add, Cond.code yX0_add cX0_add 5 (some .long), Cond.constantLong RX0 13 (-4417276706812531889), Cond.methodLink RX6 83 yX4_c, Cond.instanceMethod yX4_c, Cond.selects RX4 yX4_c yX4_c, Cond.code yX4_c cX4_c 2 (some .long), Cond.methodLink RX4 57 yX0_longAt, Cond.static yX0_longAt, Cond.code yX0_longAt cX0_longAt 5 (some .long), Cond.methodLink RX6 115 yX0_addLong, Cond.static yX0_addLong, Cond.code yX0_addLong cX0_addLong 7 (some .long), Cond.methodLink RX6 97 yX4_b, Cond.instanceMethod yX4_b, Cond.selects RX4 yX4_b yX4_b, Cond.code yX4_b cX4_b 2 (some .int)]
def wsX6_sumOfBlock : List Cond := .code yX6_sumOfBlock cX6_sumOfBlock 6 (some .long) :: ((wsX6_sumOfBlock_r1 ++ wsX6_sumOfBlock_r2) ++ wsX60 ++ wsX40 ++ wsX10)
def wsX6_hearBlock_r1 : List Cond := [Cond.fieldLink RX6 19 "BlockLog$Story" "isBlock" "[Z", Cond.fieldLink RX6 46 "BlockLog$Story" "based" "Z", Cond.fieldLink RX6 15 "BlockLog$Story" "digests" "[J", Cond.fieldLink RX6 9 "BlockLog$Story" "rows" "LBlockLog$Rows;", Cond.fieldLink RX6 23 "BlockLog$Story" "inBlock" "[Z", Cond.methodLink RX6 79 yX6_isWhole, Cond.instanceMethod yX6_isWhole, Cond.selects RX6 yX6_isWhole yX6_isWhole, Cond.initialized RX6, Cond.code yX6_isWhole cX6_isWhole 5 (some .boolean), Cond.fieldLink RX6 36 "BlockLog$Story" "heard" "I", Cond.methodLink RX6 97 yX4_b, Cond.instanceMethod yX4_b, Cond.selects RX4 yX4_b yX4_b, Cond.initialized RX4, Cond.code yX4_b cX4_b 2 (some .int), Cond.fieldLink RX4 9 "BlockLog$Rows" "disk" "LBlockLog$Disk;", Cond.methodLink RX4 47 yX4_place, Cond.instanceMethod yX4_place, Cond.selects RX4 yX4_place yX4_place, Cond.code yX4_place cX4_place 2 (some .int), Cond.fieldLink RX4 19 "BlockLog$Rows" "area" "I", Cond.methodLink RX4 51 yX0_intAt, Cond.static yX0_intAt]
def wsX6_hearBlock_r2 : List Cond := [Cond.initialized RX0, Cond.code yX0_intAt cX0_intAt 4 (some .int), Cond.methodLink RX6 87 yX4_a, Cond.instanceMethod yX4_a, Cond.selects RX4 yX4_a yX4_a, Cond.code yX4_a cX4_a 2 (some .int), Cond.static yX8_isHeight, Cond.initialized RX8, Cond.code yX8_isHeight cX8_isHeight 1 (some .boolean), Cond.constant RX8 163 (1000000), Cond.methodLink RX6 65 yX4_kind, Cond.instanceMethod yX4_kind, Cond.selects RX4 yX4_kind yX4_kind, Cond.code yX4_kind cX4_kind 2 (some .int), Cond.methodLink RX6 90 yX6_sumOfBlock, Cond.instanceMethod yX6_sumOfBlock, Cond.selects RX6 yX6_sumOfBlock yX6_sumOfBlock, Cond.code yX6_sumOfBlock cX6_sumOfBlock 6 (some .long), Cond.methodLink RX6 106 yX0_start, Cond.static yX0_start, Cond.code yX0_start cX0_start 1 (some .long), Cond.constantLong RX0 9 (1000003), Cond.methodLink RX6 111 yX0_addInt, Cond.static yX0_addInt]
def wsX6_hearBlock_r3 : List Cond := [Cond.code yX0_addInt cX0_addInt 6 (some .long), Cond.methodLink RX0 15 yX0_add, Cond.static yX0_add, Cond.code yX0_add cX0_add 5 (some .long), Cond.constantLong RX0 13 (-4417276706812531889), Cond.methodLink RX6 83 yX4_c, Cond.instanceMethod yX4_c, Cond.selects RX4 yX4_c yX4_c, Cond.code yX4_c cX4_c 2 (some .long), Cond.methodLink RX4 57 yX0_longAt, Cond.static yX0_longAt, Cond.code yX0_longAt cX0_longAt 5 (some .long), Cond.methodLink RX6 115 yX0_addLong, Cond.static yX0_addLong, Cond.code yX0_addLong cX0_addLong 7 (some .long), Cond.methodLink RX6 93 yX6_blockRow, Cond.instanceMethod yX6_blockRow, Cond.selects RX6 yX6_blockRow yX6_blockRow, Cond.code yX6_blockRow cX6_blockRow 4 (some .int)]
def wsX6_hearBlock : List Cond := .code yX6_hearBlock cX6_hearBlock 6 none :: ((wsX6_hearBlock_r1 ++ (wsX6_hearBlock_r2 ++ wsX6_hearBlock_r3)) ++ wsX60 ++ wsX40 ++ wsX10)
def wsX6_lastVersion : List Cond := .code yX6_lastVersion cX6_lastVersion 1 (some .int) :: ([.fieldLink RX6 50 "BlockLog$Story" "baseHeight" "I", .fieldLink RX6 40 "BlockLog$Story" "certified" "I"] ++ wsX60)
def wsX6_isNext_r1 : List Cond := [Cond.fieldLink RX6 9 "BlockLog$Story" "rows" "LBlockLog$Rows;", Cond.methodLink RX6 87 yX4_a, Cond.instanceMethod yX4_a, Cond.selects RX4 yX4_a yX4_a, Cond.initialized RX4, Cond.code yX4_a cX4_a 2 (some .int), Cond.fieldLink RX4 9 "BlockLog$Rows" "disk" "LBlockLog$Disk;", Cond.methodLink RX4 47 yX4_place, Cond.instanceMethod yX4_place, Cond.selects RX4 yX4_place yX4_place, Cond.code yX4_place cX4_place 2 (some .int), Cond.fieldLink RX4 19 "BlockLog$Rows" "area" "I", Cond.methodLink RX4 51 yX0_intAt, Cond.static yX0_intAt, Cond.initialized RX0, Cond.code yX0_intAt cX0_intAt 4 (some .int), Cond.methodLink RX6 126 yX6_lastVersion, Cond.instanceMethod yX6_lastVersion, Cond.selects RX6 yX6_lastVersion yX6_lastVersion, Cond.initialized RX6, Cond.code yX6_lastVersion cX6_lastVersion 1 (some .int), Cond.fieldLink RX6 50 "BlockLog$Story" "baseHeight" "I", Cond.fieldLink RX6 40 "BlockLog$Story" "certified" "I", Cond.methodLink RX6 83 yX4_c]
def wsX6_isNext_r2 : List Cond := [Cond.instanceMethod yX4_c, Cond.selects RX4 yX4_c yX4_c, Cond.code yX4_c cX4_c 2 (some .long), Cond.methodLink RX4 57 yX0_longAt, Cond.static yX0_longAt, Cond.code yX0_longAt cX0_longAt 5 (some .long), Cond.methodLink RX6 130 yX6_blockOf, Cond.instanceMethod yX6_blockOf, Cond.selects RX6 yX6_blockOf yX6_blockOf, Cond.code yX6_blockOf cX6_blockOf 3 (some .long), Cond.fieldLink RX6 15 "BlockLog$Story" "digests" "[J", Cond.fieldLink RX6 29 "BlockLog$Story" "chain" "[I", Cond.fieldLink RX6 46 "BlockLog$Story" "based" "Z"]
def wsX6_isNext : List Cond := .code yX6_isNext cX6_isNext 2 (some .boolean) :: ((wsX6_isNext_r1 ++ wsX6_isNext_r2) ++ wsX60 ++ wsX40 ++ wsX10)
def wsX6_hearCertificate_r1 : List Cond := [Cond.fieldLink RX6 9 "BlockLog$Story" "rows" "LBlockLog$Rows;", Cond.fieldLink RX6 40 "BlockLog$Story" "certified" "I", Cond.fieldLink RX6 26 "BlockLog$Story" "fits" "[Z", Cond.fieldLink RX6 29 "BlockLog$Story" "chain" "[I", Cond.methodLink RX6 83 yX4_c, Cond.instanceMethod yX4_c, Cond.selects RX4 yX4_c yX4_c, Cond.initialized RX4, Cond.code yX4_c cX4_c 2 (some .long), Cond.fieldLink RX4 9 "BlockLog$Rows" "disk" "LBlockLog$Disk;", Cond.methodLink RX4 47 yX4_place, Cond.instanceMethod yX4_place, Cond.selects RX4 yX4_place yX4_place, Cond.code yX4_place cX4_place 2 (some .int), Cond.fieldLink RX4 19 "BlockLog$Rows" "area" "I", Cond.methodLink RX4 57 yX0_longAt, Cond.static yX0_longAt, Cond.initialized RX0, Cond.code yX0_longAt cX0_longAt 5 (some .long), Cond.methodLink RX6 93 yX6_blockRow, Cond.instanceMethod yX6_blockRow, Cond.selects RX6 yX6_blockRow yX6_blockRow, Cond.initialized RX6, Cond.code yX6_blockRow cX6_blockRow 4 (some .int)]
def wsX6_hearCertificate_r2 : List Cond := [Cond.fieldLink RX6 36 "BlockLog$Story" "heard" "I", Cond.fieldLink RX6 19 "BlockLog$Story" "isBlock" "[Z", Cond.fieldLink RX6 15 "BlockLog$Story" "digests" "[J", Cond.methodLink RX6 100 yX6_isNext, Cond.instanceMethod yX6_isNext, Cond.selects RX6 yX6_isNext yX6_isNext, Cond.code yX6_isNext cX6_isNext 2 (some .boolean), Cond.methodLink RX6 87 yX4_a, Cond.instanceMethod yX4_a, Cond.selects RX4 yX4_a yX4_a, Cond.code yX4_a cX4_a 2 (some .int), Cond.methodLink RX4 51 yX0_intAt, Cond.static yX0_intAt, Cond.code yX0_intAt cX0_intAt 4 (some .int), Cond.methodLink RX6 126 yX6_lastVersion, Cond.instanceMethod yX6_lastVersion, Cond.selects RX6 yX6_lastVersion yX6_lastVersion, Cond.code yX6_lastVersion cX6_lastVersion 1 (some .int), Cond.fieldLink RX6 50 "BlockLog$Story" "baseHeight" "I", Cond.methodLink RX6 130 yX6_blockOf, Cond.instanceMethod yX6_blockOf, Cond.selects RX6 yX6_blockOf yX6_blockOf, Cond.code yX6_blockOf cX6_blockOf 3 (some .long), Cond.fieldLink RX6 46 "BlockLog$Story" "based" "Z"]
def wsX6_hearCertificate : List Cond := .code yX6_hearCertificate cX6_hearCertificate 3 none :: ((wsX6_hearCertificate_r1 ++ wsX6_hearCertificate_r2) ++ wsX60 ++ wsX40 ++ wsX10)
def wsX6_hearBase_r1 : List Cond := [Cond.fieldLink RX6 9 "BlockLog$Story" "rows" "LBlockLog$Rows;", Cond.fieldLink RX6 15 "BlockLog$Story" "digests" "[J", Cond.fieldLink RX6 46 "BlockLog$Story" "based" "Z", Cond.fieldLink RX6 50 "BlockLog$Story" "baseHeight" "I", Cond.methodLink RX6 79 yX6_isWhole, Cond.instanceMethod yX6_isWhole, Cond.selects RX6 yX6_isWhole yX6_isWhole, Cond.initialized RX6, Cond.code yX6_isWhole cX6_isWhole 5 (some .boolean), Cond.fieldLink RX6 36 "BlockLog$Story" "heard" "I", Cond.methodLink RX6 97 yX4_b, Cond.instanceMethod yX4_b, Cond.selects RX4 yX4_b yX4_b, Cond.initialized RX4, Cond.code yX4_b cX4_b 2 (some .int), Cond.fieldLink RX4 9 "BlockLog$Rows" "disk" "LBlockLog$Disk;", Cond.methodLink RX4 47 yX4_place, Cond.instanceMethod yX4_place, Cond.selects RX4 yX4_place yX4_place, Cond.code yX4_place cX4_place 2 (some .int), Cond.fieldLink RX4 19 "BlockLog$Rows" "area" "I", Cond.methodLink RX4 51 yX0_intAt, Cond.static yX0_intAt, Cond.initialized RX0]
def wsX6_hearBase_r2 : List Cond := [Cond.code yX0_intAt cX0_intAt 4 (some .int), Cond.methodLink RX6 87 yX4_a, Cond.instanceMethod yX4_a, Cond.selects RX4 yX4_a yX4_a, Cond.code yX4_a cX4_a 2 (some .int), Cond.static yX8_isHeight, Cond.initialized RX8, Cond.code yX8_isHeight cX8_isHeight 1 (some .boolean), Cond.constant RX8 163 (1000000), Cond.methodLink RX6 65 yX4_kind, Cond.instanceMethod yX4_kind, Cond.selects RX4 yX4_kind yX4_kind, Cond.code yX4_kind cX4_kind 2 (some .int), Cond.methodLink RX6 83 yX4_c, Cond.instanceMethod yX4_c, Cond.selects RX4 yX4_c yX4_c, Cond.code yX4_c cX4_c 2 (some .long), Cond.methodLink RX4 57 yX0_longAt, Cond.static yX0_longAt, Cond.code yX0_longAt cX0_longAt 5 (some .long)]
def wsX6_hearBase : List Cond := .code yX6_hearBase cX6_hearBase 2 none :: ((wsX6_hearBase_r1 ++ wsX6_hearBase_r2) ++ wsX60 ++ wsX40 ++ wsX10)
def wsX6_hear_r1 : List Cond := [Cond.fieldLink RX6 36 "BlockLog$Story" "heard" "I", Cond.fieldLink RX6 9 "BlockLog$Story" "rows" "LBlockLog$Rows;", Cond.fieldLink RX6 15 "BlockLog$Story" "digests" "[J", Cond.fieldLink RX6 19 "BlockLog$Story" "isBlock" "[Z", Cond.fieldLink RX6 23 "BlockLog$Story" "inBlock" "[Z", Cond.fieldLink RX6 26 "BlockLog$Story" "fits" "[Z", Cond.fieldLink RX6 43 "BlockLog$Story" "lastVote" "I", Cond.methodLink RX6 65 yX4_kind, Cond.instanceMethod yX4_kind, Cond.selects RX4 yX4_kind yX4_kind, Cond.initialized RX4, Cond.code yX4_kind cX4_kind 2 (some .int), Cond.fieldLink RX4 9 "BlockLog$Rows" "disk" "LBlockLog$Disk;", Cond.methodLink RX4 47 yX4_place, Cond.instanceMethod yX4_place, Cond.selects RX4 yX4_place yX4_place, Cond.code yX4_place cX4_place 2 (some .int), Cond.fieldLink RX4 19 "BlockLog$Rows" "area" "I", Cond.methodLink RX6 69 yX6_hearBlock, Cond.instanceMethod yX6_hearBlock, Cond.selects RX6 yX6_hearBlock yX6_hearBlock, Cond.initialized RX6, Cond.code yX6_hearBlock cX6_hearBlock 6 none, Cond.fieldLink RX6 46 "BlockLog$Story" "based" "Z"]
def wsX6_hear_r2 : List Cond := [Cond.methodLink RX6 79 yX6_isWhole, Cond.instanceMethod yX6_isWhole, Cond.selects RX6 yX6_isWhole yX6_isWhole, Cond.code yX6_isWhole cX6_isWhole 5 (some .boolean), Cond.methodLink RX6 97 yX4_b, Cond.instanceMethod yX4_b, Cond.selects RX4 yX4_b yX4_b, Cond.code yX4_b cX4_b 2 (some .int), Cond.methodLink RX4 51 yX0_intAt, Cond.static yX0_intAt, Cond.initialized RX0, Cond.code yX0_intAt cX0_intAt 4 (some .int), Cond.methodLink RX6 87 yX4_a, Cond.instanceMethod yX4_a, Cond.selects RX4 yX4_a yX4_a, Cond.code yX4_a cX4_a 2 (some .int), Cond.static yX8_isHeight, Cond.initialized RX8, Cond.code yX8_isHeight cX8_isHeight 1 (some .boolean), Cond.constant RX8 163 (1000000), Cond.methodLink RX6 90 yX6_sumOfBlock, Cond.instanceMethod yX6_sumOfBlock, Cond.selects RX6 yX6_sumOfBlock yX6_sumOfBlock, Cond.code yX6_sumOfBlock cX6_sumOfBlock 6 (some .long)]
def wsX6_hear_r3 : List Cond := [Cond.methodLink RX6 106 yX0_start, Cond.static yX0_start, Cond.code yX0_start cX0_start 1 (some .long), Cond.constantLong RX0 9 (1000003), Cond.methodLink RX6 111 yX0_addInt, Cond.static yX0_addInt, Cond.code yX0_addInt cX0_addInt 6 (some .long), Cond.methodLink RX0 15 yX0_add, Cond.static yX0_add, Cond.code yX0_add cX0_add 5 (some .long), Cond.constantLong RX0 13 (-4417276706812531889), Cond.methodLink RX6 83 yX4_c, Cond.instanceMethod yX4_c, Cond.selects RX4 yX4_c yX4_c, Cond.code yX4_c cX4_c 2 (some .long), Cond.methodLink RX4 57 yX0_longAt, Cond.static yX0_longAt, Cond.code yX0_longAt cX0_longAt 5 (some .long), Cond.methodLink RX6 115 yX0_addLong, Cond.static yX0_addLong, Cond.code yX0_addLong cX0_addLong 7 (some .long), Cond.methodLink RX6 93 yX6_blockRow, Cond.instanceMethod yX6_blockRow, Cond.selects RX6 yX6_blockRow yX6_blockRow]
def wsX6_hear_r4 : List Cond := [Cond.code yX6_blockRow cX6_blockRow 4 (some .int), Cond.methodLink RX6 73 yX6_hearCertificate, Cond.instanceMethod yX6_hearCertificate, Cond.selects RX6 yX6_hearCertificate yX6_hearCertificate, Cond.code yX6_hearCertificate cX6_hearCertificate 3 none, Cond.fieldLink RX6 40 "BlockLog$Story" "certified" "I", Cond.fieldLink RX6 29 "BlockLog$Story" "chain" "[I", Cond.methodLink RX6 100 yX6_isNext, Cond.instanceMethod yX6_isNext, Cond.selects RX6 yX6_isNext yX6_isNext, Cond.code yX6_isNext cX6_isNext 2 (some .boolean), Cond.methodLink RX6 126 yX6_lastVersion, Cond.instanceMethod yX6_lastVersion, Cond.selects RX6 yX6_lastVersion yX6_lastVersion, Cond.code yX6_lastVersion cX6_lastVersion 1 (some .int), Cond.fieldLink RX6 50 "BlockLog$Story" "baseHeight" "I", Cond.methodLink RX6 130 yX6_blockOf, Cond.instanceMethod yX6_blockOf, Cond.selects RX6 yX6_blockOf yX6_blockOf, Cond.code yX6_blockOf cX6_blockOf 3 (some .long), Cond.methodLink RX6 76 yX6_hearBase, Cond.instanceMethod yX6_hearBase, Cond.selects RX6 yX6_hearBase yX6_hearBase, Cond.code yX6_hearBase cX6_hearBase 2 none]
def wsX6_hear : List Cond := .code yX6_hear cX6_hear 3 none :: ((wsX6_hear_r1 ++ (wsX6_hear_r2 ++ (wsX6_hear_r3 ++ wsX6_hear_r4))) ++ wsX60 ++ wsX40 ++ wsX10)
def wsX6_hearAnew_r1 : List Cond := [Cond.fieldLink RX6 36 "BlockLog$Story" "heard" "I", Cond.fieldLink RX6 40 "BlockLog$Story" "certified" "I", Cond.fieldLink RX6 43 "BlockLog$Story" "lastVote" "I", Cond.fieldLink RX6 46 "BlockLog$Story" "based" "Z", Cond.fieldLink RX6 50 "BlockLog$Story" "baseHeight" "I", Cond.fieldLink RX6 9 "BlockLog$Story" "rows" "LBlockLog$Rows;", Cond.methodLink RX6 53 yX4_inNeed, Cond.instanceMethod yX4_inNeed, Cond.selects RX4 yX4_inNeed yX4_inNeed, Cond.initialized RX4, Cond.code yX4_inNeed cX4_inNeed 1 (some .boolean), Cond.fieldLink RX4 29 "BlockLog$Rows" "bad" "I", Cond.methodLink RX6 59 yX6_hear, Cond.instanceMethod yX6_hear, Cond.selects RX6 yX6_hear yX6_hear, Cond.initialized RX6, Cond.code yX6_hear cX6_hear 3 none, Cond.fieldLink RX6 15 "BlockLog$Story" "digests" "[J", Cond.fieldLink RX6 19 "BlockLog$Story" "isBlock" "[Z", Cond.fieldLink RX6 23 "BlockLog$Story" "inBlock" "[Z", Cond.fieldLink RX6 26 "BlockLog$Story" "fits" "[Z", Cond.methodLink RX6 65 yX4_kind, Cond.instanceMethod yX4_kind, Cond.selects RX4 yX4_kind yX4_kind]
def wsX6_hearAnew_r2 : List Cond := [Cond.code yX4_kind cX4_kind 2 (some .int), Cond.fieldLink RX4 9 "BlockLog$Rows" "disk" "LBlockLog$Disk;", Cond.methodLink RX4 47 yX4_place, Cond.instanceMethod yX4_place, Cond.selects RX4 yX4_place yX4_place, Cond.code yX4_place cX4_place 2 (some .int), Cond.fieldLink RX4 19 "BlockLog$Rows" "area" "I", Cond.methodLink RX6 69 yX6_hearBlock, Cond.instanceMethod yX6_hearBlock, Cond.selects RX6 yX6_hearBlock yX6_hearBlock, Cond.code yX6_hearBlock cX6_hearBlock 6 none, Cond.methodLink RX6 79 yX6_isWhole, Cond.instanceMethod yX6_isWhole, Cond.selects RX6 yX6_isWhole yX6_isWhole, Cond.code yX6_isWhole cX6_isWhole 5 (some .boolean), Cond.methodLink RX6 97 yX4_b, Cond.instanceMethod yX4_b, Cond.selects RX4 yX4_b yX4_b, Cond.code yX4_b cX4_b 2 (some .int), Cond.methodLink RX4 51 yX0_intAt, Cond.static yX0_intAt, Cond.initialized RX0, Cond.code yX0_intAt cX0_intAt 4 (some .int), Cond.methodLink RX6 87 yX4_a]
def wsX6_hearAnew_r3 : List Cond := [Cond.instanceMethod yX4_a, Cond.selects RX4 yX4_a yX4_a, Cond.code yX4_a cX4_a 2 (some .int), Cond.static yX8_isHeight, Cond.initialized RX8, Cond.code yX8_isHeight cX8_isHeight 1 (some .boolean), Cond.constant RX8 163 (1000000), Cond.methodLink RX6 90 yX6_sumOfBlock, Cond.instanceMethod yX6_sumOfBlock, Cond.selects RX6 yX6_sumOfBlock yX6_sumOfBlock, Cond.code yX6_sumOfBlock cX6_sumOfBlock 6 (some .long), Cond.methodLink RX6 106 yX0_start, Cond.static yX0_start, Cond.code yX0_start cX0_start 1 (some .long), Cond.constantLong RX0 9 (1000003), Cond.methodLink RX6 111 yX0_addInt, Cond.static yX0_addInt, Cond.code yX0_addInt cX0_addInt 6 (some .long), Cond.methodLink RX0 15 yX0_add, Cond.static yX0_add, Cond.code yX0_add cX0_add 5 (some .long), Cond.constantLong RX0 13 (-4417276706812531889), Cond.methodLink RX6 83 yX4_c, Cond.instanceMethod yX4_c]
def wsX6_hearAnew_r4 : List Cond := [Cond.selects RX4 yX4_c yX4_c, Cond.code yX4_c cX4_c 2 (some .long), Cond.methodLink RX4 57 yX0_longAt, Cond.static yX0_longAt, Cond.code yX0_longAt cX0_longAt 5 (some .long), Cond.methodLink RX6 115 yX0_addLong, Cond.static yX0_addLong, Cond.code yX0_addLong cX0_addLong 7 (some .long), Cond.methodLink RX6 93 yX6_blockRow, Cond.instanceMethod yX6_blockRow, Cond.selects RX6 yX6_blockRow yX6_blockRow, Cond.code yX6_blockRow cX6_blockRow 4 (some .int), Cond.methodLink RX6 73 yX6_hearCertificate, Cond.instanceMethod yX6_hearCertificate, Cond.selects RX6 yX6_hearCertificate yX6_hearCertificate, Cond.code yX6_hearCertificate cX6_hearCertificate 3 none, Cond.fieldLink RX6 29 "BlockLog$Story" "chain" "[I", Cond.methodLink RX6 100 yX6_isNext, Cond.instanceMethod yX6_isNext, Cond.selects RX6 yX6_isNext yX6_isNext, Cond.code yX6_isNext cX6_isNext 2 (some .boolean), Cond.methodLink RX6 126 yX6_lastVersion, Cond.instanceMethod yX6_lastVersion, Cond.selects RX6 yX6_lastVersion yX6_lastVersion]
def wsX6_hearAnew_r5 : List Cond := [Cond.code yX6_lastVersion cX6_lastVersion 1 (some .int), Cond.methodLink RX6 130 yX6_blockOf, Cond.instanceMethod yX6_blockOf, Cond.selects RX6 yX6_blockOf yX6_blockOf, Cond.code yX6_blockOf cX6_blockOf 3 (some .long), Cond.methodLink RX6 76 yX6_hearBase, Cond.instanceMethod yX6_hearBase, Cond.selects RX6 yX6_hearBase yX6_hearBase, Cond.code yX6_hearBase cX6_hearBase 2 none]
def wsX6_hearAnew : List Cond := .code yX6_hearAnew cX6_hearAnew 1 none :: ((wsX6_hearAnew_r1 ++ (wsX6_hearAnew_r2 ++ (wsX6_hearAnew_r3 ++ (wsX6_hearAnew_r4 ++ wsX6_hearAnew_r5)))) ++ wsX60 ++ wsX40 ++ wsX10)
def wsX6_digestAt : List Cond := .code yX6_digestAt cX6_digestAt 2 (some .long) :: ([.fieldLink RX6 36 "BlockLog$Story" "heard" "I", .fieldLink RX6 15 "BlockLog$Story" "digests" "[J"] ++ wsX60)
def wsX6_meant : List Cond := .code yX6_meant cX6_meant 3 (some .long) :: ([.constantLong RX6 119 (-128), .constantLong RX6 121 (-1), .methodLink RX6 123 yX6_digestAt, .instanceMethod yX6_digestAt, .selects RX6 yX6_digestAt yX6_digestAt, .initialized RX6, .code yX6_digestAt cX6_digestAt 2 (some .long), .fieldLink RX6 36 "BlockLog$Story" "heard" "I", .fieldLink RX6 15 "BlockLog$Story" "digests" "[J"] ++ wsX60)
def wsX6_heightOfParent_r1 : List Cond := [Cond.fieldLink RX6 46 "BlockLog$Story" "based" "Z", Cond.fieldLink RX6 15 "BlockLog$Story" "digests" "[J", Cond.fieldLink RX6 50 "BlockLog$Story" "baseHeight" "I", Cond.fieldLink RX6 9 "BlockLog$Story" "rows" "LBlockLog$Rows;", Cond.methodLink RX6 93 yX6_blockRow, Cond.instanceMethod yX6_blockRow, Cond.selects RX6 yX6_blockRow yX6_blockRow, Cond.initialized RX6, Cond.code yX6_blockRow cX6_blockRow 4 (some .int), Cond.fieldLink RX6 36 "BlockLog$Story" "heard" "I", Cond.fieldLink RX6 19 "BlockLog$Story" "isBlock" "[Z", Cond.methodLink RX6 87 yX4_a, Cond.instanceMethod yX4_a, Cond.selects RX4 yX4_a yX4_a, Cond.initialized RX4, Cond.code yX4_a cX4_a 2 (some .int), Cond.fieldLink RX4 9 "BlockLog$Rows" "disk" "LBlockLog$Disk;", Cond.methodLink RX4 47 yX4_place, Cond.instanceMethod yX4_place, Cond.selects RX4 yX4_place yX4_place, Cond.code yX4_place cX4_place 2 (some .int), Cond.fieldLink RX4 19 "BlockLog$Rows" "area" "I", Cond.methodLink RX4 51 yX0_intAt, Cond.static yX0_intAt]
def wsX6_heightOfParent_r2 : List Cond := [Cond.initialized RX0, Cond.code yX0_intAt cX0_intAt 4 (some .int)]
def wsX6_heightOfParent : List Cond := .code yX6_heightOfParent cX6_heightOfParent 4 (some .int) :: ((wsX6_heightOfParent_r1 ++ wsX6_heightOfParent_r2) ++ wsX60 ++ wsX40 ++ wsX10)
def wsX6_isKept : List Cond := .code yX6_isKept cX6_isKept 2 (some .boolean) :: ([.fieldLink RX6 9 "BlockLog$Story" "rows" "LBlockLog$Rows;", .fieldLink RX6 50 "BlockLog$Story" "baseHeight" "I", .methodLink RX6 53 yX4_inNeed, .instanceMethod yX4_inNeed, .selects RX4 yX4_inNeed yX4_inNeed, .initialized RX4, .code yX4_inNeed cX4_inNeed 1 (some .boolean), .fieldLink RX4 29 "BlockLog$Rows" "bad" "I", .methodLink RX6 126 yX6_lastVersion, .instanceMethod yX6_lastVersion, .selects RX6 yX6_lastVersion yX6_lastVersion, .initialized RX6, .code yX6_lastVersion cX6_lastVersion 1 (some .int), .fieldLink RX6 40 "BlockLog$Story" "certified" "I"] ++ wsX60 ++ wsX40)
def wsX6_isCertified : List Cond := .code yX6_isCertified cX6_isCertified 3 (some .boolean) :: ([.fieldLink RX6 40 "BlockLog$Story" "certified" "I", .fieldLink RX6 29 "BlockLog$Story" "chain" "[I"] ++ wsX60)
def wsX6_names_r1 : List Cond := [Cond.fieldLink RX6 36 "BlockLog$Story" "heard" "I", Cond.fieldLink RX6 23 "BlockLog$Story" "inBlock" "[Z", Cond.fieldLink RX6 9 "BlockLog$Story" "rows" "LBlockLog$Rows;", Cond.fieldLink RX6 50 "BlockLog$Story" "baseHeight" "I", Cond.fieldLink RX6 33 "BlockLog$Story" "slots" "[J", Cond.methodLink RX6 83 yX4_c, Cond.instanceMethod yX4_c, Cond.selects RX4 yX4_c yX4_c, Cond.initialized RX4, Cond.code yX4_c cX4_c 2 (some .long), Cond.fieldLink RX4 9 "BlockLog$Rows" "disk" "LBlockLog$Disk;", Cond.methodLink RX4 47 yX4_place, Cond.instanceMethod yX4_place, Cond.selects RX4 yX4_place yX4_place, Cond.code yX4_place cX4_place 2 (some .int), Cond.fieldLink RX4 19 "BlockLog$Rows" "area" "I", Cond.methodLink RX4 57 yX0_longAt, Cond.static yX0_longAt, Cond.initialized RX0, Cond.code yX0_longAt cX0_longAt 5 (some .long), Cond.methodLink RX6 136 yX6_drawVersion, Cond.instanceMethod yX6_drawVersion, Cond.selects RX6 yX6_drawVersion yX6_drawVersion, Cond.initialized RX6]
def wsX6_names_r2 : List Cond := [Cond.code yX6_drawVersion cX6_drawVersion 3 none, Cond.fieldLink RX6 46 "BlockLog$Story" "based" "Z", Cond.fieldLink RX6 40 "BlockLog$Story" "certified" "I", Cond.fieldLink RX6 29 "BlockLog$Story" "chain" "[I", Cond.methodLink RX6 133 yX6_drawChanges, Cond.instanceMethod yX6_drawChanges, Cond.selects RX6 yX6_drawChanges yX6_drawChanges, Cond.code yX6_drawChanges cX6_drawChanges 5 none, Cond.methodLink RX6 97 yX4_b, Cond.instanceMethod yX4_b, Cond.selects RX4 yX4_b yX4_b, Cond.code yX4_b cX4_b 2 (some .int), Cond.methodLink RX4 51 yX0_intAt, Cond.static yX0_intAt, Cond.code yX0_intAt cX0_intAt 4 (some .int), Cond.methodLink RX6 87 yX4_a, Cond.instanceMethod yX4_a, Cond.selects RX4 yX4_a yX4_a, Cond.code yX4_a cX4_a 2 (some .int)]
def wsX6_names : List Cond := .code yX6_names cX6_names 4 (some .boolean) :: ((wsX6_names_r1 ++ wsX6_names_r2) ++ wsX60 ++ wsX40 ++ wsX10)
set_option maxRecDepth 20000 in
theorem ggX6_hearAnew_X4_inNeed : GoodIn wsX6_hearAnew wsX4_inNeed := goodIn_r _ [11, 12, 118, 119, 120, 121, 122, 123] (by decide +kernel) (by decide +kernel)
set_option maxRecDepth 20000 in
theorem gX6_hearAnew_X4_inNeed : GoodIn wsX6_hearAnew (wsV RX6 53 RX4 yX4_inNeed wsX4_inNeed) := goodIn_app (goodIn_of _ (by decide +kernel)) ggX6_hearAnew_X4_inNeed
set_option maxRecDepth 20000 in
theorem ggX6_hearAnew_X6_hear : GoodIn wsX6_hearAnew wsX6_hear := goodIn_r _ [17, 1, 6, 18, 19, 20, 21, 3, 22, 23, 24, 10, 25, 26, 27, 28, 29, 30, 31, 32, 33, 34, 16, 35, 4, 36, 37, 38, 39, 40, 41, 42, 43, 44, 45, 46, 47, 48, 49, 50, 51, 52, 53, 54, 55, 56, 57, 58, 59, 60, 61, 62, 63, 64, 65, 66, 67, 68, 69, 70, 71, 72, 73, 74, 75, 76, 77, 78, 79, 80, 81, 82, 83, 84, 85, 86, 87, 88, 2, 89, 90, 91, 92, 93, 94, 95, 96, 97, 5, 98, 99, 100, 101, 102, 103, 104, 105, 106, 107, 108, 109, 110, 111, 112, 113, 114, 115, 116, 117, 118, 119, 120, 121, 122, 123, 124, 125, 126, 127, 128, 129, 130] (by decide +kernel) (by decide +kernel)
set_option maxRecDepth 20000 in
theorem gX6_hearAnew_X6_hear : GoodIn wsX6_hearAnew (wsV RX6 59 RX6 yX6_hear wsX6_hear) := goodIn_app (goodIn_of _ (by decide +kernel)) ggX6_hearAnew_X6_hear
set_option maxRecDepth 20000 in
theorem ggX6_hear_X4_kind : GoodIn wsX6_hear wsX4_kind := goodIn_r _ [12, 13, 14, 15, 16, 11, 17, 18, 109, 110, 111, 112, 113, 114, 115, 116, 117, 118, 119, 120, 121] (by decide +kernel) (by decide +kernel)
set_option maxRecDepth 20000 in
theorem gX6_hear_X4_kind : GoodIn wsX6_hear (wsV RX6 65 RX4 yX4_kind wsX4_kind) := goodIn_app (goodIn_of _ (by decide +kernel)) ggX6_hear_X4_kind
set_option maxRecDepth 20000 in
theorem ggX6_hear_X6_hearBlock : GoodIn wsX6_hear wsX6_hearBlock := goodIn_r _ [23, 4, 24, 3, 2, 5, 25, 26, 27, 22, 28, 1, 29, 30, 31, 11, 32, 13, 14, 15, 16, 17, 18, 33, 34, 35, 36, 37, 38, 39, 40, 41, 42, 43, 44, 8, 9, 10, 12, 45, 46, 47, 48, 49, 50, 51, 52, 53, 54, 55, 56, 57, 58, 59, 60, 61, 62, 63, 64, 65, 66, 67, 68, 69, 70, 71, 72, 73, 97, 98, 99, 100, 101, 102, 103, 104, 105, 106, 107, 108, 109, 110, 111, 112, 113, 114, 115, 116, 117, 118, 119, 120, 121] (by decide +kernel) (by decide +kernel)
set_option maxRecDepth 20000 in
theorem gX6_hear_X6_hearBlock : GoodIn wsX6_hear (wsV RX6 69 RX6 yX6_hearBlock wsX6_hearBlock) := goodIn_app (goodIn_of _ (by decide +kernel)) ggX6_hear_X6_hearBlock
set_option maxRecDepth 20000 in
theorem ggX6_hear_X6_hearCertificate : GoodIn wsX6_hear wsX6_hearCertificate := goodIn_r _ [77, 2, 78, 6, 79, 60, 61, 62, 11, 63, 13, 14, 15, 16, 17, 18, 64, 65, 35, 66, 70, 71, 72, 22, 73, 1, 4, 3, 80, 81, 82, 83, 37, 38, 39, 40, 33, 34, 36, 84, 85, 86, 87, 88, 89, 90, 91, 92, 24, 97, 98, 99, 100, 101, 102, 103, 104, 105, 106, 107, 108, 109, 110, 111, 112, 113, 114, 115, 116, 117, 118, 119, 120, 121] (by decide +kernel) (by decide +kernel)
set_option maxRecDepth 20000 in
theorem gX6_hear_X6_hearCertificate : GoodIn wsX6_hear (wsV RX6 73 RX6 yX6_hearCertificate wsX6_hearCertificate) := goodIn_app (goodIn_of _ (by decide +kernel)) ggX6_hear_X6_hearCertificate
set_option maxRecDepth 20000 in
theorem ggX6_hear_X6_hearBase : GoodIn wsX6_hear wsX6_hearBase := goodIn_r _ [96, 2, 3, 24, 88, 25, 26, 27, 22, 28, 1, 29, 30, 31, 11, 32, 13, 14, 15, 16, 17, 18, 33, 34, 35, 36, 37, 38, 39, 40, 41, 42, 43, 44, 8, 9, 10, 12, 60, 61, 62, 63, 64, 65, 66, 97, 98, 99, 100, 101, 102, 103, 104, 105, 106, 107, 108, 109, 110, 111, 112, 113, 114, 115, 116, 117, 118, 119, 120, 121] (by decide +kernel) (by decide +kernel)
set_option maxRecDepth 20000 in
theorem gX6_hear_X6_hearBase : GoodIn wsX6_hear (wsV RX6 76 RX6 yX6_hearBase wsX6_hearBase) := goodIn_app (goodIn_of _ (by decide +kernel)) ggX6_hear_X6_hearBase
set_option maxRecDepth 20000 in
theorem ggX6_hearBase_X6_isWhole : GoodIn wsX6_hearBase wsX6_isWhole := goodIn_r _ [9, 1, 10, 11, 12, 13, 14, 15, 16, 17, 18, 19, 20, 21, 22, 23, 24, 25, 26, 27, 28, 29, 30, 31, 32, 33, 34, 35, 36, 37, 45, 46, 47, 48, 49, 50, 51, 52, 53, 54, 55, 56, 57, 58, 59, 60, 61, 62, 63, 64, 65, 66, 67, 68, 69] (by decide +kernel) (by decide +kernel)
set_option maxRecDepth 20000 in
theorem gX6_hearBase_X6_isWhole : GoodIn wsX6_hearBase (wsV RX6 79 RX6 yX6_isWhole wsX6_isWhole) := goodIn_app (goodIn_of _ (by decide +kernel)) ggX6_hearBase_X6_isWhole
set_option maxRecDepth 20000 in
theorem ggX6_hearBase_X4_c : GoodIn wsX6_hearBase wsX4_c := goodIn_r _ [41, 16, 17, 18, 19, 14, 20, 21, 42, 43, 24, 44, 57, 58, 59, 60, 61, 62, 63, 64, 65, 66, 67, 68, 69] (by decide +kernel) (by decide +kernel)
set_option maxRecDepth 20000 in
theorem gX6_hearBase_X4_c : GoodIn wsX6_hearBase (wsV RX6 83 RX4 yX4_c wsX4_c) := goodIn_app (goodIn_of _ (by decide +kernel)) ggX6_hearBase_X4_c
set_option maxRecDepth 20000 in
theorem ggX6_hearBase_X4_a : GoodIn wsX6_hearBase wsX4_a := goodIn_r _ [29, 16, 17, 18, 19, 14, 20, 21, 22, 23, 24, 25, 57, 58, 59, 60, 61, 62, 63, 64, 65, 66, 67, 68, 69] (by decide +kernel) (by decide +kernel)
set_option maxRecDepth 20000 in
theorem gX6_hearBase_X4_a : GoodIn wsX6_hearBase (wsV RX6 87 RX4 yX4_a wsX4_a) := goodIn_app (goodIn_of _ (by decide +kernel)) ggX6_hearBase_X4_a
set_option maxRecDepth 20000 in
theorem ggX6_hearBlock_X6_isWhole : GoodIn wsX6_hearBlock wsX6_isWhole := goodIn_r _ [10, 4, 11, 12, 13, 14, 15, 16, 17, 18, 19, 20, 21, 22, 23, 24, 25, 26, 27, 28, 29, 30, 31, 32, 33, 34, 35, 36, 37, 38, 68, 69, 70, 71, 72, 73, 74, 75, 76, 77, 78, 79, 80, 81, 82, 83, 84, 85, 86, 87, 88, 89, 90, 91, 92] (by decide +kernel) (by decide +kernel)
set_option maxRecDepth 20000 in
theorem gX6_hearBlock_X6_isWhole : GoodIn wsX6_hearBlock (wsV RX6 79 RX6 yX6_isWhole wsX6_isWhole) := goodIn_app (goodIn_of _ (by decide +kernel)) ggX6_hearBlock_X6_isWhole
set_option maxRecDepth 20000 in
theorem ggX6_hearBlock_X6_sumOfBlock : GoodIn wsX6_hearBlock wsX6_sumOfBlock := goodIn_r _ [42, 4, 43, 44, 25, 45, 46, 27, 28, 29, 15, 30, 17, 18, 19, 20, 21, 22, 23, 24, 26, 47, 48, 49, 50, 51, 52, 53, 54, 55, 56, 57, 58, 59, 60, 61, 62, 63, 12, 13, 14, 16, 68, 69, 70, 71, 72, 73, 74, 75, 76, 77, 78, 79, 80, 81, 82, 83, 84, 85, 86, 87, 88, 89, 90, 91, 92] (by decide +kernel) (by decide +kernel)
set_option maxRecDepth 20000 in
theorem gX6_hearBlock_X6_sumOfBlock : GoodIn wsX6_hearBlock (wsV RX6 90 RX6 yX6_sumOfBlock wsX6_sumOfBlock) := goodIn_app (goodIn_of _ (by decide +kernel)) ggX6_hearBlock_X6_sumOfBlock
set_option maxRecDepth 20000 in
theorem ggX6_hearBlock_X6_blockRow : GoodIn wsX6_hearBlock wsX6_blockRow := goodIn_r _ [67, 11, 1, 3, 68, 69, 70, 71, 72, 73, 74, 75, 76, 77, 78, 79] (by decide +kernel) (by decide +kernel)
set_option maxRecDepth 20000 in
theorem gX6_hearBlock_X6_blockRow : GoodIn wsX6_hearBlock (wsV RX6 93 RX6 yX6_blockRow wsX6_blockRow) := goodIn_app (goodIn_of _ (by decide +kernel)) ggX6_hearBlock_X6_blockRow
set_option maxRecDepth 20000 in
theorem ggX6_hearBlock_X4_b : GoodIn wsX6_hearBlock wsX4_b := goodIn_r _ [16, 17, 18, 19, 20, 15, 21, 22, 23, 24, 25, 26, 80, 81, 82, 83, 84, 85, 86, 87, 88, 89, 90, 91, 92] (by decide +kernel) (by decide +kernel)
set_option maxRecDepth 20000 in
theorem gX6_hearBlock_X4_b : GoodIn wsX6_hearBlock (wsV RX6 97 RX4 yX4_b wsX4_b) := goodIn_app (goodIn_of _ (by decide +kernel)) ggX6_hearBlock_X4_b
set_option maxRecDepth 20000 in
theorem ggX6_hearCertificate_X4_c : GoodIn wsX6_hearCertificate wsX4_c := goodIn_r _ [9, 10, 11, 12, 13, 8, 14, 15, 16, 17, 18, 19, 61, 62, 63, 64, 65, 66, 67, 68, 69, 70, 71, 72, 73] (by decide +kernel) (by decide +kernel)
set_option maxRecDepth 20000 in
theorem gX6_hearCertificate_X4_c : GoodIn wsX6_hearCertificate (wsV RX6 83 RX4 yX4_c wsX4_c) := goodIn_app (goodIn_of _ (by decide +kernel)) ggX6_hearCertificate_X4_c
set_option maxRecDepth 20000 in
theorem ggX6_hearCertificate_X6_blockRow : GoodIn wsX6_hearCertificate wsX6_blockRow := goodIn_r _ [24, 25, 26, 27, 49, 50, 51, 52, 53, 54, 55, 56, 57, 58, 59, 60] (by decide +kernel) (by decide +kernel)
set_option maxRecDepth 20000 in
theorem gX6_hearCertificate_X6_blockRow : GoodIn wsX6_hearCertificate (wsV RX6 93 RX6 yX6_blockRow wsX6_blockRow) := goodIn_app (goodIn_of _ (by decide +kernel)) ggX6_hearCertificate_X6_blockRow
set_option maxRecDepth 20000 in
theorem ggX6_hearCertificate_X6_isNext : GoodIn wsX6_hearCertificate wsX6_isNext := goodIn_r _ [31, 1, 32, 33, 34, 8, 35, 10, 11, 12, 13, 14, 15, 36, 37, 18, 38, 39, 40, 41, 23, 42, 43, 2, 5, 6, 7, 9, 16, 17, 19, 44, 45, 46, 47, 27, 4, 48, 49, 50, 51, 52, 53, 54, 55, 56, 57, 58, 59, 60, 61, 62, 63, 64, 65, 66, 67, 68, 69, 70, 71, 72, 73] (by decide +kernel) (by decide +kernel)
set_option maxRecDepth 20000 in
theorem gX6_hearCertificate_X6_isNext : GoodIn wsX6_hearCertificate (wsV RX6 100 RX6 yX6_isNext wsX6_isNext) := goodIn_app (goodIn_of _ (by decide +kernel)) ggX6_hearCertificate_X6_isNext
set_option maxRecDepth 20000 in
theorem ggX6_isWhole_X4_b : GoodIn wsX6_isWhole wsX4_b := goodIn_r _ [7, 8, 9, 10, 11, 6, 12, 13, 14, 15, 16, 17, 42, 43, 44, 45, 46, 47, 48, 49, 50, 51, 52, 53, 54] (by decide +kernel) (by decide +kernel)
set_option maxRecDepth 20000 in
theorem gX6_isWhole_X4_b : GoodIn wsX6_isWhole (wsV RX6 97 RX4 yX4_b wsX4_b) := goodIn_app (goodIn_of _ (by decide +kernel)) ggX6_isWhole_X4_b
set_option maxRecDepth 20000 in
theorem ggX6_isWhole_X4_a : GoodIn wsX6_isWhole wsX4_a := goodIn_r _ [21, 8, 9, 10, 11, 6, 12, 13, 14, 15, 16, 17, 42, 43, 44, 45, 46, 47, 48, 49, 50, 51, 52, 53, 54] (by decide +kernel) (by decide +kernel)
set_option maxRecDepth 20000 in
theorem gX6_isWhole_X4_a : GoodIn wsX6_isWhole (wsV RX6 87 RX4 yX4_a wsX4_a) := goodIn_app (goodIn_of _ (by decide +kernel)) ggX6_isWhole_X4_a
set_option maxRecDepth 20000 in
theorem ggX6_isWhole_X8_isHeight : GoodIn wsX6_isWhole wsX8_isHeight := goodIn_r _ [24, 25] (by decide +kernel) (by decide +kernel)
set_option maxRecDepth 20000 in
theorem ggX6_isWhole_X4_kind : GoodIn wsX6_isWhole wsX4_kind := goodIn_r _ [29, 8, 9, 10, 11, 6, 12, 13, 42, 43, 44, 45, 46, 47, 48, 49, 50, 51, 52, 53, 54] (by decide +kernel) (by decide +kernel)
set_option maxRecDepth 20000 in
theorem gX6_isWhole_X4_kind : GoodIn wsX6_isWhole (wsV RX6 65 RX4 yX4_kind wsX4_kind) := goodIn_app (goodIn_of _ (by decide +kernel)) ggX6_isWhole_X4_kind
set_option maxRecDepth 20000 in
theorem ggX6_sumOfBlock_X0_start : GoodIn wsX6_sumOfBlock wsX0_start := goodIn_r _ [5, 6] (by decide +kernel) (by decide +kernel)
set_option maxRecDepth 20000 in
theorem gX6_sumOfBlock_X0_start : GoodIn wsX6_sumOfBlock (va_wsS RX6 106 yX0_start wsX0_start) := goodIn_app (goodIn_of _ (by decide +kernel)) ggX6_sumOfBlock_X0_start
set_option maxRecDepth 20000 in
theorem ggX6_sumOfBlock_X4_a : GoodIn wsX6_sumOfBlock wsX4_a := goodIn_r _ [11, 12, 13, 14, 15, 10, 16, 17, 18, 19, 4, 20, 54, 55, 56, 57, 58, 59, 60, 61, 62, 63, 64, 65, 66] (by decide +kernel) (by decide +kernel)
set_option maxRecDepth 20000 in
theorem gX6_sumOfBlock_X4_a : GoodIn wsX6_sumOfBlock (wsV RX6 87 RX4 yX4_a wsX4_a) := goodIn_app (goodIn_of _ (by decide +kernel)) ggX6_sumOfBlock_X4_a
set_option maxRecDepth 20000 in
theorem ggX6_sumOfBlock_X0_addInt : GoodIn wsX6_sumOfBlock wsX0_addInt := goodIn_r _ [23, 24, 25, 4, 26, 27] (by decide +kernel) (by decide +kernel)
set_option maxRecDepth 20000 in
theorem gX6_sumOfBlock_X0_addInt : GoodIn wsX6_sumOfBlock (va_wsS RX6 111 yX0_addInt wsX0_addInt) := goodIn_app (goodIn_of _ (by decide +kernel)) ggX6_sumOfBlock_X0_addInt
set_option maxRecDepth 20000 in
theorem ggX6_sumOfBlock_X4_c : GoodIn wsX6_sumOfBlock wsX4_c := goodIn_r _ [31, 12, 13, 14, 15, 10, 16, 17, 32, 33, 4, 34, 54, 55, 56, 57, 58, 59, 60, 61, 62, 63, 64, 65, 66] (by decide +kernel) (by decide +kernel)
set_option maxRecDepth 20000 in
theorem gX6_sumOfBlock_X4_c : GoodIn wsX6_sumOfBlock (wsV RX6 83 RX4 yX4_c wsX4_c) := goodIn_app (goodIn_of _ (by decide +kernel)) ggX6_sumOfBlock_X4_c
set_option maxRecDepth 20000 in
theorem ggX6_sumOfBlock_X0_addLong : GoodIn wsX6_sumOfBlock wsX0_addLong := goodIn_r _ [37, 24, 25, 4, 26, 27] (by decide +kernel) (by decide +kernel)
set_option maxRecDepth 20000 in
theorem gX6_sumOfBlock_X0_addLong : GoodIn wsX6_sumOfBlock (va_wsS RX6 115 yX0_addLong wsX0_addLong) := goodIn_app (goodIn_of _ (by decide +kernel)) ggX6_sumOfBlock_X0_addLong
set_option maxRecDepth 20000 in
theorem ggX6_sumOfBlock_X4_b : GoodIn wsX6_sumOfBlock wsX4_b := goodIn_r _ [41, 12, 13, 14, 15, 10, 16, 17, 18, 19, 4, 20, 54, 55, 56, 57, 58, 59, 60, 61, 62, 63, 64, 65, 66] (by decide +kernel) (by decide +kernel)
set_option maxRecDepth 20000 in
theorem gX6_sumOfBlock_X4_b : GoodIn wsX6_sumOfBlock (wsV RX6 97 RX4 yX4_b wsX4_b) := goodIn_app (goodIn_of _ (by decide +kernel)) ggX6_sumOfBlock_X4_b
set_option maxRecDepth 20000 in
theorem ggX6_meant_X6_digestAt : GoodIn wsX6_meant wsX6_digestAt := goodIn_r _ [7, 8, 9, 10, 11, 12, 13, 14, 15, 16, 17, 18, 19, 20, 21] (by decide +kernel) (by decide +kernel)
set_option maxRecDepth 20000 in
theorem gX6_meant_X6_digestAt : GoodIn wsX6_meant (wsV RX6 123 RX6 yX6_digestAt wsX6_digestAt) := goodIn_app (goodIn_of _ (by decide +kernel)) ggX6_meant_X6_digestAt
set_option maxRecDepth 20000 in
theorem ggX6_heightOfParent_X6_blockRow : GoodIn wsX6_heightOfParent wsX6_blockRow := goodIn_r _ [9, 10, 11, 2, 27, 28, 29, 30, 31, 32, 33, 34, 35, 36, 37, 38] (by decide +kernel) (by decide +kernel)
set_option maxRecDepth 20000 in
theorem gX6_heightOfParent_X6_blockRow : GoodIn wsX6_heightOfParent (wsV RX6 93 RX6 yX6_blockRow wsX6_blockRow) := goodIn_app (goodIn_of _ (by decide +kernel)) ggX6_heightOfParent_X6_blockRow
set_option maxRecDepth 20000 in
theorem ggX6_heightOfParent_X4_a : GoodIn wsX6_heightOfParent wsX4_a := goodIn_r _ [16, 17, 18, 19, 20, 15, 21, 22, 23, 24, 25, 26, 39, 40, 41, 42, 43, 44, 45, 46, 47, 48, 49, 50, 51] (by decide +kernel) (by decide +kernel)
set_option maxRecDepth 20000 in
theorem gX6_heightOfParent_X4_a : GoodIn wsX6_heightOfParent (wsV RX6 87 RX4 yX4_a wsX4_a) := goodIn_app (goodIn_of _ (by decide +kernel)) ggX6_heightOfParent_X4_a
set_option maxRecDepth 20000 in
theorem ggX6_isKept_X4_inNeed : GoodIn wsX6_isKept wsX4_inNeed := goodIn_r _ [7, 8, 27, 28, 29, 30, 31, 32] (by decide +kernel) (by decide +kernel)
set_option maxRecDepth 20000 in
theorem gX6_isKept_X4_inNeed : GoodIn wsX6_isKept (wsV RX6 53 RX4 yX4_inNeed wsX4_inNeed) := goodIn_app (goodIn_of _ (by decide +kernel)) ggX6_isKept_X4_inNeed
set_option maxRecDepth 20000 in
theorem ggX6_isKept_X6_lastVersion : GoodIn wsX6_isKept wsX6_lastVersion := goodIn_r _ [13, 2, 14, 15, 16, 17, 18, 19, 20, 21, 22, 23, 24, 25, 26] (by decide +kernel) (by decide +kernel)
set_option maxRecDepth 20000 in
theorem gX6_isKept_X6_lastVersion : GoodIn wsX6_isKept (wsV RX6 126 RX6 yX6_lastVersion wsX6_lastVersion) := goodIn_app (goodIn_of _ (by decide +kernel)) ggX6_isKept_X6_lastVersion
set_option maxRecDepth 20000 in
theorem ggX6_isNext_X4_a : GoodIn wsX6_isNext wsX4_a := goodIn_r _ [6, 7, 8, 9, 10, 5, 11, 12, 13, 14, 15, 16, 50, 51, 52, 53, 54, 55, 56, 57, 58, 59, 60, 61, 62] (by decide +kernel) (by decide +kernel)
set_option maxRecDepth 20000 in
theorem gX6_isNext_X4_a : GoodIn wsX6_isNext (wsV RX6 87 RX4 yX4_a wsX4_a) := goodIn_app (goodIn_of _ (by decide +kernel)) ggX6_isNext_X4_a
set_option maxRecDepth 20000 in
theorem ggX6_isNext_X6_lastVersion : GoodIn wsX6_isNext wsX6_lastVersion := goodIn_r _ [21, 22, 23, 38, 39, 40, 41, 42, 43, 44, 45, 46, 47, 48, 49] (by decide +kernel) (by decide +kernel)
set_option maxRecDepth 20000 in
theorem gX6_isNext_X6_lastVersion : GoodIn wsX6_isNext (wsV RX6 126 RX6 yX6_lastVersion wsX6_lastVersion) := goodIn_app (goodIn_of _ (by decide +kernel)) ggX6_isNext_X6_lastVersion
set_option maxRecDepth 20000 in
theorem ggX6_isNext_X4_c : GoodIn wsX6_isNext wsX4_c := goodIn_r _ [27, 7, 8, 9, 10, 5, 11, 12, 28, 29, 15, 30, 50, 51, 52, 53, 54, 55, 56, 57, 58, 59, 60, 61, 62] (by decide +kernel) (by decide +kernel)
set_option maxRecDepth 20000 in
theorem gX6_isNext_X4_c : GoodIn wsX6_isNext (wsV RX6 83 RX4 yX4_c wsX4_c) := goodIn_app (goodIn_of _ (by decide +kernel)) ggX6_isNext_X4_c
set_option maxRecDepth 20000 in
theorem ggX6_isNext_X6_blockOf : GoodIn wsX6_isNext wsX6_blockOf := goodIn_r _ [34, 22, 23, 35, 36, 37, 38, 39, 40, 41, 42, 43, 44, 45, 46, 47, 48, 49] (by decide +kernel) (by decide +kernel)
set_option maxRecDepth 20000 in
theorem gX6_isNext_X6_blockOf : GoodIn wsX6_isNext (wsV RX6 130 RX6 yX6_blockOf wsX6_blockOf) := goodIn_app (goodIn_of _ (by decide +kernel)) ggX6_isNext_X6_blockOf
set_option maxRecDepth 20000 in
theorem ggX6_drawVersion_X6_drawChanges : GoodIn wsX6_drawVersion wsX6_drawChanges := goodIn_r _ [10, 11, 12, 1, 13, 14, 15, 16, 17, 18, 19, 20, 21, 22, 23, 24, 25, 26, 27, 28, 29, 30, 31, 32, 33, 34, 35, 36, 37, 38, 39, 40, 41, 42, 43, 44, 45, 46, 47, 48, 49, 50, 51, 52, 53, 54, 55, 56, 57, 58, 59, 60, 61, 62, 63] (by decide +kernel) (by decide +kernel)
set_option maxRecDepth 20000 in
theorem gX6_drawVersion_X6_drawChanges : GoodIn wsX6_drawVersion (wsV RX6 133 RX6 yX6_drawChanges wsX6_drawChanges) := goodIn_app (goodIn_of _ (by decide +kernel)) ggX6_drawVersion_X6_drawChanges
set_option maxRecDepth 20000 in
theorem ggX6_drawChanges_X4_b : GoodIn wsX6_drawChanges wsX4_b := goodIn_r _ [8, 9, 10, 11, 12, 7, 13, 14, 15, 16, 17, 18, 42, 43, 44, 45, 46, 47, 48, 49, 50, 51, 52, 53, 54] (by decide +kernel) (by decide +kernel)
set_option maxRecDepth 20000 in
theorem gX6_drawChanges_X4_b : GoodIn wsX6_drawChanges (wsV RX6 97 RX4 yX4_b wsX4_b) := goodIn_app (goodIn_of _ (by decide +kernel)) ggX6_drawChanges_X4_b
set_option maxRecDepth 20000 in
theorem ggX6_drawChanges_X4_a : GoodIn wsX6_drawChanges wsX4_a := goodIn_r _ [22, 9, 10, 11, 12, 7, 13, 14, 15, 16, 17, 18, 42, 43, 44, 45, 46, 47, 48, 49, 50, 51, 52, 53, 54] (by decide +kernel) (by decide +kernel)
set_option maxRecDepth 20000 in
theorem gX6_drawChanges_X4_a : GoodIn wsX6_drawChanges (wsV RX6 87 RX4 yX4_a wsX4_a) := goodIn_app (goodIn_of _ (by decide +kernel)) ggX6_drawChanges_X4_a
set_option maxRecDepth 20000 in
theorem ggX6_drawChanges_X4_c : GoodIn wsX6_drawChanges wsX4_c := goodIn_r _ [26, 9, 10, 11, 12, 7, 13, 14, 27, 28, 17, 29, 42, 43, 44, 45, 46, 47, 48, 49, 50, 51, 52, 53, 54] (by decide +kernel) (by decide +kernel)
set_option maxRecDepth 20000 in
theorem gX6_drawChanges_X4_c : GoodIn wsX6_drawChanges (wsV RX6 83 RX4 yX4_c wsX4_c) := goodIn_app (goodIn_of _ (by decide +kernel)) ggX6_drawChanges_X4_c
set_option maxRecDepth 20000 in
theorem ggX6_names_X4_c : GoodIn wsX6_names wsX4_c := goodIn_r _ [10, 11, 12, 13, 14, 9, 15, 16, 17, 18, 19, 20, 56, 57, 58, 59, 60, 61, 62, 63, 64, 65, 66, 67, 68] (by decide +kernel) (by decide +kernel)
set_option maxRecDepth 20000 in
theorem gX6_names_X4_c : GoodIn wsX6_names (wsV RX6 83 RX4 yX4_c wsX4_c) := goodIn_app (goodIn_of _ (by decide +kernel)) ggX6_names_X4_c
set_option maxRecDepth 20000 in
theorem ggX6_names_X6_drawVersion : GoodIn wsX6_names wsX6_drawVersion := goodIn_r _ [25, 5, 26, 27, 4, 28, 29, 30, 31, 24, 32, 3, 1, 33, 34, 35, 9, 36, 11, 12, 13, 14, 15, 16, 37, 38, 19, 39, 40, 41, 42, 43, 6, 7, 8, 10, 17, 18, 20, 44, 45, 46, 47, 48, 49, 50, 51, 52, 53, 54, 55, 56, 57, 58, 59, 60, 61, 62, 63, 64, 65, 66, 67, 68] (by decide +kernel) (by decide +kernel)
set_option maxRecDepth 20000 in
theorem gX6_names_X6_drawVersion : GoodIn wsX6_names (wsV RX6 136 RX6 yX6_drawVersion wsX6_drawVersion) := goodIn_app (goodIn_of _ (by decide +kernel)) ggX6_names_X6_drawVersion
