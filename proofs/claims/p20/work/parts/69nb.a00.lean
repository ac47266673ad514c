abbrev cX1_setLow : ByteArray := prog_3_method_4_code
def yX1_setLow : MethodName := ⟨RX1, "setLow", "(II)V"⟩
abbrev cX1_act : ByteArray := prog_3_method_5_code
def yX1_act : MethodName := ⟨RX1, "act", "()Z"⟩
abbrev cX1_writeLow : ByteArray := prog_3_method_6_code
def yX1_writeLow : MethodName := ⟨RX1, "writeLow", "(I[BI)Z"⟩
abbrev cX1_sealLow : ByteArray := prog_3_method_8_code
def yX1_sealLow : MethodName := ⟨RX1, "sealLow", "(I)Z"⟩
abbrev cX1_eraseHead : ByteArray := prog_3_method_9_code
def yX1_eraseHead : MethodName := ⟨RX1, "eraseHead", "(I)Z"⟩
abbrev cX1_eraseRows : ByteArray := prog_3_method_10_code
def yX1_eraseRows : MethodName := ⟨RX1, "eraseRows", "(III)Z"⟩
abbrev cX1_rowState : ByteArray := prog_3_method_12_code
def yX1_rowState : MethodName := ⟨RX1, "rowState", "(II)I"⟩
abbrev cX4_place : ByteArray := prog_6_method_2_code
def yX4_place : MethodName := ⟨RX4, "place", "(I)I"⟩
abbrev cX4_kind : ByteArray := prog_6_method_3_code
def yX4_kind : MethodName := ⟨RX4, "kind", "(I)I"⟩
abbrev cX4_a : ByteArray := prog_6_method_4_code
def yX4_a : MethodName := ⟨RX4, "a", "(I)I"⟩
abbrev cX4_b : ByteArray := prog_6_method_5_code
def yX4_b : MethodName := ⟨RX4, "b", "(I)I"⟩
abbrev cX4_c : ByteArray := prog_6_method_6_code
def yX4_c : MethodName := ⟨RX4, "c", "(I)J"⟩
abbrev cX4_state : ByteArray := prog_6_method_7_code
def yX4_state : MethodName := ⟨RX4, "state", "(I)I"⟩
abbrev cX4_inNeed : ByteArray := prog_6_method_8_code
def yX4_inNeed : MethodName := ⟨RX4, "inNeed", "()Z"⟩
abbrev cX4_draw : ByteArray := prog_6_method_9_code
def yX4_draw : MethodName := ⟨RX4, "draw", "(IIIJ)V"⟩
abbrev cX4_drawHead : ByteArray := prog_6_method_10_code
def yX4_drawHead : MethodName := ⟨RX4, "drawHead", "(I)V"⟩
abbrev cX4_drawCopy : ByteArray := prog_6_method_11_code
def yX4_drawCopy : MethodName := ⟨RX4, "drawCopy", "(I)V"⟩
abbrev cX4_writeImage : ByteArray := prog_6_method_12_code
def yX4_writeImage : MethodName := ⟨RX4, "writeImage", "(II)Z"⟩
abbrev cX4_write : ByteArray := prog_6_method_13_code
def yX4_write : MethodName := ⟨RX4, "write", "(IIIJ)Z"⟩
abbrev cX4_isHead : ByteArray := prog_6_method_14_code
def yX4_isHead : MethodName := ⟨RX4, "isHead", "(I)Z"⟩
abbrev cX4_generationOf : ByteArray := prog_6_method_15_code
def yX4_generationOf : MethodName := ⟨RX4, "generationOf", "(I)J"⟩
abbrev cX4_choose : ByteArray := prog_6_method_16_code
def yX4_choose : MethodName := ⟨RX4, "choose", "()Z"⟩
abbrev cX4_clear : ByteArray := prog_6_method_17_code
def yX4_clear : MethodName := ⟨RX4, "clear", "()Z"⟩
abbrev cX4_countBad : ByteArray := prog_6_method_18_code
def yX4_countBad : MethodName := ⟨RX4, "countBad", "()I"⟩
abbrev cX4_badRow : ByteArray := prog_6_method_19_code
def yX4_badRow : MethodName := ⟨RX4, "badRow", "(I)I"⟩
abbrev cX4_dropLacking : ByteArray := prog_6_method_20_code
def yX4_dropLacking : MethodName := ⟨RX4, "dropLacking", "()Z"⟩
abbrev cX4_seal : ByteArray := prog_6_method_21_code
def yX4_seal : MethodName := ⟨RX4, "seal", "()Z"⟩
abbrev cX4_drawMended : ByteArray := prog_6_method_22_code
def yX4_drawMended : MethodName := ⟨RX4, "drawMended", "(ILBlockLog$Tape;)Z"⟩
abbrev cX4_rewrite : ByteArray := prog_6_method_23_code
def yX4_rewrite : MethodName := ⟨RX4, "rewrite", "(I)Z"⟩
abbrev cX7_append : ByteArray := prog_9_method_2_code
def yX7_append : MethodName := ⟨RX7, "append", "(I)V"⟩
abbrev cX7_appendInt : ByteArray := prog_9_method_3_code
def yX7_appendInt : MethodName := ⟨RX7, "appendInt", "(I)V"⟩
abbrev cX7_appendLong : ByteArray := prog_9_method_4_code
def yX7_appendLong : MethodName := ⟨RX7, "appendLong", "(J)V"⟩
def wsX1_setLow : List Cond := .code yX1_setLow cX1_setLow 3 none :: ([.fieldLink RX1 15 "BlockLog$Disk" "low" "[B", .fieldLink RX1 19 "BlockLog$Disk" "rowStates" "[B"] ++ wsX10)
def wsX1_act : List Cond := .code yX1_act cX1_act 1 (some .boolean) :: ([.fieldLink RX1 29 "BlockLog$Disk" "powered" "Z", .fieldLink RX1 33 "BlockLog$Disk" "actsLeft" "I", .fieldLink RX1 36 "BlockLog$Disk" "actsDone" "I"] ++ wsX10)
def wsX1_writeLow : List Cond := .code yX1_writeLow cX1_writeLow 5 (some .boolean) :: ([.methodLink RX1 58 yX1_act, .instanceMethod yX1_act, .selects RX1 yX1_act yX1_act, .initialized RX1, .code yX1_act cX1_act 1 (some .boolean), .fieldLink RX1 29 "BlockLog$Disk" "powered" "Z", .fieldLink RX1 33 "BlockLog$Disk" "actsLeft" "I", .fieldLink RX1 36 "BlockLog$Disk" "actsDone" "I", .methodLink RX1 48 yX1_setLow, .instanceMethod yX1_setLow, .selects RX1 yX1_setLow yX1_setLow, .code yX1_setLow cX1_setLow 3 none, .fieldLink RX1 15 "BlockLog$Disk" "low" "[B", .fieldLink RX1 19 "BlockLog$Disk" "rowStates" "[B"] ++ wsX10)
def wsX1_sealLow : List Cond := .code yX1_sealLow cX1_sealLow 2 (some .boolean) :: ([.methodLink RX1 58 yX1_act, .instanceMethod yX1_act, .selects RX1 yX1_act yX1_act, .initialized RX1, .code yX1_act cX1_act 1 (some .boolean), .fieldLink RX1 29 "BlockLog$Disk" "powered" "Z", .fieldLink RX1 33 "BlockLog$Disk" "actsLeft" "I", .fieldLink RX1 36 "BlockLog$Disk" "actsDone" "I", .methodLink RX1 48 yX1_setLow, .instanceMethod yX1_setLow, .selects RX1 yX1_setLow yX1_setLow, .code yX1_setLow cX1_setLow 3 none, .fieldLink RX1 15 "BlockLog$Disk" "low" "[B", .fieldLink RX1 19 "BlockLog$Disk" "rowStates" "[B"] ++ wsX10)
def wsX1_eraseHead : List Cond := .code yX1_eraseHead cX1_eraseHead 3 (some .boolean) :: ([.fieldLink RX1 15 "BlockLog$Disk" "low" "[B", .methodLink RX1 58 yX1_act, .instanceMethod yX1_act, .selects RX1 yX1_act yX1_act, .initialized RX1, .code yX1_act cX1_act 1 (some .boolean), .fieldLink RX1 29 "BlockLog$Disk" "powered" "Z", .fieldLink RX1 33 "BlockLog$Disk" "actsLeft" "I", .fieldLink RX1 36 "BlockLog$Disk" "actsDone" "I"] ++ wsX10)
def wsX1_eraseRows : List Cond := .code yX1_eraseRows cX1_eraseRows 7 (some .boolean) :: ([.fieldLink RX1 15 "BlockLog$Disk" "low" "[B", .fieldLink RX1 19 "BlockLog$Disk" "rowStates" "[B", .methodLink RX1 58 yX1_act, .instanceMethod yX1_act, .selects RX1 yX1_act yX1_act, .initialized RX1, .code yX1_act cX1_act 1 (some .boolean), .fieldLink RX1 29 "BlockLog$Disk" "powered" "Z", .fieldLink RX1 33 "BlockLog$Disk" "actsLeft" "I", .fieldLink RX1 36 "BlockLog$Disk" "actsDone" "I"] ++ wsX10)
def wsX1_rowState : List Cond := .code yX1_rowState cX1_rowState 4 (some .int) :: ([.fieldLink RX1 19 "BlockLog$Disk" "rowStates" "[B", .fieldLink RX1 15 "BlockLog$Disk" "low" "[B", .methodLink RX1 62 yX0_judge, .static yX0_judge, .initialized RX0, .code yX0_judge cX0_judge 7 (some .int), .methodLink RX0 31 yX0_isZero, .static yX0_isZero, .code yX0_isZero cX0_isZero 4 (some .boolean), .methodLink RX0 35 yX0_longAt, .static yX0_longAt, .code yX0_longAt cX0_longAt 5 (some .long), .methodLink RX0 23 yX0_sum, .static yX0_sum, .code yX0_sum cX0_sum 7 (some .long), .methodLink RX0 19 yX0_start, .static yX0_start, .code yX0_start cX0_start 1 (some .long), .constantLong RX0 9 (1000003), .methodLink RX0 15 yX0_add, .static yX0_add, .code yX0_add cX0_add 5 (some .long), .constantLong RX0 13 (-4417276706812531889)] ++ wsX10)
def wsX4_place : List Cond := .code yX4_place cX4_place 2 (some .int) :: ([.fieldLink RX4 19 "BlockLog$Rows" "area" "I"] ++ wsX40)
def wsX4_b : List Cond := .code yX4_b cX4_b 2 (some .int) :: ([.fieldLink RX4 9 "BlockLog$Rows" "disk" "LBlockLog$Disk;", .methodLink RX4 47 yX4_place, .instanceMethod yX4_place, .selects RX4 yX4_place yX4_place, .initialized RX4, .code yX4_place cX4_place 2 (some .int), .fieldLink RX4 19 "BlockLog$Rows" "area" "I", .methodLink RX4 51 yX0_intAt, .static yX0_intAt, .initialized RX0, .code yX0_intAt cX0_intAt 4 (some .int)] ++ wsX40 ++ wsX10)
def wsX4_a : List Cond := .code yX4_a cX4_a 2 (some .int) :: ([.fieldLink RX4 9 "BlockLog$Rows" "disk" "LBlockLog$Disk;", .methodLink RX4 47 yX4_place, .instanceMethod yX4_place, .selects RX4 yX4_place yX4_place, .initialized RX4, .code yX4_place cX4_place 2 (some .int), .fieldLink RX4 19 "BlockLog$Rows" "area" "I", .methodLink RX4 51 yX0_intAt, .static yX0_intAt, .initialized RX0, .code yX0_intAt cX0_intAt 4 (some .int)] ++ wsX40 ++ wsX10)
def wsX4_c : List Cond := .code yX4_c cX4_c 2 (some .long) :: ([.fieldLink RX4 9 "BlockLog$Rows" "disk" "LBlockLog$Disk;", .methodLink RX4 47 yX4_place, .instanceMethod yX4_place, .selects RX4 yX4_place yX4_place, .initialized RX4, .code yX4_place cX4_place 2 (some .int), .fieldLink RX4 19 "BlockLog$Rows" "area" "I", .methodLink RX4 57 yX0_longAt, .static yX0_longAt, .initialized RX0, .code yX0_longAt cX0_longAt 5 (some .long)] ++ wsX40 ++ wsX10)
def wsX4_draw : List Cond := .code yX4_draw cX4_draw 7 none :: ([.fieldLink RX4 15 "BlockLog$Rows" "image" "[B", .methodLink RX4 65 yX0_putInt, .static yX0_putInt, .initialized RX0, .code yX0_putInt cX0_putInt 4 none, .methodLink RX4 69 yX0_putLong, .static yX0_putLong, .code yX0_putLong cX0_putLong 5 none, .methodLink RX4 73 yX0_close, .static yX0_close, .code yX0_close cX0_close 3 none, .methodLink RX0 23 yX0_sum, .static yX0_sum, .code yX0_sum cX0_sum 7 (some .long), .methodLink RX0 19 yX0_start, .static yX0_start, .code yX0_start cX0_start 1 (some .long), .constantLong RX0 9 (1000003), .methodLink RX0 15 yX0_add, .static yX0_add, .code yX0_add cX0_add 5 (some .long), .constantLong RX0 13 (-4417276706812531889), .methodLink RX0 27 yX0_putLong] ++ wsX40)
def wsX4_writeImage : List Cond := .code yX4_writeImage cX4_writeImage 3 (some .boolean) :: ([.fieldLink RX4 9 "BlockLog$Rows" "disk" "LBlockLog$Disk;", .fieldLink RX4 15 "BlockLog$Rows" "image" "[B", .methodLink RX4 80 yX1_writeLow, .instanceMethod yX1_writeLow, .selects RX1 yX1_writeLow yX1_writeLow, .initialized RX1, .code yX1_writeLow cX1_writeLow 5 (some .boolean), .methodLink RX1 58 yX1_act, .instanceMethod yX1_act, .selects RX1 yX1_act yX1_act, .code yX1_act cX1_act 1 (some .boolean), .fieldLink RX1 29 "BlockLog$Disk" "powered" "Z", .fieldLink RX1 33 "BlockLog$Disk" "actsLeft" "I", .fieldLink RX1 36 "BlockLog$Disk" "actsDone" "I", .methodLink RX1 48 yX1_setLow, .instanceMethod yX1_setLow, .selects RX1 yX1_setLow yX1_setLow, .code yX1_setLow cX1_setLow 3 none, .fieldLink RX1 15 "BlockLog$Disk" "low" "[B", .fieldLink RX1 19 "BlockLog$Disk" "rowStates" "[B"] ++ wsX40 ++ wsX10)
def wsX4_drawCopy : List Cond := .code yX4_drawCopy cX4_drawCopy 2 none :: ([.fieldLink RX4 9 "BlockLog$Rows" "disk" "LBlockLog$Disk;", .fieldLink RX4 15 "BlockLog$Rows" "image" "[B", .methodLink RX4 41 arraycopyName, .native arraycopyName, .static arraycopyName, .initialized "java/lang/System", .methodLink RX4 47 yX4_place, .instanceMethod yX4_place, .selects RX4 yX4_place yX4_place, .initialized RX4, .code yX4_place cX4_place 2 (some .int), .fieldLink RX4 19 "BlockLog$Rows" "area" "I"] ++ wsX40 ++ wsX10)
def wsX4_drawHead : List Cond := .code yX4_drawHead cX4_drawHead 2 none :: ([.fieldLink RX4 15 "BlockLog$Rows" "image" "[B", .methodLink RX4 65 yX0_putInt, .static yX0_putInt, .initialized RX0, .code yX0_putInt cX0_putInt 4 none, .methodLink RX4 76 yX0_sum, .static yX0_sum, .code yX0_sum cX0_sum 7 (some .long), .methodLink RX0 19 yX0_start, .static yX0_start, .code yX0_start cX0_start 1 (some .long), .constantLong RX0 9 (1000003), .methodLink RX0 15 yX0_add, .static yX0_add, .code yX0_add cX0_add 5 (some .long), .constantLong RX0 13 (-4417276706812531889), .methodLink RX4 69 yX0_putLong, .static yX0_putLong, .code yX0_putLong cX0_putLong 5 none] ++ wsX40)
def wsX4_kind : List Cond := .code yX4_kind cX4_kind 2 (some .int) :: ([.fieldLink RX4 9 "BlockLog$Rows" "disk" "LBlockLog$Disk;", .methodLink RX4 47 yX4_place, .instanceMethod yX4_place, .selects RX4 yX4_place yX4_place, .initialized RX4, .code yX4_place cX4_place 2 (some .int), .fieldLink RX4 19 "BlockLog$Rows" "area" "I"] ++ wsX40 ++ wsX10)
def wsX4_state_r1 : List Cond := [Cond.fieldLink RX4 9 "BlockLog$Rows" "disk" "LBlockLog$Disk;", Cond.fieldLink RX4 19 "BlockLog$Rows" "area" "I", Cond.methodLink RX4 61 yX1_rowState, Cond.instanceMethod yX1_rowState, Cond.selects RX1 yX1_rowState yX1_rowState, Cond.initialized RX1, Cond.code yX1_rowState cX1_rowState 4 (some .int), Cond.fieldLink RX1 19 "BlockLog$Disk" "rowStates" "[B", Cond.fieldLink RX1 15 "BlockLog$Disk" "low" "[B", Cond.methodLink RX1 62 yX0_judge, Cond.static yX0_judge, Cond.initialized RX0, Cond.code yX0_judge cX0_judge 7 (some .int), Cond.methodLink RX0 31 yX0_isZero, Cond.static yX0_isZero, Cond.code yX0_isZero cX0_isZero 4 (some .boolean), Cond.methodLink RX0 35 yX0_longAt, Cond.static yX0_longAt, Cond.code yX0_longAt cX0_longAt 5 (some .long), Cond.methodLink RX0 23 yX0_sum, Cond.static yX0_sum, Cond.code yX0_sum cX0_sum 7 (some .long), Cond.methodLink RX0 19 yX0_start, Cond.static yX0_start]
def wsX4_state_r2 : List Cond := [Cond.code yX0_start cX0_start 1 (some .long), Cond.constantLong RX0 9 (1000003), Cond.methodLink RX0 15 yX0_add, Cond.static yX0_add, Cond.code yX0_add cX0_add 5 (some .long), Cond.constantLong RX0 13 (-4417276706812531889)]
def wsX4_state : List Cond := .code yX4_state cX4_state 2 (some .int) :: ((wsX4_state_r1 ++ wsX4_state_r2) ++ wsX40 ++ wsX10)
def wsX4_inNeed : List Cond := .code yX4_inNeed cX4_inNeed 1 (some .boolean) :: ([.fieldLink RX4 29 "BlockLog$Rows" "bad" "I"] ++ wsX40)
def wsX4_write_r1 : List Cond := [Cond.fieldLink RX4 26 "BlockLog$Rows" "count" "I", Cond.fieldLink RX4 19 "BlockLog$Rows" "area" "I", Cond.methodLink RX4 84 yX4_draw, Cond.instanceMethod yX4_draw, Cond.selects RX4 yX4_draw yX4_draw, Cond.initialized RX4, Cond.code yX4_draw cX4_draw 7 none, Cond.fieldLink RX4 15 "BlockLog$Rows" "image" "[B", Cond.methodLink RX4 65 yX0_putInt, Cond.static yX0_putInt, Cond.initialized RX0, Cond.code yX0_putInt cX0_putInt 4 none, Cond.methodLink RX4 69 yX0_putLong, Cond.static yX0_putLong, Cond.code yX0_putLong cX0_putLong 5 none, Cond.methodLink RX4 73 yX0_close, Cond.static yX0_close, Cond.code yX0_close cX0_close 3 none, Cond.methodLink RX0 23 yX0_sum, Cond.static yX0_sum, Cond.code yX0_sum cX0_sum 7 (some .long), Cond.methodLink RX0 19 yX0_start, Cond.static yX0_start, Cond.code yX0_start cX0_start 1 (some .long)]
def wsX4_write_r2 : List Cond := [Cond.constantLong RX0 9 (1000003), Cond.methodLink RX0 15 yX0_add, Cond.static yX0_add, Cond.code yX0_add cX0_add 5 (some .long), Cond.constantLong RX0 13 (-4417276706812531889), Cond.methodLink RX0 27 yX0_putLong, Cond.methodLink RX4 88 yX4_writeImage, Cond.instanceMethod yX4_writeImage, Cond.selects RX4 yX4_writeImage yX4_writeImage, Cond.code yX4_writeImage cX4_writeImage 3 (some .boolean), Cond.fieldLink RX4 9 "BlockLog$Rows" "disk" "LBlockLog$Disk;", Cond.methodLink RX4 80 yX1_writeLow, Cond.instanceMethod yX1_writeLow, Cond.selects RX1 yX1_writeLow yX1_writeLow, Cond.initialized RX1, Cond.code yX1_writeLow cX1_writeLow 5 (some .boolean), Cond.methodLink RX1 58 yX1_act, Cond.instanceMethod yX1_act, Cond.selects RX1 yX1_act yX1_act, Cond.code yX1_act cX1_act 1 (some .boolean), Cond.fieldLink RX1 29 "BlockLog$Disk" "powered" "Z", Cond.fieldLink RX1 33 "BlockLog$Disk" "actsLeft" "I", Cond.fieldLink RX1 36 "BlockLog$Disk" "actsDone" "I", Cond.methodLink RX1 48 yX1_setLow]
def wsX4_write_r3 : List Cond := [Cond.instanceMethod yX1_setLow, Cond.selects RX1 yX1_setLow yX1_setLow, Cond.code yX1_setLow cX1_setLow 3 none, Cond.fieldLink RX1 15 "BlockLog$Disk" "low" "[B", Cond.fieldLink RX1 19 "BlockLog$Disk" "rowStates" "[B"]
def wsX4_write : List Cond := .code yX4_write cX4_write 6 (some .boolean) :: ((wsX4_write_r1 ++ (wsX4_write_r2 ++ wsX4_write_r3)) ++ wsX40 ++ wsX10)
def wsX4_isHead : List Cond := .code yX4_isHead cX4_isHead 5 (some .boolean) :: ([.fieldLink RX4 9 "BlockLog$Rows" "disk" "LBlockLog$Disk;", .methodLink RX4 57 yX0_longAt, .static yX0_longAt, .initialized RX0, .code yX0_longAt cX0_longAt 5 (some .long), .methodLink RX4 51 yX0_intAt, .static yX0_intAt, .code yX0_intAt cX0_intAt 4 (some .int), .methodLink RX4 76 yX0_sum, .static yX0_sum, .code yX0_sum cX0_sum 7 (some .long), .methodLink RX0 19 yX0_start, .static yX0_start, .code yX0_start cX0_start 1 (some .long), .constantLong RX0 9 (1000003), .methodLink RX0 15 yX0_add, .static yX0_add, .code yX0_add cX0_add 5 (some .long), .constantLong RX0 13 (-4417276706812531889)] ++ wsX40 ++ wsX10)
def wsX4_generationOf : List Cond := .code yX4_generationOf cX4_generationOf 2 (some .long) :: ([.fieldLink RX4 9 "BlockLog$Rows" "disk" "LBlockLog$Disk;", .constantLong RX4 92 (4294967295), .methodLink RX4 51 yX0_intAt, .static yX0_intAt, .initialized RX0, .code yX0_intAt cX0_intAt 4 (some .int)] ++ wsX40 ++ wsX10)
def wsX4_choose_r1 : List Cond := [Cond.fieldLink RX4 19 "BlockLog$Rows" "area" "I", Cond.fieldLink RX4 23 "BlockLog$Rows" "generation" "I", Cond.methodLink RX4 94 yX4_isHead, Cond.instanceMethod yX4_isHead, Cond.selects RX4 yX4_isHead yX4_isHead, Cond.initialized RX4, Cond.code yX4_isHead cX4_isHead 5 (some .boolean), Cond.fieldLink RX4 9 "BlockLog$Rows" "disk" "LBlockLog$Disk;", Cond.methodLink RX4 57 yX0_longAt, Cond.static yX0_longAt, Cond.initialized RX0, Cond.code yX0_longAt cX0_longAt 5 (some .long), Cond.methodLink RX4 51 yX0_intAt, Cond.static yX0_intAt, Cond.code yX0_intAt cX0_intAt 4 (some .int), Cond.methodLink RX4 76 yX0_sum, Cond.static yX0_sum, Cond.code yX0_sum cX0_sum 7 (some .long), Cond.methodLink RX0 19 yX0_start, Cond.static yX0_start, Cond.code yX0_start cX0_start 1 (some .long), Cond.constantLong RX0 9 (1000003), Cond.methodLink RX0 15 yX0_add, Cond.static yX0_add]
def wsX4_choose_r2 : List Cond := [Cond.code yX0_add cX0_add 5 (some .long), Cond.constantLong RX0 13 (-4417276706812531889), Cond.methodLink RX4 98 yX4_generationOf, Cond.instanceMethod yX4_generationOf, Cond.selects RX4 yX4_generationOf yX4_generationOf, Cond.code yX4_generationOf cX4_generationOf 2 (some .long), Cond.constantLong RX4 92 (4294967295)]
def wsX4_choose : List Cond := .code yX4_choose cX4_choose 3 (some .boolean) :: ((wsX4_choose_r1 ++ wsX4_choose_r2) ++ wsX40 ++ wsX10)
def wsX4_clear_r1 : List Cond := [Cond.fieldLink RX4 19 "BlockLog$Rows" "area" "I", Cond.fieldLink RX4 9 "BlockLog$Rows" "disk" "LBlockLog$Disk;", Cond.fieldLink RX4 29 "BlockLog$Rows" "bad" "I", Cond.fieldLink RX4 26 "BlockLog$Rows" "count" "I", Cond.methodLink RX4 102 yX0_isZero, Cond.static yX0_isZero, Cond.initialized RX0, Cond.code yX0_isZero cX0_isZero 4 (some .boolean), Cond.methodLink RX4 106 yX1_eraseHead, Cond.instanceMethod yX1_eraseHead, Cond.selects RX1 yX1_eraseHead yX1_eraseHead, Cond.initialized RX1, Cond.code yX1_eraseHead cX1_eraseHead 3 (some .boolean), Cond.fieldLink RX1 15 "BlockLog$Disk" "low" "[B", Cond.methodLink RX1 58 yX1_act, Cond.instanceMethod yX1_act, Cond.selects RX1 yX1_act yX1_act, Cond.code yX1_act cX1_act 1 (some .boolean), Cond.fieldLink RX1 29 "BlockLog$Disk" "powered" "Z", Cond.fieldLink RX1 33 "BlockLog$Disk" "actsLeft" "I", Cond.fieldLink RX1 36 "BlockLog$Disk" "actsDone" "I", Cond.methodLink RX4 109 yX4_state, Cond.instanceMethod yX4_state, Cond.selects RX4 yX4_state yX4_state]
def wsX4_clear_r2 : List Cond := [Cond.initialized RX4, Cond.code yX4_state cX4_state 2 (some .int), Cond.methodLink RX4 61 yX1_rowState, Cond.instanceMethod yX1_rowState, Cond.selects RX1 yX1_rowState yX1_rowState, Cond.code yX1_rowState cX1_rowState 4 (some .int), Cond.fieldLink RX1 19 "BlockLog$Disk" "rowStates" "[B", Cond.methodLink RX1 62 yX0_judge, Cond.static yX0_judge, Cond.code yX0_judge cX0_judge 7 (some .int), Cond.methodLink RX0 31 yX0_isZero, Cond.methodLink RX0 35 yX0_longAt, Cond.static yX0_longAt, Cond.code yX0_longAt cX0_longAt 5 (some .long), Cond.methodLink RX0 23 yX0_sum, Cond.static yX0_sum, Cond.code yX0_sum cX0_sum 7 (some .long), Cond.methodLink RX0 19 yX0_start, Cond.static yX0_start, Cond.code yX0_start cX0_start 1 (some .long), Cond.constantLong RX0 9 (1000003), Cond.methodLink RX0 15 yX0_add, Cond.static yX0_add, Cond.code yX0_add cX0_add 5 (some .long)]
def wsX4_clear_r3 : List Cond := [Cond.constantLong RX0 13 (-4417276706812531889), Cond.methodLink RX4 112 yX1_eraseRows, Cond.instanceMethod yX1_eraseRows, Cond.selects RX1 yX1_eraseRows yX1_eraseRows, Cond.code yX1_eraseRows cX1_eraseRows 7 (some .boolean)]
def wsX4_clear : List Cond := .code yX4_clear cX4_clear 3 (some .boolean) :: ((wsX4_clear_r1 ++ (wsX4_clear_r2 ++ wsX4_clear_r3)) ++ wsX40 ++ wsX10)
def wsX4_countBad_r1 : List Cond := [Cond.fieldLink RX4 26 "BlockLog$Rows" "count" "I", Cond.methodLink RX4 109 yX4_state, Cond.instanceMethod yX4_state, Cond.selects RX4 yX4_state yX4_state, Cond.initialized RX4, Cond.code yX4_state cX4_state 2 (some .int), Cond.fieldLink RX4 9 "BlockLog$Rows" "disk" "LBlockLog$Disk;", Cond.fieldLink RX4 19 "BlockLog$Rows" "area" "I", Cond.methodLink RX4 61 yX1_rowState, Cond.instanceMethod yX1_rowState, Cond.selects RX1 yX1_rowState yX1_rowState, Cond.initialized RX1, Cond.code yX1_rowState cX1_rowState 4 (some .int), Cond.fieldLink RX1 19 "BlockLog$Disk" "rowStates" "[B", Cond.fieldLink RX1 15 "BlockLog$Disk" "low" "[B", Cond.methodLink RX1 62 yX0_judge, Cond.static yX0_judge, Cond.initialized RX0, Cond.code yX0_judge cX0_judge 7 (some .int), Cond.methodLink RX0 31 yX0_isZero, Cond.static yX0_isZero, Cond.code yX0_isZero cX0_isZero 4 (some .boolean), Cond.methodLink RX0 35 yX0_longAt, Cond.static yX0_longAt]
def wsX4_countBad_r2 : List Cond := [Cond.code yX0_longAt cX0_longAt 5 (some .long), Cond.methodLink RX0 23 yX0_sum, Cond.static yX0_sum, Cond.code yX0_sum cX0_sum 7 (some .long), Cond.methodLink RX0 19 yX0_start, Cond.static yX0_start, Cond.code yX0_start cX0_start 1 (some .long), Cond.constantLong RX0 9 (1000003), Cond.methodLink RX0 15 yX0_add, Cond.static yX0_add, Cond.code yX0_add cX0_add 5 (some .long), Cond.constantLong RX0 13 (-4417276706812531889)]
def wsX4_countBad : List Cond := .code yX4_countBad cX4_countBad 3 (some .int) :: ((wsX4_countBad_r1 ++ wsX4_countBad_r2) ++ wsX40 ++ wsX10)
def wsX4_badRow_r1 : List Cond := [Cond.fieldLink RX4 26 "BlockLog$Rows" "count" "I", Cond.methodLink RX4 109 yX4_state, Cond.instanceMethod yX4_state, Cond.selects RX4 yX4_state yX4_state, Cond.initialized RX4, Cond.code yX4_state cX4_state 2 (some .int), Cond.fieldLink RX4 9 "BlockLog$Rows" "disk" "LBlockLog$Disk;", Cond.fieldLink RX4 19 "BlockLog$Rows" "area" "I", Cond.methodLink RX4 61 yX1_rowState, Cond.instanceMethod yX1_rowState, Cond.selects RX1 yX1_rowState yX1_rowState, Cond.initialized RX1, Cond.code yX1_rowState cX1_rowState 4 (some .int), Cond.fieldLink RX1 19 "BlockLog$Disk" "rowStates" "[B", Cond.fieldLink RX1 15 "BlockLog$Disk" "low" "[B", Cond.methodLink RX1 62 yX0_judge, Cond.static yX0_judge, Cond.initialized RX0, Cond.code yX0_judge cX0_judge 7 (some .int), Cond.methodLink RX0 31 yX0_isZero, Cond.static yX0_isZero, Cond.code yX0_isZero cX0_isZero 4 (some .boolean), Cond.methodLink RX0 35 yX0_longAt, Cond.static yX0_longAt]
def wsX4_badRow_r2 : List Cond := [Cond.code yX0_longAt cX0_longAt 5 (some .long), Cond.methodLink RX0 23 yX0_sum, Cond.static yX0_sum, Cond.code yX0_sum cX0_sum 7 (some .long), Cond.methodLink RX0 19 yX0_start, Cond.static yX0_start, Cond.code yX0_start cX0_start 1 (some .long), Cond.constantLong RX0 9 (1000003), Cond.methodLink RX0 15 yX0_add, Cond.static yX0_add, Cond.code yX0_add cX0_add 5 (some .long), Cond.constantLong RX0 13 (-4417276706812531889)]
def wsX4_badRow : List Cond := .code yX4_badRow cX4_badRow 4 (some .int) :: ((wsX4_badRow_r1 ++ wsX4_badRow_r2) ++ wsX40 ++ wsX10)
def wsX4_dropLacking_r1 : List Cond := [Cond.fieldLink RX4 26 "BlockLog$Rows" "count" "I", Cond.fieldLink RX4 9 "BlockLog$Rows" "disk" "LBlockLog$Disk;", Cond.fieldLink RX4 19 "BlockLog$Rows" "area" "I", Cond.methodLink RX4 116 yX4_kind, Cond.instanceMethod yX4_kind, Cond.selects RX4 yX4_kind yX4_kind, Cond.initialized RX4, Cond.code yX4_kind cX4_kind 2 (some .int), Cond.methodLink RX4 47 yX4_place, Cond.instanceMethod yX4_place, Cond.selects RX4 yX4_place yX4_place, Cond.code yX4_place cX4_place 2 (some .int), Cond.methodLink RX4 119 yX4_b, Cond.instanceMethod yX4_b, Cond.selects RX4 yX4_b yX4_b, Cond.code yX4_b cX4_b 2 (some .int), Cond.methodLink RX4 51 yX0_intAt, Cond.static yX0_intAt, Cond.initialized RX0, Cond.code yX0_intAt cX0_intAt 4 (some .int), Cond.methodLink RX4 112 yX1_eraseRows, Cond.instanceMethod yX1_eraseRows, Cond.selects RX1 yX1_eraseRows yX1_eraseRows, Cond.initialized RX1]
def wsX4_dropLacking_r2 : List Cond := [Cond.code yX1_eraseRows cX1_eraseRows 7 (some .boolean), Cond.fieldLink RX1 15 "BlockLog$Disk" "low" "[B", Cond.fieldLink RX1 19 "BlockLog$Disk" "rowStates" "[B", Cond.methodLink RX1 58 yX1_act, Cond.instanceMethod yX1_act, Cond.selects RX1 yX1_act yX1_act, Cond.code yX1_act cX1_act 1 (some .boolean), Cond.fieldLink RX1 29 "BlockLog$Disk" "powered" "Z", Cond.fieldLink RX1 33 "BlockLog$Disk" "actsLeft" "I", Cond.fieldLink RX1 36 "BlockLog$Disk" "actsDone" "I"]
def wsX4_dropLacking : List Cond := .code yX4_dropLacking cX4_dropLacking 4 (some .boolean) :: ((wsX4_dropLacking_r1 ++ wsX4_dropLacking_r2) ++ wsX40 ++ wsX10)
def wsX4_seal_r1 : List Cond := [Cond.fieldLink RX4 26 "BlockLog$Rows" "count" "I", Cond.fieldLink RX4 9 "BlockLog$Rows" "disk" "LBlockLog$Disk;", Cond.methodLink RX4 47 yX4_place, Cond.instanceMethod yX4_place, Cond.selects RX4 yX4_place yX4_place, Cond.initialized RX4, Cond.code yX4_place cX4_place 2 (some .int), Cond.fieldLink RX4 19 "BlockLog$Rows" "area" "I", Cond.methodLink RX4 109 yX4_state, Cond.instanceMethod yX4_state, Cond.selects RX4 yX4_state yX4_state, Cond.code yX4_state cX4_state 2 (some .int), Cond.methodLink RX4 61 yX1_rowState, Cond.instanceMethod yX1_rowState, Cond.selects RX1 yX1_rowState yX1_rowState, Cond.initialized RX1, Cond.code yX1_rowState cX1_rowState 4 (some .int), Cond.fieldLink RX1 19 "BlockLog$Disk" "rowStates" "[B", Cond.fieldLink RX1 15 "BlockLog$Disk" "low" "[B", Cond.methodLink RX1 62 yX0_judge, Cond.static yX0_judge, Cond.initialized RX0, Cond.code yX0_judge cX0_judge 7 (some .int), Cond.methodLink RX0 31 yX0_isZero]
def wsX4_seal_r2 : List Cond := [Cond.static yX0_isZero, Cond.code yX0_isZero cX0_isZero 4 (some .boolean), Cond.methodLink RX0 35 yX0_longAt, Cond.static yX0_longAt, Cond.code yX0_longAt cX0_longAt 5 (some .long), Cond.methodLink RX0 23 yX0_sum, Cond.static yX0_sum, Cond.code yX0_sum cX0_sum 7 (some .long), Cond.methodLink RX0 19 yX0_start, Cond.static yX0_start, Cond.code yX0_start cX0_start 1 (some .long), Cond.constantLong RX0 9 (1000003), Cond.methodLink RX0 15 yX0_add, Cond.static yX0_add, Cond.code yX0_add cX0_add 5 (some .long), Cond.constantLong RX0 13 (-4417276706812531889), Cond.methodLink RX4 122 yX1_sealLow, Cond.instanceMethod yX1_sealLow, Cond.selects RX1 yX1_sealLow yX1_sealLow, Cond.code yX1_sealLow cX1_sealLow 2 (some .boolean), Cond.methodLink RX1 58 yX1_act, Cond.instanceMethod yX1_act, Cond.selects RX1 yX1_act yX1_act, Cond.code yX1_act cX1_act 1 (some .boolean)]
def wsX4_seal_r3 : List Cond := [Cond.fieldLink RX1 29 "BlockLog$Disk" "powered" "Z", Cond.fieldLink RX1 33 "BlockLog$Disk" "actsLeft" "I", Cond.fieldLink RX1 36 "BlockLog$Disk" "actsDone" "I", Cond.methodLink RX1 48 yX1_setLow, Cond.instanceMethod yX1_setLow, Cond.selects RX1 yX1_setLow yX1_setLow, Cond.code yX1_setLow cX1_setLow 3 none]
def wsX4_seal : List Cond := .code yX4_seal cX4_seal 4 (some .boolean) :: ((wsX4_seal_r1 ++ (wsX4_seal_r2 ++ wsX4_seal_r3)) ++ wsX40 ++ wsX10)
def wsX4_drawMended_r1 : List Cond := [Cond.fieldLink RX4 15 "BlockLog$Rows" "image" "[B", Cond.methodLink RX4 41 arraycopyName, Cond.native arraycopyName, Cond.static arraycopyName, Cond.initialized "java/lang/System", Cond.fieldLink RX4 9 "BlockLog$Rows" "disk" "LBlockLog$Disk;", Cond.methodLink RX4 73 yX0_close, Cond.static yX0_close, Cond.initialized RX0, Cond.code yX0_close cX0_close 3 none, Cond.methodLink RX0 23 yX0_sum, Cond.static yX0_sum, Cond.code yX0_sum cX0_sum 7 (some .long), Cond.methodLink RX0 19 yX0_start, Cond.static yX0_start, Cond.code yX0_start cX0_start 1 (some .long), Cond.constantLong RX0 9 (1000003), Cond.methodLink RX0 15 yX0_add, Cond.static yX0_add, Cond.code yX0_add cX0_add 5 (some .long), Cond.constantLong RX0 13 (-4417276706812531889), Cond.methodLink RX0 27 yX0_putLong, Cond.static yX0_putLong, Cond.code yX0_putLong cX0_putLong 5 none]
def wsX4_drawMended_r2 : List Cond := [Cond.methodLink RX4 47 yX4_place, Cond.instanceMethod yX4_place, Cond.selects RX4 yX4_place yX4_place, Cond.initialized RX4, Cond.code yX4_place cX4_place 2 (some .int), Cond.fieldLink RX4 19 "BlockLog$Rows" "area" "I", Cond.methodLink RX4 131 yX0_mends, Cond.static yX0_mends, Cond.code yX0_mends cX0_mends 6 (some .boolean), Cond.methodLink RX0 39 yX0_isSame, Cond.static yX0_isSame, Cond.code yX0_isSame cX0_isSame 5 (some .boolean)]
def wsX4_drawMended : List Cond := .code yX4_drawMended cX4_drawMended 3 (some .boolean) :: ((wsX4_drawMended_r1 ++ wsX4_drawMended_r2) ++ wsX70 ++ wsX40 ++ wsX10)
def wsX4_rewrite_r1 : List Cond := [Cond.fieldLink RX4 19 "BlockLog$Rows" "area" "I", Cond.fieldLink RX4 29 "BlockLog$Rows" "bad" "I", Cond.methodLink RX4 88 yX4_writeImage, Cond.instanceMethod yX4_writeImage, Cond.selects RX4 yX4_writeImage yX4_writeImage, Cond.initialized RX4, Cond.code yX4_writeImage cX4_writeImage 3 (some .boolean), Cond.fieldLink RX4 9 "BlockLog$Rows" "disk" "LBlockLog$Disk;", Cond.fieldLink RX4 15 "BlockLog$Rows" "image" "[B", Cond.methodLink RX4 80 yX1_writeLow, Cond.instanceMethod yX1_writeLow, Cond.selects RX1 yX1_writeLow yX1_writeLow, Cond.initialized RX1, Cond.code yX1_writeLow cX1_writeLow 5 (some .boolean), Cond.methodLink RX1 58 yX1_act, Cond.instanceMethod yX1_act, Cond.selects RX1 yX1_act yX1_act, Cond.code yX1_act cX1_act 1 (some .boolean), Cond.fieldLink RX1 29 "BlockLog$Disk" "powered" "Z", Cond.fieldLink RX1 33 "BlockLog$Disk" "actsLeft" "I", Cond.fieldLink RX1 36 "BlockLog$Disk" "actsDone" "I", Cond.methodLink RX1 48 yX1_setLow, Cond.instanceMethod yX1_setLow, Cond.selects RX1 yX1_setLow yX1_setLow]
def wsX4_rewrite_r2 : List Cond := [Cond.code yX1_setLow cX1_setLow 3 none, Cond.fieldLink RX1 15 "BlockLog$Disk" "low" "[B", Cond.fieldLink RX1 19 "BlockLog$Disk" "rowStates" "[B", Cond.methodLink RX4 135 yX4_countBad, Cond.instanceMethod yX4_countBad, Cond.selects RX4 yX4_countBad yX4_countBad, Cond.code yX4_countBad cX4_countBad 3 (some .int), Cond.fieldLink RX4 26 "BlockLog$Rows" "count" "I", Cond.methodLink RX4 109 yX4_state, Cond.instanceMethod yX4_state, Cond.selects RX4 yX4_state yX4_state, Cond.code yX4_state cX4_state 2 (some .int), Cond.methodLink RX4 61 yX1_rowState, Cond.instanceMethod yX1_rowState, Cond.selects RX1 yX1_rowState yX1_rowState, Cond.code yX1_rowState cX1_rowState 4 (some .int), Cond.methodLink RX1 62 yX0_judge, Cond.static yX0_judge, Cond.initialized RX0, Cond.code yX0_judge cX0_judge 7 (some .int), Cond.methodLink RX0 31 yX0_isZero, Cond.static yX0_isZero, Cond.code yX0_isZero cX0_isZero 4 (some .boolean), Cond.methodLink RX0 35 yX0_longAt]
def wsX4_rewrite_r3 : List Cond := [Cond.static yX0_longAt, Cond.code yX0_longAt cX0_longAt 5 (some .long), Cond.methodLink RX0 23 yX0_sum, Cond.static yX0_sum, Cond.code yX0_sum cX0_sum 7 (some .long), Cond.methodLink RX0 19 yX0_start, Cond.static yX0_start, Cond.code yX0_start cX0_start 1 (some .long), Cond.constantLong RX0 9 (1000003), Cond.methodLink RX0 15 yX0_add, Cond.static yX0_add, Cond.code yX0_add cX0_add 5 (some .long), Cond.constantLong RX0 13 (-4417276706812531889), Cond.methodLink RX4 139 yX4_inNeed, Cond.instanceMethod yX4_inNeed, Cond.selects RX4 yX4_inNeed yX4_inNeed, Cond.code yX4_inNeed cX4_inNeed 1 (some .boolean), Cond.methodLink RX4 143 yX4_dropLacking, Cond.instanceMethod yX4_dropLacking, Cond.selects RX4 yX4_dropLacking yX4_dropLacking, Cond.code yX4_dropLacking cX4_dropLacking 4 (some .boolean), Cond.methodLink RX4 116 yX4_kind, Cond.instanceMethod yX4_kind, Cond.selects RX4 yX4_kind yX4_kind]
def wsX4_rewrite_r4 : List Cond := [Cond.code yX4_kind cX4_kind 2 (some .int), Cond.methodLink RX4 47 yX4_place, Cond.instanceMethod yX4_place, Cond.selects RX4 yX4_place yX4_place, Cond.code yX4_place cX4_place 2 (some .int), Cond.methodLink RX4 119 yX4_b, Cond.instanceMethod yX4_b, Cond.selects RX4 yX4_b yX4_b, Cond.code yX4_b cX4_b 2 (some .int), Cond.methodLink RX4 51 yX0_intAt, Cond.static yX0_intAt, Cond.code yX0_intAt cX0_intAt 4 (some .int), Cond.methodLink RX4 112 yX1_eraseRows, Cond.instanceMethod yX1_eraseRows, Cond.selects RX1 yX1_eraseRows yX1_eraseRows, Cond.code yX1_eraseRows cX1_eraseRows 7 (some .boolean)]
def wsX4_rewrite : List Cond := .code yX4_rewrite cX4_rewrite 2 (some .boolean) :: ((wsX4_rewrite_r1 ++ (wsX4_rewrite_r2 ++ (wsX4_rewrite_r3 ++ wsX4_rewrite_r4))) ++ wsX40 ++ wsX10)
def wsX7_append : List Cond := .code yX7_append cX7_append 2 none :: ([.fieldLink RX7 15 "BlockLog$Tape" "count" "I", .fieldLink RX7 9 "BlockLog$Tape" "bytes" "[B"] ++ wsX70)
def wsX7_appendInt : List Cond := .code yX7_appendInt cX7_appendInt 3 none :: ([.methodLink RX7 19 yX7_append, .instanceMethod yX7_append, .selects RX7 yX7_append yX7_append, .initialized RX7, .code yX7_append cX7_append 2 none, .fieldLink RX7 15 "BlockLog$Tape" "count" "I", .fieldLink RX7 9 "BlockLog$Tape" "bytes" "[B"] ++ wsX70)
def wsX7_appendLong : List Cond := .code yX7_appendLong cX7_appendLong 3 none :: ([.methodLink RX7 23 yX7_appendInt, .instanceMethod yX7_appendInt, .selects RX7 yX7_appendInt yX7_appendInt, .initialized RX7, .code yX7_appendInt cX7_appendInt 3 none, .methodLink RX7 19 yX7_append, .instanceMethod yX7_append, .selects RX7 yX7_append yX7_append, .code yX7_append cX7_append 2 none, .fieldLink RX7 15 "BlockLog$Tape" "count" "I", .fieldLink RX7 9 "BlockLog$Tape" "bytes" "[B"] ++ wsX70)
set_option maxRecDepth 20000 in
theorem ggX1_writeLow_X1_act : GoodIn wsX1_writeLow wsX1_act := goodIn_r _ [5, 6, 7, 8, 15, 16, 17, 18, 19, 20, 21] (by decide +kernel) (by decide +kernel)
set_option maxRecDepth 20000 in
theorem gX1_writeLow_X1_act : GoodIn wsX1_writeLow (wsV RX1 58 RX1 yX1_act wsX1_act) := goodIn_app (goodIn_of _ (by decide +kernel)) ggX1_writeLow_X1_act
set_option maxRecDepth 20000 in
theorem ggX1_writeLow_X1_setLow : GoodIn wsX1_writeLow wsX1_setLow := goodIn_r _ [12, 13, 14, 15, 16, 17, 18, 19, 20, 21] (by decide +kernel) (by decide +kernel)
set_option maxRecDepth 20000 in
theorem gX1_writeLow_X1_setLow : GoodIn wsX1_writeLow (wsV RX1 48 RX1 yX1_setLow wsX1_setLow) := goodIn_app (goodIn_of _ (by decide +kernel)) ggX1_writeLow_X1_setLow
set_option maxRecDepth 20000 in
theorem ggX1_sealLow_X1_act : GoodIn wsX1_sealLow wsX1_act := goodIn_r _ [5, 6, 7, 8, 15, 16, 17, 18, 19, 20, 21] (by decide +kernel) (by decide +kernel)
set_option maxRecDepth 20000 in
theorem gX1_sealLow_X1_act : GoodIn wsX1_sealLow (wsV RX1 58 RX1 yX1_act wsX1_act) := goodIn_app (goodIn_of _ (by decide +kernel)) ggX1_sealLow_X1_act
set_option maxRecDepth 20000 in
theorem ggX1_sealLow_X1_setLow : GoodIn wsX1_sealLow wsX1_setLow := goodIn_r _ [12, 13, 14, 15, 16, 17, 18, 19, 20, 21] (by decide +kernel) (by decide +kernel)
set_option maxRecDepth 20000 in
theorem gX1_sealLow_X1_setLow : GoodIn wsX1_sealLow (wsV RX1 48 RX1 yX1_setLow wsX1_setLow) := goodIn_app (goodIn_of _ (by decide +kernel)) ggX1_sealLow_X1_setLow
set_option maxRecDepth 20000 in
theorem ggX1_eraseHead_X1_act : GoodIn wsX1_eraseHead wsX1_act := goodIn_r _ [6, 7, 8, 9, 10, 11, 12, 13, 14, 15, 16] (by decide +kernel) (by decide +kernel)
set_option maxRecDepth 20000 in
theorem gX1_eraseHead_X1_act : GoodIn wsX1_eraseHead (wsV RX1 58 RX1 yX1_act wsX1_act) := goodIn_app (goodIn_of _ (by decide +kernel)) ggX1_eraseHead_X1_act
set_option maxRecDepth 20000 in
theorem ggX1_eraseRows_X1_act : GoodIn wsX1_eraseRows wsX1_act := goodIn_r _ [7, 8, 9, 10, 11, 12, 13, 14, 15, 16, 17] (by decide +kernel) (by decide +kernel)
set_option maxRecDepth 20000 in
theorem gX1_eraseRows_X1_act : GoodIn wsX1_eraseRows (wsV RX1 58 RX1 yX1_act wsX1_act) := goodIn_app (goodIn_of _ (by decide +kernel)) ggX1_eraseRows_X1_act
set_option maxRecDepth 20000 in
theorem ggX1_rowState_X0_judge : GoodIn wsX1_rowState wsX0_judge := goodIn_r _ [6, 7, 8, 5, 9, 10, 11, 12, 13, 14, 15, 16, 17, 18, 19, 20, 21, 22, 23] (by decide +kernel) (by decide +kernel)
set_option maxRecDepth 20000 in
theorem gX1_rowState_X0_judge : GoodIn wsX1_rowState (va_wsS RX1 62 yX0_judge wsX0_judge) := goodIn_app (goodIn_of _ (by decide +kernel)) ggX1_rowState_X0_judge
set_option maxRecDepth 20000 in
theorem ggX4_kind_X4_place : GoodIn wsX4_kind wsX4_place := goodIn_r _ [6, 7, 8, 9, 10, 11, 12, 13] (by decide +kernel) (by decide +kernel)
set_option maxRecDepth 20000 in
theorem gX4_kind_X4_place : GoodIn wsX4_kind (wsV RX4 47 RX4 yX4_place wsX4_place) := goodIn_app (goodIn_of _ (by decide +kernel)) ggX4_kind_X4_place
set_option maxRecDepth 20000 in
theorem ggX4_a_X4_place : GoodIn wsX4_a wsX4_place := goodIn_r _ [6, 7, 12, 13, 14, 15, 16, 17] (by decide +kernel) (by decide +kernel)
set_option maxRecDepth 20000 in
theorem gX4_a_X4_place : GoodIn wsX4_a (wsV RX4 47 RX4 yX4_place wsX4_place) := goodIn_app (goodIn_of _ (by decide +kernel)) ggX4_a_X4_place
set_option maxRecDepth 20000 in
theorem ggX4_a_X0_intAt : GoodIn wsX4_a wsX0_intAt := goodIn_r _ [11] (by decide +kernel) (by decide +kernel)
set_option maxRecDepth 20000 in
theorem gX4_a_X0_intAt : GoodIn wsX4_a (va_wsS RX4 51 yX0_intAt wsX0_intAt) := goodIn_app (goodIn_of _ (by decide +kernel)) ggX4_a_X0_intAt
set_option maxRecDepth 20000 in
theorem ggX4_b_X4_place : GoodIn wsX4_b wsX4_place := goodIn_r _ [6, 7, 12, 13, 14, 15, 16, 17] (by decide +kernel) (by decide +kernel)
set_option maxRecDepth 20000 in
theorem gX4_b_X4_place : GoodIn wsX4_b (wsV RX4 47 RX4 yX4_place wsX4_place) := goodIn_app (goodIn_of _ (by decide +kernel)) ggX4_b_X4_place
set_option maxRecDepth 20000 in
theorem ggX4_b_X0_intAt : GoodIn wsX4_b wsX0_intAt := goodIn_r _ [11] (by decide +kernel) (by decide +kernel)
set_option maxRecDepth 20000 in
theorem gX4_b_X0_intAt : GoodIn wsX4_b (va_wsS RX4 51 yX0_intAt wsX0_intAt) := goodIn_app (goodIn_of _ (by decide +kernel)) ggX4_b_X0_intAt
set_option maxRecDepth 20000 in
theorem ggX4_c_X4_place : GoodIn wsX4_c wsX4_place := goodIn_r _ [6, 7, 12, 13, 14, 15, 16, 17] (by decide +kernel) (by decide +kernel)
set_option maxRecDepth 20000 in
theorem gX4_c_X4_place : GoodIn wsX4_c (wsV RX4 47 RX4 yX4_place wsX4_place) := goodIn_app (goodIn_of _ (by decide +kernel)) ggX4_c_X4_place
set_option maxRecDepth 20000 in
theorem ggX4_c_X0_longAt : GoodIn wsX4_c wsX0_longAt := goodIn_r _ [11] (by decide +kernel) (by decide +kernel)
set_option maxRecDepth 20000 in
theorem gX4_c_X0_longAt : GoodIn wsX4_c (va_wsS RX4 57 yX0_longAt wsX0_longAt) := goodIn_app (goodIn_of _ (by decide +kernel)) ggX4_c_X0_longAt
set_option maxRecDepth 20000 in
theorem ggX4_state_X1_rowState : GoodIn wsX4_state wsX1_rowState := goodIn_r _ [7, 8, 9, 10, 11, 12, 13, 14, 15, 16, 17, 18, 19, 20, 21, 22, 23, 24, 25, 26, 27, 28, 29, 30, 37, 38, 39, 40, 41, 42, 43] (by decide +kernel) (by decide +kernel)
set_option maxRecDepth 20000 in
theorem gX4_state_X1_rowState : GoodIn wsX4_state (wsV RX4 61 RX1 yX1_rowState wsX1_rowState) := goodIn_app (goodIn_of _ (by decide +kernel)) ggX4_state_X1_rowState
set_option maxRecDepth 20000 in
theorem ggX4_draw_X0_putInt : GoodIn wsX4_draw wsX0_putInt := goodIn_r _ [5] (by decide +kernel) (by decide +kernel)
set_option maxRecDepth 20000 in
theorem gX4_draw_X0_putInt : GoodIn wsX4_draw (va_wsS RX4 65 yX0_putInt wsX0_putInt) := goodIn_app (goodIn_of _ (by decide +kernel)) ggX4_draw_X0_putInt
set_option maxRecDepth 20000 in
theorem ggX4_draw_X0_putLong : GoodIn wsX4_draw wsX0_putLong := goodIn_r _ [8] (by decide +kernel) (by decide +kernel)
set_option maxRecDepth 20000 in
theorem gX4_draw_X0_putLong : GoodIn wsX4_draw (va_wsS RX4 69 yX0_putLong wsX0_putLong) := goodIn_app (goodIn_of _ (by decide +kernel)) ggX4_draw_X0_putLong
set_option maxRecDepth 20000 in
theorem ggX4_draw_X0_close : GoodIn wsX4_draw wsX0_close := goodIn_r _ [11, 12, 13, 4, 14, 15, 16, 17, 18, 19, 20, 21, 22, 23, 7, 8] (by decide +kernel) (by decide +kernel)
set_option maxRecDepth 20000 in
theorem gX4_draw_X0_close : GoodIn wsX4_draw (va_wsS RX4 73 yX0_close wsX0_close) := goodIn_app (goodIn_of _ (by decide +kernel)) ggX4_draw_X0_close
set_option maxRecDepth 20000 in
theorem ggX4_drawHead_X0_putInt : GoodIn wsX4_drawHead wsX0_putInt := goodIn_r _ [5] (by decide +kernel) (by decide +kernel)
set_option maxRecDepth 20000 in
theorem gX4_drawHead_X0_putInt : GoodIn wsX4_drawHead (va_wsS RX4 65 yX0_putInt wsX0_putInt) := goodIn_app (goodIn_of _ (by decide +kernel)) ggX4_drawHead_X0_putInt
set_option maxRecDepth 20000 in
theorem ggX4_drawHead_X0_sum : GoodIn wsX4_drawHead wsX0_sum := goodIn_r _ [8, 9, 10, 4, 11, 12, 13, 14, 15, 16] (by decide +kernel) (by decide +kernel)
set_option maxRecDepth 20000 in
theorem gX4_drawHead_X0_sum : GoodIn wsX4_drawHead (va_wsS RX4 76 yX0_sum wsX0_sum) := goodIn_app (goodIn_of _ (by decide +kernel)) ggX4_drawHead_X0_sum
set_option maxRecDepth 20000 in
theorem ggX4_drawHead_X0_putLong : GoodIn wsX4_drawHead wsX0_putLong := goodIn_r _ [19] (by decide +kernel) (by decide +kernel)
set_option maxRecDepth 20000 in
theorem gX4_drawHead_X0_putLong : GoodIn wsX4_drawHead (va_wsS RX4 69 yX0_putLong wsX0_putLong) := goodIn_app (goodIn_of _ (by decide +kernel)) ggX4_drawHead_X0_putLong
set_option maxRecDepth 20000 in
theorem ggX4_drawCopy_X4_place : GoodIn wsX4_drawCopy wsX4_place := goodIn_r _ [11, 12, 13, 14, 15, 16, 17, 18] (by decide +kernel) (by decide +kernel)
set_option maxRecDepth 20000 in
theorem gX4_drawCopy_X4_place : GoodIn wsX4_drawCopy (wsV RX4 47 RX4 yX4_place wsX4_place) := goodIn_app (goodIn_of _ (by decide +kernel)) ggX4_drawCopy_X4_place
set_option maxRecDepth 20000 in
theorem ggX4_writeImage_X1_writeLow : GoodIn wsX4_writeImage wsX1_writeLow := goodIn_r _ [7, 8, 9, 10, 6, 11, 12, 13, 14, 15, 16, 17, 18, 19, 20, 27, 28, 29, 30, 31, 32, 33] (by decide +kernel) (by decide +kernel)
set_option maxRecDepth 20000 in
theorem gX4_writeImage_X1_writeLow : GoodIn wsX4_writeImage (wsV RX4 80 RX1 yX1_writeLow wsX1_writeLow) := goodIn_app (goodIn_of _ (by decide +kernel)) ggX4_writeImage_X1_writeLow
set_option maxRecDepth 20000 in
theorem ggX4_write_X4_draw : GoodIn wsX4_write wsX4_draw := goodIn_r _ [7, 8, 9, 10, 11, 12, 13, 14, 15, 16, 17, 18, 19, 20, 21, 22, 23, 24, 25, 26, 27, 28, 29, 30, 54, 55, 56, 57, 58, 59] (by decide +kernel) (by decide +kernel)
set_option maxRecDepth 20000 in
theorem gX4_write_X4_draw : GoodIn wsX4_write (wsV RX4 84 RX4 yX4_draw wsX4_draw) := goodIn_app (goodIn_of _ (by decide +kernel)) ggX4_write_X4_draw
set_option maxRecDepth 20000 in
theorem ggX4_write_X4_writeImage : GoodIn wsX4_write wsX4_writeImage := goodIn_r _ [34, 35, 8, 36, 37, 38, 39, 40, 41, 42, 43, 44, 45, 46, 47, 48, 49, 50, 51, 52, 53, 54, 55, 56, 57, 58, 59, 60, 61, 62, 63, 64, 65, 66] (by decide +kernel) (by decide +kernel)
set_option maxRecDepth 20000 in
theorem gX4_write_X4_writeImage : GoodIn wsX4_write (wsV RX4 88 RX4 yX4_writeImage wsX4_writeImage) := goodIn_app (goodIn_of _ (by decide +kernel)) ggX4_write_X4_writeImage
set_option maxRecDepth 20000 in
theorem ggX4_isHead_X0_longAt : GoodIn wsX4_isHead wsX0_longAt := goodIn_r _ [5] (by decide +kernel) (by decide +kernel)
set_option maxRecDepth 20000 in
theorem gX4_isHead_X0_longAt : GoodIn wsX4_isHead (va_wsS RX4 57 yX0_longAt wsX0_longAt) := goodIn_app (goodIn_of _ (by decide +kernel)) ggX4_isHead_X0_longAt
set_option maxRecDepth 20000 in
theorem ggX4_isHead_X0_intAt : GoodIn wsX4_isHead wsX0_intAt := goodIn_r _ [8] (by decide +kernel) (by decide +kernel)
set_option maxRecDepth 20000 in
theorem gX4_isHead_X0_intAt : GoodIn wsX4_isHead (va_wsS RX4 51 yX0_intAt wsX0_intAt) := goodIn_app (goodIn_of _ (by decide +kernel)) ggX4_isHead_X0_intAt
set_option maxRecDepth 20000 in
theorem ggX4_isHead_X0_sum : GoodIn wsX4_isHead wsX0_sum := goodIn_r _ [11, 12, 13, 4, 14, 15, 16, 17, 18, 19] (by decide +kernel) (by decide +kernel)
set_option maxRecDepth 20000 in
theorem gX4_isHead_X0_sum : GoodIn wsX4_isHead (va_wsS RX4 76 yX0_sum wsX0_sum) := goodIn_app (goodIn_of _ (by decide +kernel)) ggX4_isHead_X0_sum
set_option maxRecDepth 20000 in
theorem ggX4_generationOf_X0_intAt : GoodIn wsX4_generationOf wsX0_intAt := goodIn_r _ [6] (by decide +kernel) (by decide +kernel)
set_option maxRecDepth 20000 in
theorem gX4_generationOf_X0_intAt : GoodIn wsX4_generationOf (va_wsS RX4 51 yX0_intAt wsX0_intAt) := goodIn_app (goodIn_of _ (by decide +kernel)) ggX4_generationOf_X0_intAt
set_option maxRecDepth 20000 in
theorem ggX4_choose_X4_isHead : GoodIn wsX4_choose wsX4_isHead := goodIn_r _ [7, 8, 9, 10, 11, 12, 13, 14, 15, 16, 17, 18, 19, 20, 21, 22, 23, 24, 25, 26, 32, 33, 34, 35, 36, 37, 38, 39, 40, 41, 42, 43, 44] (by decide +kernel) (by decide +kernel)
set_option maxRecDepth 20000 in
theorem gX4_choose_X4_isHead : GoodIn wsX4_choose (wsV RX4 94 RX4 yX4_isHead wsX4_isHead) := goodIn_app (goodIn_of _ (by decide +kernel)) ggX4_choose_X4_isHead
set_option maxRecDepth 20000 in
theorem ggX4_choose_X4_generationOf : GoodIn wsX4_choose wsX4_generationOf := goodIn_r _ [30, 8, 31, 13, 14, 11, 15, 32, 33, 34, 35, 36, 37, 38, 39, 40, 41, 42, 43, 44] (by decide +kernel) (by decide +kernel)
set_option maxRecDepth 20000 in
theorem gX4_choose_X4_generationOf : GoodIn wsX4_choose (wsV RX4 98 RX4 yX4_generationOf wsX4_generationOf) := goodIn_app (goodIn_of _ (by decide +kernel)) ggX4_choose_X4_generationOf
set_option maxRecDepth 20000 in
theorem ggX4_clear_X0_isZero : GoodIn wsX4_clear wsX0_isZero := goodIn_r _ [8] (by decide +kernel) (by decide +kernel)
set_option maxRecDepth 20000 in
theorem gX4_clear_X0_isZero : GoodIn wsX4_clear (va_wsS RX4 102 yX0_isZero wsX0_isZero) := goodIn_app (goodIn_of _ (by decide +kernel)) ggX4_clear_X0_isZero
set_option maxRecDepth 20000 in
theorem ggX4_clear_X1_eraseHead : GoodIn wsX4_clear wsX1_eraseHead := goodIn_r _ [13, 14, 15, 16, 17, 12, 18, 19, 20, 21, 60, 61, 62, 63, 64, 65, 66] (by decide +kernel) (by decide +kernel)
set_option maxRecDepth 20000 in
theorem gX4_clear_X1_eraseHead : GoodIn wsX4_clear (wsV RX4 106 RX1 yX1_eraseHead wsX1_eraseHead) := goodIn_app (goodIn_of _ (by decide +kernel)) ggX4_clear_X1_eraseHead
set_option maxRecDepth 20000 in
theorem ggX4_clear_X4_state : GoodIn wsX4_clear wsX4_state := goodIn_r _ [26, 2, 1, 27, 28, 29, 12, 30, 31, 14, 32, 33, 7, 34, 35, 6, 8, 36, 37, 38, 39, 40, 41, 42, 43, 44, 45, 46, 47, 48, 49, 54, 55, 56, 57, 58, 59, 60, 61, 62, 63, 64, 65, 66] (by decide +kernel) (by decide +kernel)
set_option maxRecDepth 20000 in
theorem gX4_clear_X4_state : GoodIn wsX4_clear (wsV RX4 109 RX4 yX4_state wsX4_state) := goodIn_app (goodIn_of _ (by decide +kernel)) ggX4_clear_X4_state
set_option maxRecDepth 20000 in
theorem ggX4_clear_X1_eraseRows : GoodIn wsX4_clear wsX1_eraseRows := goodIn_r _ [53, 14, 31, 15, 16, 17, 12, 18, 19, 20, 21, 60, 61, 62, 63, 64, 65, 66] (by decide +kernel) (by decide +kernel)
set_option maxRecDepth 20000 in
theorem gX4_clear_X1_eraseRows : GoodIn wsX4_clear (wsV RX4 112 RX1 yX1_eraseRows wsX1_eraseRows) := goodIn_app (goodIn_of _ (by decide +kernel)) ggX4_clear_X1_eraseRows
set_option maxRecDepth 20000 in
theorem ggX4_countBad_X4_state : GoodIn wsX4_countBad wsX4_state := goodIn_r _ [6, 7, 8, 9, 10, 11, 12, 13, 14, 15, 16, 17, 18, 19, 20, 21, 22, 23, 24, 25, 26, 27, 28, 29, 30, 31, 32, 33, 34, 35, 36, 37, 38, 39, 40, 41, 42, 43, 44, 45, 46, 47, 48, 49] (by decide +kernel) (by decide +kernel)
set_option maxRecDepth 20000 in
theorem gX4_countBad_X4_state : GoodIn wsX4_countBad (wsV RX4 109 RX4 yX4_state wsX4_state) := goodIn_app (goodIn_of _ (by decide +kernel)) ggX4_countBad_X4_state
set_option maxRecDepth 20000 in
theorem ggX4_badRow_X4_state : GoodIn wsX4_badRow wsX4_state := goodIn_r _ [6, 7, 8, 9, 10, 11, 12, 13, 14, 15, 16, 17, 18, 19, 20, 21, 22, 23, 24, 25, 26, 27, 28, 29, 30, 31, 32, 33, 34, 35, 36, 37, 38, 39, 40, 41, 42, 43, 44, 45, 46, 47, 48, 49] (by decide +kernel) (by decide +kernel)
set_option maxRecDepth 20000 in
theorem gX4_badRow_X4_state : GoodIn wsX4_badRow (wsV RX4 109 RX4 yX4_state wsX4_state) := goodIn_app (goodIn_of _ (by decide +kernel)) ggX4_badRow_X4_state
set_option maxRecDepth 20000 in
theorem ggX4_dropLacking_X4_kind : GoodIn wsX4_dropLacking wsX4_kind := goodIn_r _ [8, 2, 9, 10, 11, 7, 12, 3, 35, 36, 37, 38, 39, 40, 41, 42, 43, 44, 45, 46, 47] (by decide +kernel) (by decide +kernel)
set_option maxRecDepth 20000 in
theorem gX4_dropLacking_X4_kind : GoodIn wsX4_dropLacking (wsV RX4 116 RX4 yX4_kind wsX4_kind) := goodIn_app (goodIn_of _ (by decide +kernel)) ggX4_dropLacking_X4_kind
set_option maxRecDepth 20000 in
theorem ggX4_dropLacking_X4_b : GoodIn wsX4_dropLacking wsX4_b := goodIn_r _ [16, 2, 9, 10, 11, 7, 12, 3, 17, 18, 19, 20, 35, 36, 37, 38, 39, 40, 41, 42, 43, 44, 45, 46, 47] (by decide +kernel) (by decide +kernel)
set_option maxRecDepth 20000 in
theorem gX4_dropLacking_X4_b : GoodIn wsX4_dropLacking (wsV RX4 119 RX4 yX4_b wsX4_b) := goodIn_app (goodIn_of _ (by decide +kernel)) ggX4_dropLacking_X4_b
set_option maxRecDepth 20000 in
theorem ggX4_dropLacking_X1_eraseRows : GoodIn wsX4_dropLacking wsX1_eraseRows := goodIn_r _ [25, 26, 27, 28, 29, 30, 24, 31, 32, 33, 34, 41, 42, 43, 44, 45, 46, 47] (by decide +kernel) (by decide +kernel)
set_option maxRecDepth 20000 in
theorem gX4_dropLacking_X1_eraseRows : GoodIn wsX4_dropLacking (wsV RX4 112 RX1 yX1_eraseRows wsX1_eraseRows) := goodIn_app (goodIn_of _ (by decide +kernel)) ggX4_dropLacking_X1_eraseRows
set_option maxRecDepth 20000 in
theorem ggX4_seal_X4_place : GoodIn wsX4_seal wsX4_place := goodIn_r _ [7, 8, 56, 57, 58, 59, 60, 61] (by decide +kernel) (by decide +kernel)
set_option maxRecDepth 20000 in
theorem gX4_seal_X4_place : GoodIn wsX4_seal (wsV RX4 47 RX4 yX4_place wsX4_place) := goodIn_app (goodIn_of _ (by decide +kernel)) ggX4_seal_X4_place
set_option maxRecDepth 20000 in
theorem ggX4_seal_X4_state : GoodIn wsX4_seal wsX4_state := goodIn_r _ [12, 2, 8, 13, 14, 15, 16, 17, 18, 19, 20, 21, 22, 23, 24, 25, 26, 27, 28, 29, 30, 31, 32, 33, 34, 35, 36, 37, 38, 39, 40, 56, 57, 58, 59, 60, 61, 62, 63, 64, 65, 66, 67, 68] (by decide +kernel) (by decide +kernel)
set_option maxRecDepth 20000 in
theorem gX4_seal_X4_state : GoodIn wsX4_seal (wsV RX4 109 RX4 yX4_state wsX4_state) := goodIn_app (goodIn_of _ (by decide +kernel)) ggX4_seal_X4_state
set_option maxRecDepth 20000 in
theorem ggX4_seal_X1_sealLow : GoodIn wsX4_seal wsX1_sealLow := goodIn_r _ [44, 45, 46, 47, 16, 48, 49, 50, 51, 52, 53, 54, 55, 19, 18, 62, 63, 64, 65, 66, 67, 68] (by decide +kernel) (by decide +kernel)
set_option maxRecDepth 20000 in
theorem gX4_seal_X1_sealLow : GoodIn wsX4_seal (wsV RX4 122 RX1 yX1_sealLow wsX1_sealLow) := goodIn_app (goodIn_of _ (by decide +kernel)) ggX4_seal_X1_sealLow
set_option maxRecDepth 20000 in
theorem ggX4_drawMended_X0_close : GoodIn wsX4_drawMended wsX0_close := goodIn_r _ [10, 11, 12, 9, 13, 14, 15, 16, 17, 18, 19, 20, 21, 22, 23, 24] (by decide +kernel) (by decide +kernel)
set_option maxRecDepth 20000 in
theorem gX4_drawMended_X0_close : GoodIn wsX4_drawMended (va_wsS RX4 73 yX0_close wsX0_close) := goodIn_app (goodIn_of _ (by decide +kernel)) ggX4_drawMended_X0_close
set_option maxRecDepth 20000 in
theorem ggX4_drawMended_X4_place : GoodIn wsX4_drawMended wsX4_place := goodIn_r _ [29, 30, 39, 40, 41, 42, 43, 44] (by decide +kernel) (by decide +kernel)
set_option maxRecDepth 20000 in
theorem gX4_drawMended_X4_place : GoodIn wsX4_drawMended (wsV RX4 47 RX4 yX4_place wsX4_place) := goodIn_app (goodIn_of _ (by decide +kernel)) ggX4_drawMended_X4_place
set_option maxRecDepth 20000 in
theorem ggX4_drawMended_X0_mends : GoodIn wsX4_drawMended wsX0_mends := goodIn_r _ [33, 34, 35, 9, 36] (by decide +kernel) (by decide +kernel)
set_option maxRecDepth 20000 in
theorem gX4_drawMended_X0_mends : GoodIn wsX4_drawMended (va_wsS RX4 131 yX0_mends wsX0_mends) := goodIn_app (goodIn_of _ (by decide +kernel)) ggX4_drawMended_X0_mends
set_option maxRecDepth 20000 in
theorem ggX4_rewrite_X4_writeImage : GoodIn wsX4_rewrite wsX4_writeImage := goodIn_r _ [7, 8, 9, 10, 11, 12, 13, 14, 15, 16, 17, 18, 19, 20, 21, 22, 23, 24, 25, 26, 27, 89, 90, 91, 92, 93, 94, 95, 96, 97, 98, 99, 100, 101] (by decide +kernel) (by decide +kernel)
set_option maxRecDepth 20000 in
theorem gX4_rewrite_X4_writeImage : GoodIn wsX4_rewrite (wsV RX4 88 RX4 yX4_writeImage wsX4_writeImage) := goodIn_app (goodIn_of _ (by decide +kernel)) ggX4_rewrite_X4_writeImage
set_option maxRecDepth 20000 in
theorem ggX4_rewrite_X4_countBad : GoodIn wsX4_rewrite wsX4_countBad := goodIn_r _ [31, 32, 33, 34, 35, 6, 36, 8, 1, 37, 38, 39, 13, 40, 27, 26, 41, 42, 43, 44, 45, 46, 47, 48, 49, 50, 51, 52, 53, 54, 55, 56, 57, 58, 59, 60, 61, 89, 90, 91, 92, 93, 94, 95, 96, 97, 98, 99, 100, 101] (by decide +kernel) (by decide +kernel)
set_option maxRecDepth 20000 in
theorem gX4_rewrite_X4_countBad : GoodIn wsX4_rewrite (wsV RX4 135 RX4 yX4_countBad wsX4_countBad) := goodIn_app (goodIn_of _ (by decide +kernel)) ggX4_rewrite_X4_countBad
set_option maxRecDepth 20000 in
theorem ggX4_rewrite_X4_inNeed : GoodIn wsX4_rewrite wsX4_inNeed := goodIn_r _ [65, 2, 89, 90, 91, 92, 93, 94] (by decide +kernel) (by decide +kernel)
set_option maxRecDepth 20000 in
theorem gX4_rewrite_X4_inNeed : GoodIn wsX4_rewrite (wsV RX4 139 RX4 yX4_inNeed wsX4_inNeed) := goodIn_app (goodIn_of _ (by decide +kernel)) ggX4_rewrite_X4_inNeed
set_option maxRecDepth 20000 in
theorem ggX4_rewrite_X4_dropLacking : GoodIn wsX4_rewrite wsX4_dropLacking := goodIn_r _ [69, 32, 8, 1, 70, 71, 72, 6, 73, 74, 75, 76, 77, 78, 79, 80, 81, 82, 83, 43, 84, 85, 86, 87, 13, 88, 26, 27, 15, 16, 17, 18, 19, 20, 21, 89, 90, 91, 92, 93, 94, 95, 96, 97, 98, 99, 100, 101] (by decide +kernel) (by decide +kernel)
set_option maxRecDepth 20000 in
theorem gX4_rewrite_X4_dropLacking : GoodIn wsX4_rewrite (wsV RX4 143 RX4 yX4_dropLacking wsX4_dropLacking) := goodIn_app (goodIn_of _ (by decide +kernel)) ggX4_rewrite_X4_dropLacking
set_option maxRecDepth 20000 in
theorem ggX7_appendInt_X7_append : GoodIn wsX7_appendInt wsX7_append := goodIn_r _ [5, 6, 7, 8, 9] (by decide +kernel) (by decide +kernel)
set_option maxRecDepth 20000 in
theorem gX7_appendInt_X7_append : GoodIn wsX7_appendInt (wsV RX7 19 RX7 yX7_append wsX7_append) := goodIn_app (goodIn_of _ (by decide +kernel)) ggX7_appendInt_X7_append
set_option maxRecDepth 20000 in
theorem ggX7_appendLong_X7_appendInt : GoodIn wsX7_appendLong wsX7_appendInt := goodIn_r _ [5, 6, 7, 8, 4, 9, 10, 11, 12, 13] (by decide +kernel) (by decide +kernel)
set_option maxRecDepth 20000 in
theorem gX7_appendLong_X7_appendInt : GoodIn wsX7_appendLong (wsV RX7 23 RX7 yX7_appendInt wsX7_appendInt) := goodIn_app (goodIn_of _ (by decide +kernel)) ggX7_appendLong_X7_appendInt
