abbrev cX9_within : ByteArray := prog_11_method_3_code
def yX9_within : MethodName := ⟨RX9, "within", "(III)Z"⟩
abbrev cX9_bytesOf : ByteArray := prog_11_method_4_code
def yX9_bytesOf : MethodName := ⟨RX9, "bytesOf", "(IJI)V"⟩
abbrev cX9_byteIn : ByteArray := prog_11_method_5_code
def yX9_byteIn : MethodName := ⟨RX9, "byteIn", "(I)I"⟩
abbrev cX9_set : ByteArray := prog_11_method_6_code
def yX9_set : MethodName := ⟨RX9, "set", "(II)V"⟩
abbrev cX9_number : ByteArray := prog_11_method_7_code
def yX9_number : MethodName := ⟨RX9, "number", "(II)J"⟩
abbrev cX9_sumOf : ByteArray := prog_11_method_9_code
def yX9_sumOf : MethodName := ⟨RX9, "sumOf", "(III)J"⟩
abbrev cX9_act : ByteArray := prog_11_method_10_code
def yX9_act : MethodName := ⟨RX9, "act", "()Z"⟩
abbrev cX9_write : ByteArray := prog_11_method_11_code
def yX9_write : MethodName := ⟨RX9, "write", "(II)V"⟩
abbrev cX9_erase : ByteArray := prog_11_method_12_code
def yX9_erase : MethodName := ⟨RX9, "erase", "(II)V"⟩
abbrev cX9_put : ByteArray := prog_11_method_13_code
def yX9_put : MethodName := ⟨RX9, "put", "(IJI)V"⟩
abbrev cX9_freshSum : ByteArray := prog_11_method_14_code
def yX9_freshSum : MethodName := ⟨RX9, "freshSum", "(II)J"⟩
abbrev cX9_layRow : ByteArray := prog_11_method_15_code
def yX9_layRow : MethodName := ⟨RX9, "layRow", "(IIIJ)V"⟩
abbrev cX9_writeFresh : ByteArray := prog_11_method_16_code
def yX9_writeFresh : MethodName := ⟨RX9, "writeFresh", "(II)V"⟩
abbrev cX9_rowPlace : ByteArray := prog_11_method_17_code
def yX9_rowPlace : MethodName := ⟨RX9, "rowPlace", "(II)I"⟩
abbrev cX9_pagePlace : ByteArray := prog_11_method_18_code
def yX9_pagePlace : MethodName := ⟨RX9, "pagePlace", "(I)I"⟩
abbrev cX9_stateOf : ByteArray := prog_11_method_19_code
def yX9_stateOf : MethodName := ⟨RX9, "stateOf", "(III)I"⟩
abbrev cX9_isLeafAt : ByteArray := prog_11_method_20_code
def yX9_isLeafAt : MethodName := ⟨RX9, "isLeafAt", "(I)Z"⟩
abbrev cX9_rowState : ByteArray := prog_11_method_21_code
def yX9_rowState : MethodName := ⟨RX9, "rowState", "(I)I"⟩
abbrev cX9_pageState : ByteArray := prog_11_method_22_code
def yX9_pageState : MethodName := ⟨RX9, "pageState", "(I)I"⟩
abbrev cX9_rows : ByteArray := prog_11_method_23_code
def yX9_rows : MethodName := ⟨RX9, "rows", "()I"⟩
abbrev cX9_countRows : ByteArray := prog_11_method_24_code
def yX9_countRows : MethodName := ⟨RX9, "countRows", "()I"⟩
abbrev cX9_badRows : ByteArray := prog_11_method_25_code
def yX9_badRows : MethodName := ⟨RX9, "badRows", "()I"⟩
abbrev cX9_kindOf : ByteArray := prog_11_method_26_code
def yX9_kindOf : MethodName := ⟨RX9, "kindOf", "(I)I"⟩
abbrev cX9_aOf : ByteArray := prog_11_method_27_code
def yX9_aOf : MethodName := ⟨RX9, "aOf", "(I)I"⟩
abbrev cX9_bOf : ByteArray := prog_11_method_28_code
def yX9_bOf : MethodName := ⟨RX9, "bOf", "(I)I"⟩
abbrev cX9_cOf : ByteArray := prog_11_method_29_code
def yX9_cOf : MethodName := ⟨RX9, "cOf", "(I)J"⟩
abbrev cX9_isEmpty : ByteArray := prog_11_method_49_code
def yX9_isEmpty : MethodName := ⟨RX9, "isEmpty", "(II)Z"⟩
def wsX9_set : List Cond := .code yX9_set cX9_set 4 none :: ([.fieldLink RX9 8 "BlockLogModel" "disk" "[I"] ++ wsX90)
def wsX9_bytesOf : List Cond := .code yX9_bytesOf cX9_bytesOf 6 none :: ([.constantLong RX9 94 (255), .methodLink RX9 83 yX9_set, .instanceMethod yX9_set, .selects RX9 yX9_set yX9_set, .initialized RX9, .code yX9_set cX9_set 4 none, .fieldLink RX9 8 "BlockLogModel" "disk" "[I"] ++ wsX90)
def wsX9_byteIn : List Cond := .code yX9_byteIn cX9_byteIn 2 (some .int) :: ([.fieldLink RX9 8 "BlockLogModel" "disk" "[I"] ++ wsX90)
def wsX9_sumOf : List Cond := .code yX9_sumOf cX9_sumOf 7 (some .long) :: ([.constantLong RX9 102 (1000003), .methodLink RX9 96 yX9_byteIn, .instanceMethod yX9_byteIn, .selects RX9 yX9_byteIn yX9_byteIn, .initialized RX9, .code yX9_byteIn cX9_byteIn 2 (some .int), .fieldLink RX9 8 "BlockLogModel" "disk" "[I", .methodLink RX9 104 yX9_more, .static yX9_more, .code yX9_more cX9_more 5 (some .long), .constantLong RX9 100 (-4417276706812531889)] ++ wsX90)
def wsX9_within : List Cond := .code yX9_within cX9_within 3 (some .boolean) :: ([])
def wsX9_number : List Cond := .code yX9_number cX9_number 6 (some .long) :: ([.methodLink RX9 96 yX9_byteIn, .instanceMethod yX9_byteIn, .selects RX9 yX9_byteIn yX9_byteIn, .initialized RX9, .code yX9_byteIn cX9_byteIn 2 (some .int), .fieldLink RX9 8 "BlockLogModel" "disk" "[I"] ++ wsX90)
def wsX9_act : List Cond := .code yX9_act cX9_act 1 (some .boolean) :: ([.fieldLink RX9 108 "BlockLogModel" "dark" "Z", .fieldLink RX9 69 "BlockLogModel" "power" "I", .fieldLink RX9 72 "BlockLogModel" "on" "Z", .fieldLink RX9 111 "BlockLogModel" "collected" "I", .fieldLink RX9 114 "BlockLogModel" "acts" "I"] ++ wsX90)
def wsX9_write : List Cond := .code yX9_write cX9_write 3 none :: ([.methodLink RX9 117 yX9_act, .instanceMethod yX9_act, .selects RX9 yX9_act yX9_act, .initialized RX9, .code yX9_act cX9_act 1 (some .boolean), .fieldLink RX9 108 "BlockLogModel" "dark" "Z", .fieldLink RX9 69 "BlockLogModel" "power" "I", .fieldLink RX9 72 "BlockLogModel" "on" "Z", .fieldLink RX9 111 "BlockLogModel" "collected" "I", .fieldLink RX9 114 "BlockLogModel" "acts" "I", .methodLink RX9 83 yX9_set, .instanceMethod yX9_set, .selects RX9 yX9_set yX9_set, .code yX9_set cX9_set 4 none, .fieldLink RX9 8 "BlockLogModel" "disk" "[I"] ++ wsX90)
def wsX9_erase : List Cond := .code yX9_erase cX9_erase 4 none :: ([.methodLink RX9 117 yX9_act, .instanceMethod yX9_act, .selects RX9 yX9_act yX9_act, .initialized RX9, .code yX9_act cX9_act 1 (some .boolean), .fieldLink RX9 108 "BlockLogModel" "dark" "Z", .fieldLink RX9 69 "BlockLogModel" "power" "I", .fieldLink RX9 72 "BlockLogModel" "on" "Z", .fieldLink RX9 111 "BlockLogModel" "collected" "I", .fieldLink RX9 114 "BlockLogModel" "acts" "I", .methodLink RX9 83 yX9_set, .instanceMethod yX9_set, .selects RX9 yX9_set yX9_set, .code yX9_set cX9_set 4 none, .fieldLink RX9 8 "BlockLogModel" "disk" "[I"] ++ wsX90)
def wsX9_put : List Cond := .code yX9_put cX9_put 6 none :: ([.fieldLink RX9 24 "BlockLogModel" "fresh" "[I", .constantLong RX9 94 (255)] ++ wsX90)
def wsX9_freshSum : List Cond := .code yX9_freshSum cX9_freshSum 6 (some .long) :: ([.constantLong RX9 102 (1000003), .fieldLink RX9 24 "BlockLogModel" "fresh" "[I", .methodLink RX9 104 yX9_more, .static yX9_more, .initialized RX9, .code yX9_more cX9_more 5 (some .long), .constantLong RX9 100 (-4417276706812531889)] ++ wsX90)
def wsX9_layRow : List Cond := .code yX9_layRow cX9_layRow 6 none :: ([.fieldLink RX9 24 "BlockLogModel" "fresh" "[I", .methodLink RX9 121 yX9_put, .instanceMethod yX9_put, .selects RX9 yX9_put yX9_put, .initialized RX9, .code yX9_put cX9_put 6 none, .constantLong RX9 94 (255), .methodLink RX9 124 yX9_freshSum, .instanceMethod yX9_freshSum, .selects RX9 yX9_freshSum yX9_freshSum, .code yX9_freshSum cX9_freshSum 6 (some .long), .constantLong RX9 102 (1000003), .methodLink RX9 104 yX9_more, .static yX9_more, .code yX9_more cX9_more 5 (some .long), .constantLong RX9 100 (-4417276706812531889)] ++ wsX90)
def wsX9_writeFresh : List Cond := .code yX9_writeFresh cX9_writeFresh 4 none :: ([.fieldLink RX9 24 "BlockLogModel" "fresh" "[I", .methodLink RX9 128 yX9_write, .instanceMethod yX9_write, .selects RX9 yX9_write yX9_write, .initialized RX9, .code yX9_write cX9_write 3 none, .methodLink RX9 117 yX9_act, .instanceMethod yX9_act, .selects RX9 yX9_act yX9_act, .code yX9_act cX9_act 1 (some .boolean), .fieldLink RX9 108 "BlockLogModel" "dark" "Z", .fieldLink RX9 69 "BlockLogModel" "power" "I", .fieldLink RX9 72 "BlockLogModel" "on" "Z", .fieldLink RX9 111 "BlockLogModel" "collected" "I", .fieldLink RX9 114 "BlockLogModel" "acts" "I", .methodLink RX9 83 yX9_set, .instanceMethod yX9_set, .selects RX9 yX9_set yX9_set, .code yX9_set cX9_set 4 none, .fieldLink RX9 8 "BlockLogModel" "disk" "[I"] ++ wsX90)
def wsX9_rowPlace : List Cond := .code yX9_rowPlace cX9_rowPlace 3 (some .int) :: ([])
def wsX9_pagePlace : List Cond := .code yX9_pagePlace cX9_pagePlace 2 (some .int) :: ([])
def wsX9_isEmpty : List Cond := .code yX9_isEmpty cX9_isEmpty 4 (some .boolean) :: ([.methodLink RX9 96 yX9_byteIn, .instanceMethod yX9_byteIn, .selects RX9 yX9_byteIn yX9_byteIn, .initialized RX9, .code yX9_byteIn cX9_byteIn 2 (some .int), .fieldLink RX9 8 "BlockLogModel" "disk" "[I"] ++ wsX90)
def wsX9_isLeafAt : List Cond := .code yX9_isLeafAt cX9_isLeafAt 3 (some .boolean) :: ([.methodLink RX9 96 yX9_byteIn, .instanceMethod yX9_byteIn, .selects RX9 yX9_byteIn yX9_byteIn, .initialized RX9, .code yX9_byteIn cX9_byteIn 2 (some .int), .fieldLink RX9 8 "BlockLogModel" "disk" "[I", .methodLink RX9 138 yX9_within, .static yX9_within, .code yX9_within cX9_within 3 (some .boolean), .methodLink RX9 142 yX9_isEmpty, .instanceMethod yX9_isEmpty, .selects RX9 yX9_isEmpty yX9_isEmpty, .code yX9_isEmpty cX9_isEmpty 4 (some .boolean)] ++ wsX90)
def wsX9_stateOf_r1 : List Cond := [Cond.methodLink RX9 96 yX9_byteIn, Cond.instanceMethod yX9_byteIn, Cond.selects RX9 yX9_byteIn yX9_byteIn, Cond.initialized RX9, Cond.code yX9_byteIn cX9_byteIn 2 (some .int), Cond.fieldLink RX9 8 "BlockLogModel" "disk" "[I", Cond.methodLink RX9 131 yX9_number, Cond.instanceMethod yX9_number, Cond.selects RX9 yX9_number yX9_number, Cond.code yX9_number cX9_number 6 (some .long), Cond.methodLink RX9 134 yX9_isLeafAt, Cond.instanceMethod yX9_isLeafAt, Cond.selects RX9 yX9_isLeafAt yX9_isLeafAt, Cond.code yX9_isLeafAt cX9_isLeafAt 3 (some .boolean), Cond.methodLink RX9 138 yX9_within, Cond.static yX9_within, Cond.code yX9_within cX9_within 3 (some .boolean), Cond.methodLink RX9 142 yX9_isEmpty, Cond.instanceMethod yX9_isEmpty, Cond.selects RX9 yX9_isEmpty yX9_isEmpty, Cond.code yX9_isEmpty cX9_isEmpty 4 (some .boolean), Cond.methodLink RX9 87 yX9_sumOf, Cond.instanceMethod yX9_sumOf, Cond.selects RX9 yX9_sumOf yX9_sumOf]
def wsX9_stateOf_r2 : List Cond := [Cond.code yX9_sumOf cX9_sumOf 7 (some .long), Cond.constantLong RX9 102 (1000003), Cond.methodLink RX9 104 yX9_more, Cond.static yX9_more, Cond.code yX9_more cX9_more 5 (some .long), Cond.constantLong RX9 100 (-4417276706812531889)]
def wsX9_stateOf : List Cond := .code yX9_stateOf cX9_stateOf 8 (some .int) :: ((wsX9_stateOf_r1 ++ wsX9_stateOf_r2) ++ wsX90)
def wsX9_rowState_r1 : List Cond := [Cond.fieldLink RX9 76 "BlockLogModel" "area" "I", Cond.methodLink RX9 146 yX9_rowPlace, Cond.instanceMethod yX9_rowPlace, Cond.selects RX9 yX9_rowPlace yX9_rowPlace, Cond.initialized RX9, Cond.code yX9_rowPlace cX9_rowPlace 3 (some .int), Cond.methodLink RX9 150 yX9_stateOf, Cond.instanceMethod yX9_stateOf, Cond.selects RX9 yX9_stateOf yX9_stateOf, Cond.code yX9_stateOf cX9_stateOf 8 (some .int), Cond.methodLink RX9 96 yX9_byteIn, Cond.instanceMethod yX9_byteIn, Cond.selects RX9 yX9_byteIn yX9_byteIn, Cond.code yX9_byteIn cX9_byteIn 2 (some .int), Cond.fieldLink RX9 8 "BlockLogModel" "disk" "[I", Cond.methodLink RX9 131 yX9_number, Cond.instanceMethod yX9_number, Cond.selects RX9 yX9_number yX9_number, Cond.code yX9_number cX9_number 6 (some .long), Cond.methodLink RX9 134 yX9_isLeafAt, Cond.instanceMethod yX9_isLeafAt, Cond.selects RX9 yX9_isLeafAt yX9_isLeafAt, Cond.code yX9_isLeafAt cX9_isLeafAt 3 (some .boolean), Cond.methodLink RX9 138 yX9_within]
def wsX9_rowState_r2 : List Cond := [Cond.static yX9_within, Cond.code yX9_within cX9_within 3 (some .boolean), Cond.methodLink RX9 142 yX9_isEmpty, Cond.instanceMethod yX9_isEmpty, Cond.selects RX9 yX9_isEmpty yX9_isEmpty, Cond.code yX9_isEmpty cX9_isEmpty 4 (some .boolean), Cond.methodLink RX9 87 yX9_sumOf, Cond.instanceMethod yX9_sumOf, Cond.selects RX9 yX9_sumOf yX9_sumOf, Cond.code yX9_sumOf cX9_sumOf 7 (some .long), Cond.constantLong RX9 102 (1000003), Cond.methodLink RX9 104 yX9_more, Cond.static yX9_more, Cond.code yX9_more cX9_more 5 (some .long), Cond.constantLong RX9 100 (-4417276706812531889)]
def wsX9_rowState : List Cond := .code yX9_rowState cX9_rowState 2 (some .int) :: ((wsX9_rowState_r1 ++ wsX9_rowState_r2) ++ wsX90)
def wsX9_pageState_r1 : List Cond := [Cond.methodLink RX9 154 yX9_pagePlace, Cond.instanceMethod yX9_pagePlace, Cond.selects RX9 yX9_pagePlace yX9_pagePlace, Cond.initialized RX9, Cond.code yX9_pagePlace cX9_pagePlace 2 (some .int), Cond.methodLink RX9 150 yX9_stateOf, Cond.instanceMethod yX9_stateOf, Cond.selects RX9 yX9_stateOf yX9_stateOf, Cond.code yX9_stateOf cX9_stateOf 8 (some .int), Cond.methodLink RX9 96 yX9_byteIn, Cond.instanceMethod yX9_byteIn, Cond.selects RX9 yX9_byteIn yX9_byteIn, Cond.code yX9_byteIn cX9_byteIn 2 (some .int), Cond.fieldLink RX9 8 "BlockLogModel" "disk" "[I", Cond.methodLink RX9 131 yX9_number, Cond.instanceMethod yX9_number, Cond.selects RX9 yX9_number yX9_number, Cond.code yX9_number cX9_number 6 (some .long), Cond.methodLink RX9 134 yX9_isLeafAt, Cond.instanceMethod yX9_isLeafAt, Cond.selects RX9 yX9_isLeafAt yX9_isLeafAt, Cond.code yX9_isLeafAt cX9_isLeafAt 3 (some .boolean), Cond.methodLink RX9 138 yX9_within, Cond.static yX9_within]
def wsX9_pageState_r2 : List Cond := [Cond.code yX9_within cX9_within 3 (some .boolean), Cond.methodLink RX9 142 yX9_isEmpty, Cond.instanceMethod yX9_isEmpty, Cond.selects RX9 yX9_isEmpty yX9_isEmpty, Cond.code yX9_isEmpty cX9_isEmpty 4 (some .boolean), Cond.methodLink RX9 87 yX9_sumOf, Cond.instanceMethod yX9_sumOf, Cond.selects RX9 yX9_sumOf yX9_sumOf, Cond.code yX9_sumOf cX9_sumOf 7 (some .long), Cond.constantLong RX9 102 (1000003), Cond.methodLink RX9 104 yX9_more, Cond.static yX9_more, Cond.code yX9_more cX9_more 5 (some .long), Cond.constantLong RX9 100 (-4417276706812531889)]
def wsX9_pageState : List Cond := .code yX9_pageState cX9_pageState 2 (some .int) :: ((wsX9_pageState_r1 ++ wsX9_pageState_r2) ++ wsX90)
def wsX9_rows : List Cond := .code yX9_rows cX9_rows 1 (some .int) :: ([.fieldLink RX9 157 "BlockLogModel" "rowsNow" "I"] ++ wsX90)
def wsX9_countRows_r1 : List Cond := [Cond.methodLink RX9 160 yX9_rowState, Cond.instanceMethod yX9_rowState, Cond.selects RX9 yX9_rowState yX9_rowState, Cond.initialized RX9, Cond.code yX9_rowState cX9_rowState 2 (some .int), Cond.fieldLink RX9 76 "BlockLogModel" "area" "I", Cond.methodLink RX9 146 yX9_rowPlace, Cond.instanceMethod yX9_rowPlace, Cond.selects RX9 yX9_rowPlace yX9_rowPlace, Cond.code yX9_rowPlace cX9_rowPlace 3 (some .int), Cond.methodLink RX9 150 yX9_stateOf, Cond.instanceMethod yX9_stateOf, Cond.selects RX9 yX9_stateOf yX9_stateOf, Cond.code yX9_stateOf cX9_stateOf 8 (some .int), Cond.methodLink RX9 96 yX9_byteIn, Cond.instanceMethod yX9_byteIn, Cond.selects RX9 yX9_byteIn yX9_byteIn, Cond.code yX9_byteIn cX9_byteIn 2 (some .int), Cond.fieldLink RX9 8 "BlockLogModel" "disk" "[I", Cond.methodLink RX9 131 yX9_number, Cond.instanceMethod yX9_number, Cond.selects RX9 yX9_number yX9_number, Cond.code yX9_number cX9_number 6 (some .long), Cond.methodLink RX9 134 yX9_isLeafAt]
def wsX9_countRows_r2 : List Cond := [Cond.instanceMethod yX9_isLeafAt, Cond.selects RX9 yX9_isLeafAt yX9_isLeafAt, Cond.code yX9_isLeafAt cX9_isLeafAt 3 (some .boolean), Cond.methodLink RX9 138 yX9_within, Cond.static yX9_within, Cond.code yX9_within cX9_within 3 (some .boolean), Cond.methodLink RX9 142 yX9_isEmpty, Cond.instanceMethod yX9_isEmpty, Cond.selects RX9 yX9_isEmpty yX9_isEmpty, Cond.code yX9_isEmpty cX9_isEmpty 4 (some .boolean), Cond.methodLink RX9 87 yX9_sumOf, Cond.instanceMethod yX9_sumOf, Cond.selects RX9 yX9_sumOf yX9_sumOf, Cond.code yX9_sumOf cX9_sumOf 7 (some .long), Cond.constantLong RX9 102 (1000003), Cond.methodLink RX9 104 yX9_more, Cond.static yX9_more, Cond.code yX9_more cX9_more 5 (some .long), Cond.constantLong RX9 100 (-4417276706812531889)]
def wsX9_countRows : List Cond := .code yX9_countRows cX9_countRows 2 (some .int) :: ((wsX9_countRows_r1 ++ wsX9_countRows_r2) ++ wsX90)
def wsX9_badRows_r1 : List Cond := [Cond.methodLink RX9 163 yX9_rows, Cond.instanceMethod yX9_rows, Cond.selects RX9 yX9_rows yX9_rows, Cond.initialized RX9, Cond.code yX9_rows cX9_rows 1 (some .int), Cond.fieldLink RX9 157 "BlockLogModel" "rowsNow" "I", Cond.methodLink RX9 160 yX9_rowState, Cond.instanceMethod yX9_rowState, Cond.selects RX9 yX9_rowState yX9_rowState, Cond.code yX9_rowState cX9_rowState 2 (some .int), Cond.fieldLink RX9 76 "BlockLogModel" "area" "I", Cond.methodLink RX9 146 yX9_rowPlace, Cond.instanceMethod yX9_rowPlace, Cond.selects RX9 yX9_rowPlace yX9_rowPlace, Cond.code yX9_rowPlace cX9_rowPlace 3 (some .int), Cond.methodLink RX9 150 yX9_stateOf, Cond.instanceMethod yX9_stateOf, Cond.selects RX9 yX9_stateOf yX9_stateOf, Cond.code yX9_stateOf cX9_stateOf 8 (some .int), Cond.methodLink RX9 96 yX9_byteIn, Cond.instanceMethod yX9_byteIn, Cond.selects RX9 yX9_byteIn yX9_byteIn, Cond.code yX9_byteIn cX9_byteIn 2 (some .int), Cond.fieldLink RX9 8 "BlockLogModel" "disk" "[I"]
def wsX9_badRows_r2 : List Cond := [Cond.methodLink RX9 131 yX9_number, Cond.instanceMethod yX9_number, Cond.selects RX9 yX9_number yX9_number, Cond.code yX9_number cX9_number 6 (some .long), Cond.methodLink RX9 134 yX9_isLeafAt, Cond.instanceMethod yX9_isLeafAt, Cond.selects RX9 yX9_isLeafAt yX9_isLeafAt, Cond.code yX9_isLeafAt cX9_isLeafAt 3 (some .boolean), Cond.methodLink RX9 138 yX9_within, Cond.static yX9_within, Cond.code yX9_within cX9_within 3 (some .boolean), Cond.methodLink RX9 142 yX9_isEmpty, Cond.instanceMethod yX9_isEmpty, Cond.selects RX9 yX9_isEmpty yX9_isEmpty, Cond.code yX9_isEmpty cX9_isEmpty 4 (some .boolean), Cond.methodLink RX9 87 yX9_sumOf, Cond.instanceMethod yX9_sumOf, Cond.selects RX9 yX9_sumOf yX9_sumOf, Cond.code yX9_sumOf cX9_sumOf 7 (some .long), Cond.constantLong RX9 102 (1000003), Cond.methodLink RX9 104 yX9_more, Cond.static yX9_more, Cond.code yX9_more cX9_more 5 (some .long), Cond.constantLong RX9 100 (-4417276706812531889)]
def wsX9_badRows : List Cond := .code yX9_badRows cX9_badRows 4 (some .int) :: ((wsX9_badRows_r1 ++ wsX9_badRows_r2) ++ wsX90)
def wsX9_kindOf : List Cond := .code yX9_kindOf cX9_kindOf 2 (some .int) :: ([.fieldLink RX9 76 "BlockLogModel" "area" "I", .methodLink RX9 146 yX9_rowPlace, .instanceMethod yX9_rowPlace, .selects RX9 yX9_rowPlace yX9_rowPlace, .initialized RX9, .code yX9_rowPlace cX9_rowPlace 3 (some .int), .methodLink RX9 96 yX9_byteIn, .instanceMethod yX9_byteIn, .selects RX9 yX9_byteIn yX9_byteIn, .code yX9_byteIn cX9_byteIn 2 (some .int), .fieldLink RX9 8 "BlockLogModel" "disk" "[I"] ++ wsX90)
def wsX9_aOf : List Cond := .code yX9_aOf cX9_aOf 2 (some .int) :: ([.fieldLink RX9 76 "BlockLogModel" "area" "I", .methodLink RX9 146 yX9_rowPlace, .instanceMethod yX9_rowPlace, .selects RX9 yX9_rowPlace yX9_rowPlace, .initialized RX9, .code yX9_rowPlace cX9_rowPlace 3 (some .int), .methodLink RX9 131 yX9_number, .instanceMethod yX9_number, .selects RX9 yX9_number yX9_number, .code yX9_number cX9_number 6 (some .long), .methodLink RX9 96 yX9_byteIn, .instanceMethod yX9_byteIn, .selects RX9 yX9_byteIn yX9_byteIn, .code yX9_byteIn cX9_byteIn 2 (some .int), .fieldLink RX9 8 "BlockLogModel" "disk" "[I"] ++ wsX90)
def wsX9_bOf : List Cond := .code yX9_bOf cX9_bOf 2 (some .int) :: ([.fieldLink RX9 76 "BlockLogModel" "area" "I", .methodLink RX9 146 yX9_rowPlace, .instanceMethod yX9_rowPlace, .selects RX9 yX9_rowPlace yX9_rowPlace, .initialized RX9, .code yX9_rowPlace cX9_rowPlace 3 (some .int), .methodLink RX9 131 yX9_number, .instanceMethod yX9_number, .selects RX9 yX9_number yX9_number, .code yX9_number cX9_number 6 (some .long), .methodLink RX9 96 yX9_byteIn, .instanceMethod yX9_byteIn, .selects RX9 yX9_byteIn yX9_byteIn, .code yX9_byteIn cX9_byteIn 2 (some .int), .fieldLink RX9 8 "BlockLogModel" "disk" "[I"] ++ wsX90)
def wsX9_cOf : List Cond := .code yX9_cOf cX9_cOf 2 (some .long) :: ([.fieldLink RX9 76 "BlockLogModel" "area" "I", .methodLink RX9 146 yX9_rowPlace, .instanceMethod yX9_rowPlace, .selects RX9 yX9_rowPlace yX9_rowPlace, .initialized RX9, .code yX9_rowPlace cX9_rowPlace 3 (some .int), .methodLink RX9 131 yX9_number, .instanceMethod yX9_number, .selects RX9 yX9_number yX9_number, .code yX9_number cX9_number 6 (some .long), .methodLink RX9 96 yX9_byteIn, .instanceMethod yX9_byteIn, .selects RX9 yX9_byteIn yX9_byteIn, .code yX9_byteIn cX9_byteIn 2 (some .int), .fieldLink RX9 8 "BlockLogModel" "disk" "[I"] ++ wsX90)
set_option maxRecDepth 20000 in
theorem ggX9_bytesOf_X9_set : GoodIn wsX9_bytesOf wsX9_set := goodIn_r _ [6, 7, 8, 9, 10, 11, 12, 13, 14, 15, 16, 17, 18, 19, 20, 21, 22, 23, 24, 25, 26, 27, 28, 29, 30, 31, 32, 33, 34, 35, 36, 37, 38, 39, 40, 41, 42, 43, 44, 45] (by decide +kernel) (by decide +kernel)
set_option maxRecDepth 20000 in
theorem gX9_bytesOf_X9_set : GoodIn wsX9_bytesOf (wsV RX9 83 RX9 yX9_set wsX9_set) := goodIn_app (goodIn_of _ (by decide +kernel)) ggX9_bytesOf_X9_set
set_option maxRecDepth 20000 in
theorem ggX9_number_X9_byteIn : GoodIn wsX9_number wsX9_byteIn := goodIn_r _ [5, 6, 7, 8, 9, 10, 11, 12, 13, 14, 15, 16, 17, 18, 19, 20, 21, 22, 23, 24, 25, 26, 27, 28, 29, 30, 31, 32, 33, 34, 35, 36, 37, 38, 39, 40, 41, 42, 43, 44] (by decide +kernel) (by decide +kernel)
set_option maxRecDepth 20000 in
theorem gX9_number_X9_byteIn : GoodIn wsX9_number (wsV RX9 96 RX9 yX9_byteIn wsX9_byteIn) := goodIn_app (goodIn_of _ (by decide +kernel)) ggX9_number_X9_byteIn
set_option maxRecDepth 20000 in
theorem ggX9_sumOf_X9_byteIn : GoodIn wsX9_sumOf wsX9_byteIn := goodIn_r _ [6, 7, 12, 13, 14, 15, 16, 17, 18, 19, 20, 21, 22, 23, 24, 25, 26, 27, 28, 29, 30, 31, 32, 33, 34, 35, 36, 37, 38, 39, 40, 41, 42, 43, 44, 45, 46, 47, 48, 49] (by decide +kernel) (by decide +kernel)
set_option maxRecDepth 20000 in
theorem gX9_sumOf_X9_byteIn : GoodIn wsX9_sumOf (wsV RX9 96 RX9 yX9_byteIn wsX9_byteIn) := goodIn_app (goodIn_of _ (by decide +kernel)) ggX9_sumOf_X9_byteIn
set_option maxRecDepth 20000 in
theorem ggX9_sumOf_X9_more : GoodIn wsX9_sumOf wsX9_more := goodIn_r _ [10, 11] (by decide +kernel) (by decide +kernel)
set_option maxRecDepth 20000 in
theorem gX9_sumOf_X9_more : GoodIn wsX9_sumOf (va_wsS RX9 104 yX9_more wsX9_more) := goodIn_app (goodIn_of _ (by decide +kernel)) ggX9_sumOf_X9_more
set_option maxRecDepth 20000 in
theorem ggX9_write_X9_act : GoodIn wsX9_write wsX9_act := goodIn_r _ [5, 6, 7, 8, 9, 10, 16, 17, 18, 19, 20, 21, 22, 23, 24, 25, 26, 27, 28, 29, 30, 31, 32, 33, 34, 35, 36, 37, 38, 39, 40, 41, 42, 43, 44, 45, 46, 47, 48, 49, 50, 51, 52, 53] (by decide +kernel) (by decide +kernel)
set_option maxRecDepth 20000 in
theorem gX9_write_X9_act : GoodIn wsX9_write (wsV RX9 117 RX9 yX9_act wsX9_act) := goodIn_app (goodIn_of _ (by decide +kernel)) ggX9_write_X9_act
set_option maxRecDepth 20000 in
theorem ggX9_write_X9_set : GoodIn wsX9_write wsX9_set := goodIn_r _ [14, 15, 16, 17, 18, 19, 20, 21, 22, 23, 24, 25, 26, 27, 28, 29, 30, 31, 32, 33, 34, 35, 36, 37, 38, 39, 40, 41, 42, 43, 44, 45, 46, 47, 48, 49, 50, 51, 52, 53] (by decide +kernel) (by decide +kernel)
set_option maxRecDepth 20000 in
theorem gX9_write_X9_set : GoodIn wsX9_write (wsV RX9 83 RX9 yX9_set wsX9_set) := goodIn_app (goodIn_of _ (by decide +kernel)) ggX9_write_X9_set
set_option maxRecDepth 20000 in
theorem ggX9_erase_X9_act : GoodIn wsX9_erase wsX9_act := goodIn_r _ [5, 6, 7, 8, 9, 10, 16, 17, 18, 19, 20, 21, 22, 23, 24, 25, 26, 27, 28, 29, 30, 31, 32, 33, 34, 35, 36, 37, 38, 39, 40, 41, 42, 43, 44, 45, 46, 47, 48, 49, 50, 51, 52, 53] (by decide +kernel) (by decide +kernel)
set_option maxRecDepth 20000 in
theorem gX9_erase_X9_act : GoodIn wsX9_erase (wsV RX9 117 RX9 yX9_act wsX9_act) := goodIn_app (goodIn_of _ (by decide +kernel)) ggX9_erase_X9_act
set_option maxRecDepth 20000 in
theorem ggX9_erase_X9_set : GoodIn wsX9_erase wsX9_set := goodIn_r _ [14, 15, 16, 17, 18, 19, 20, 21, 22, 23, 24, 25, 26, 27, 28, 29, 30, 31, 32, 33, 34, 35, 36, 37, 38, 39, 40, 41, 42, 43, 44, 45, 46, 47, 48, 49, 50, 51, 52, 53] (by decide +kernel) (by decide +kernel)
set_option maxRecDepth 20000 in
theorem gX9_erase_X9_set : GoodIn wsX9_erase (wsV RX9 83 RX9 yX9_set wsX9_set) := goodIn_app (goodIn_of _ (by decide +kernel)) ggX9_erase_X9_set
set_option maxRecDepth 20000 in
theorem ggX9_freshSum_X9_more : GoodIn wsX9_freshSum wsX9_more := goodIn_r _ [6, 7] (by decide +kernel) (by decide +kernel)
set_option maxRecDepth 20000 in
theorem gX9_freshSum_X9_more : GoodIn wsX9_freshSum (va_wsS RX9 104 yX9_more wsX9_more) := goodIn_app (goodIn_of _ (by decide +kernel)) ggX9_freshSum_X9_more
set_option maxRecDepth 20000 in
theorem ggX9_layRow_X9_put : GoodIn wsX9_layRow wsX9_put := goodIn_r _ [6, 1, 7, 17, 18, 19, 20, 21, 22, 23, 24, 25, 26, 27, 28, 29, 30, 31, 32, 33, 34, 35, 36, 37, 38, 39, 40, 41, 42, 43, 44, 45, 46, 47, 48, 49, 50, 51, 52, 53, 54] (by decide +kernel) (by decide +kernel)
set_option maxRecDepth 20000 in
theorem gX9_layRow_X9_put : GoodIn wsX9_layRow (wsV RX9 121 RX9 yX9_put wsX9_put) := goodIn_app (goodIn_of _ (by decide +kernel)) ggX9_layRow_X9_put
set_option maxRecDepth 20000 in
theorem ggX9_layRow_X9_freshSum : GoodIn wsX9_layRow wsX9_freshSum := goodIn_r _ [11, 12, 1, 13, 14, 5, 15, 16, 17, 18, 19, 20, 21, 22, 23, 24, 25, 26, 27, 28, 29, 30, 31, 32, 33, 34, 35, 36, 37, 38, 39, 40, 41, 42, 43, 44, 45, 46, 47, 48, 49, 50, 51, 52, 53, 54] (by decide +kernel) (by decide +kernel)
set_option maxRecDepth 20000 in
theorem gX9_layRow_X9_freshSum : GoodIn wsX9_layRow (wsV RX9 124 RX9 yX9_freshSum wsX9_freshSum) := goodIn_app (goodIn_of _ (by decide +kernel)) ggX9_layRow_X9_freshSum
set_option maxRecDepth 20000 in
theorem ggX9_writeFresh_X9_write : GoodIn wsX9_writeFresh wsX9_write := goodIn_r _ [6, 7, 8, 9, 5, 10, 11, 12, 13, 14, 15, 16, 17, 18, 19, 20, 21, 22, 23, 24, 25, 26, 27, 28, 29, 30, 31, 32, 33, 34, 35, 36, 37, 38, 39, 40, 41, 42, 43, 44, 45, 46, 47, 48, 49, 50, 51, 52, 53, 54, 55, 56, 57, 58] (by decide +kernel) (by decide +kernel)
set_option maxRecDepth 20000 in
theorem gX9_writeFresh_X9_write : GoodIn wsX9_writeFresh (wsV RX9 128 RX9 yX9_write wsX9_write) := goodIn_app (goodIn_of _ (by decide +kernel)) ggX9_writeFresh_X9_write
set_option maxRecDepth 20000 in
theorem ggX9_stateOf_X9_byteIn : GoodIn wsX9_stateOf wsX9_byteIn := goodIn_r _ [5, 6, 31, 32, 33, 34, 35, 36, 37, 38, 39, 40, 41, 42, 43, 44, 45, 46, 47, 48, 49, 50, 51, 52, 53, 54, 55, 56, 57, 58, 59, 60, 61, 62, 63, 64, 65, 66, 67, 68] (by decide +kernel) (by decide +kernel)
set_option maxRecDepth 20000 in
theorem gX9_stateOf_X9_byteIn : GoodIn wsX9_stateOf (wsV RX9 96 RX9 yX9_byteIn wsX9_byteIn) := goodIn_app (goodIn_of _ (by decide +kernel)) ggX9_stateOf_X9_byteIn
set_option maxRecDepth 20000 in
theorem ggX9_stateOf_X9_number : GoodIn wsX9_stateOf wsX9_number := goodIn_r _ [10, 1, 2, 3, 4, 5, 6, 31, 32, 33, 34, 35, 36, 37, 38, 39, 40, 41, 42, 43, 44, 45, 46, 47, 48, 49, 50, 51, 52, 53, 54, 55, 56, 57, 58, 59, 60, 61, 62, 63, 64, 65, 66, 67, 68] (by decide +kernel) (by decide +kernel)
set_option maxRecDepth 20000 in
theorem gX9_stateOf_X9_number : GoodIn wsX9_stateOf (wsV RX9 131 RX9 yX9_number wsX9_number) := goodIn_app (goodIn_of _ (by decide +kernel)) ggX9_stateOf_X9_number
set_option maxRecDepth 20000 in
theorem ggX9_stateOf_X9_isLeafAt : GoodIn wsX9_stateOf wsX9_isLeafAt := goodIn_r _ [14, 1, 2, 3, 4, 5, 6, 15, 16, 17, 18, 19, 20, 21, 31, 32, 33, 34, 35, 36, 37, 38, 39, 40, 41, 42, 43, 44, 45, 46, 47, 48, 49, 50, 51, 52, 53, 54, 55, 56, 57, 58, 59, 60, 61, 62, 63, 64, 65, 66, 67, 68] (by decide +kernel) (by decide +kernel)
set_option maxRecDepth 20000 in
theorem gX9_stateOf_X9_isLeafAt : GoodIn wsX9_stateOf (wsV RX9 134 RX9 yX9_isLeafAt wsX9_isLeafAt) := goodIn_app (goodIn_of _ (by decide +kernel)) ggX9_stateOf_X9_isLeafAt
set_option maxRecDepth 20000 in
theorem ggX9_stateOf_X9_sumOf : GoodIn wsX9_stateOf wsX9_sumOf := goodIn_r _ [25, 26, 1, 2, 3, 4, 5, 6, 27, 28, 29, 30, 31, 32, 33, 34, 35, 36, 37, 38, 39, 40, 41, 42, 43, 44, 45, 46, 47, 48, 49, 50, 51, 52, 53, 54, 55, 56, 57, 58, 59, 60, 61, 62, 63, 64, 65, 66, 67, 68] (by decide +kernel) (by decide +kernel)
set_option maxRecDepth 20000 in
theorem gX9_stateOf_X9_sumOf : GoodIn wsX9_stateOf (wsV RX9 87 RX9 yX9_sumOf wsX9_sumOf) := goodIn_app (goodIn_of _ (by decide +kernel)) ggX9_stateOf_X9_sumOf
set_option maxRecDepth 20000 in
theorem ggX9_isLeafAt_X9_byteIn : GoodIn wsX9_isLeafAt wsX9_byteIn := goodIn_r _ [5, 6, 14, 15, 16, 17, 18, 19, 20, 21, 22, 23, 24, 25, 26, 27, 28, 29, 30, 31, 32, 33, 34, 35, 36, 37, 38, 39, 40, 41, 42, 43, 44, 45, 46, 47, 48, 49, 50, 51] (by decide +kernel) (by decide +kernel)
set_option maxRecDepth 20000 in
theorem gX9_isLeafAt_X9_byteIn : GoodIn wsX9_isLeafAt (wsV RX9 96 RX9 yX9_byteIn wsX9_byteIn) := goodIn_app (goodIn_of _ (by decide +kernel)) ggX9_isLeafAt_X9_byteIn
set_option maxRecDepth 20000 in
theorem ggX9_isLeafAt_X9_within : GoodIn wsX9_isLeafAt wsX9_within := goodIn_r _ [9] (by decide +kernel) (by decide +kernel)
set_option maxRecDepth 20000 in
theorem gX9_isLeafAt_X9_within : GoodIn wsX9_isLeafAt (va_wsS RX9 138 yX9_within wsX9_within) := goodIn_app (goodIn_of _ (by decide +kernel)) ggX9_isLeafAt_X9_within
set_option maxRecDepth 20000 in
theorem ggX9_isLeafAt_X9_isEmpty : GoodIn wsX9_isLeafAt wsX9_isEmpty := goodIn_r _ [13, 1, 2, 3, 4, 5, 6, 14, 15, 16, 17, 18, 19, 20, 21, 22, 23, 24, 25, 26, 27, 28, 29, 30, 31, 32, 33, 34, 35, 36, 37, 38, 39, 40, 41, 42, 43, 44, 45, 46, 47, 48, 49, 50, 51] (by decide +kernel) (by decide +kernel)
set_option maxRecDepth 20000 in
theorem gX9_isLeafAt_X9_isEmpty : GoodIn wsX9_isLeafAt (wsV RX9 142 RX9 yX9_isEmpty wsX9_isEmpty) := goodIn_app (goodIn_of _ (by decide +kernel)) ggX9_isLeafAt_X9_isEmpty
set_option maxRecDepth 20000 in
theorem ggX9_rowState_X9_rowPlace : GoodIn wsX9_rowState wsX9_rowPlace := goodIn_r _ [6] (by decide +kernel) (by decide +kernel)
set_option maxRecDepth 20000 in
theorem gX9_rowState_X9_rowPlace : GoodIn wsX9_rowState (wsV RX9 146 RX9 yX9_rowPlace wsX9_rowPlace) := goodIn_app (goodIn_of _ (by decide +kernel)) ggX9_rowState_X9_rowPlace
set_option maxRecDepth 20000 in
theorem ggX9_rowState_X9_stateOf : GoodIn wsX9_rowState wsX9_stateOf := goodIn_r _ [10, 11, 12, 13, 5, 14, 15, 16, 17, 18, 19, 20, 21, 22, 23, 24, 25, 26, 27, 28, 29, 30, 31, 32, 33, 34, 35, 36, 37, 38, 39, 40, 41, 42, 43, 44, 45, 46, 47, 48, 49, 50, 51, 52, 53, 54, 55, 56, 57, 58, 59, 60, 61, 62, 63, 64, 65, 66, 67, 68, 69, 70, 71, 72, 73, 74, 75, 76, 77] (by decide +kernel) (by decide +kernel)
set_option maxRecDepth 20000 in
theorem gX9_rowState_X9_stateOf : GoodIn wsX9_rowState (wsV RX9 150 RX9 yX9_stateOf wsX9_stateOf) := goodIn_app (goodIn_of _ (by decide +kernel)) ggX9_rowState_X9_stateOf
set_option maxRecDepth 20000 in
theorem ggX9_pageState_X9_pagePlace : GoodIn wsX9_pageState wsX9_pagePlace := goodIn_r _ [5] (by decide +kernel) (by decide +kernel)
set_option maxRecDepth 20000 in
theorem gX9_pageState_X9_pagePlace : GoodIn wsX9_pageState (wsV RX9 154 RX9 yX9_pagePlace wsX9_pagePlace) := goodIn_app (goodIn_of _ (by decide +kernel)) ggX9_pageState_X9_pagePlace
set_option maxRecDepth 20000 in
theorem ggX9_pageState_X9_stateOf : GoodIn wsX9_pageState wsX9_stateOf := goodIn_r _ [9, 10, 11, 12, 4, 13, 14, 15, 16, 17, 18, 19, 20, 21, 22, 23, 24, 25, 26, 27, 28, 29, 30, 31, 32, 33, 34, 35, 36, 37, 38, 39, 40, 41, 42, 43, 44, 45, 46, 47, 48, 49, 50, 51, 52, 53, 54, 55, 56, 57, 58, 59, 60, 61, 62, 63, 64, 65, 66, 67, 68, 69, 70, 71, 72, 73, 74, 75, 76] (by decide +kernel) (by decide +kernel)
set_option maxRecDepth 20000 in
theorem gX9_pageState_X9_stateOf : GoodIn wsX9_pageState (wsV RX9 150 RX9 yX9_stateOf wsX9_stateOf) := goodIn_app (goodIn_of _ (by decide +kernel)) ggX9_pageState_X9_stateOf
set_option maxRecDepth 20000 in
theorem ggX9_countRows_X9_rowState : GoodIn wsX9_countRows wsX9_rowState := goodIn_r _ [5, 6, 7, 8, 9, 4, 10, 11, 12, 13, 14, 15, 16, 17, 18, 19, 20, 21, 22, 23, 24, 25, 26, 27, 28, 29, 30, 31, 32, 33, 34, 35, 36, 37, 38, 39, 40, 41, 42, 43, 44, 45, 46, 47, 48, 49, 50, 51, 52, 53, 54, 55, 56, 57, 58, 59, 60, 61, 62, 63, 64, 65, 66, 67, 68, 69, 70, 71, 72, 73, 74, 75, 76, 77, 78, 79, 80, 81] (by decide +kernel) (by decide +kernel)
set_option maxRecDepth 20000 in
theorem gX9_countRows_X9_rowState : GoodIn wsX9_countRows (wsV RX9 160 RX9 yX9_rowState wsX9_rowState) := goodIn_app (goodIn_of _ (by decide +kernel)) ggX9_countRows_X9_rowState
set_option maxRecDepth 20000 in
theorem ggX9_badRows_X9_rows : GoodIn wsX9_badRows wsX9_rows := goodIn_r _ [5, 6, 49, 50, 51, 52, 53, 54, 55, 56, 57, 58, 59, 60, 61, 62, 63, 64, 65, 66, 67, 68, 69, 70, 71, 72, 73, 74, 75, 76, 77, 78, 79, 80, 81, 82, 83, 84, 85, 86] (by decide +kernel) (by decide +kernel)
set_option maxRecDepth 20000 in
theorem gX9_badRows_X9_rows : GoodIn wsX9_badRows (wsV RX9 163 RX9 yX9_rows wsX9_rows) := goodIn_app (goodIn_of _ (by decide +kernel)) ggX9_badRows_X9_rows
set_option maxRecDepth 20000 in
theorem ggX9_badRows_X9_rowState : GoodIn wsX9_badRows wsX9_rowState := goodIn_r _ [10, 11, 12, 13, 14, 4, 15, 16, 17, 18, 19, 20, 21, 22, 23, 24, 25, 26, 27, 28, 29, 30, 31, 32, 33, 34, 35, 36, 37, 38, 39, 40, 41, 42, 43, 44, 45, 46, 47, 48, 49, 50, 51, 52, 53, 54, 55, 56, 57, 58, 59, 60, 61, 62, 63, 64, 65, 66, 67, 68, 69, 70, 71, 72, 73, 74, 75, 76, 77, 78, 79, 80, 81, 82, 83, 84, 85, 86] (by decide +kernel) (by decide +kernel)
set_option maxRecDepth 20000 in
theorem gX9_badRows_X9_rowState : GoodIn wsX9_badRows (wsV RX9 160 RX9 yX9_rowState wsX9_rowState) := goodIn_app (goodIn_of _ (by decide +kernel)) ggX9_badRows_X9_rowState
set_option maxRecDepth 20000 in
theorem ggX9_kindOf_X9_rowPlace : GoodIn wsX9_kindOf wsX9_rowPlace := goodIn_r _ [6] (by decide +kernel) (by decide +kernel)
set_option maxRecDepth 20000 in
theorem gX9_kindOf_X9_rowPlace : GoodIn wsX9_kindOf (wsV RX9 146 RX9 yX9_rowPlace wsX9_rowPlace) := goodIn_app (goodIn_of _ (by decide +kernel)) ggX9_kindOf_X9_rowPlace
set_option maxRecDepth 20000 in
theorem ggX9_kindOf_X9_byteIn : GoodIn wsX9_kindOf wsX9_byteIn := goodIn_r _ [10, 11, 12, 13, 14, 15, 16, 17, 18, 19, 20, 21, 22, 23, 24, 25, 26, 27, 28, 29, 30, 31, 32, 33, 34, 35, 36, 37, 38, 39, 40, 41, 42, 43, 44, 45, 46, 47, 48, 49] (by decide +kernel) (by decide +kernel)
set_option maxRecDepth 20000 in
theorem gX9_kindOf_X9_byteIn : GoodIn wsX9_kindOf (wsV RX9 96 RX9 yX9_byteIn wsX9_byteIn) := goodIn_app (goodIn_of _ (by decide +kernel)) ggX9_kindOf_X9_byteIn
set_option maxRecDepth 20000 in
theorem ggX9_aOf_X9_rowPlace : GoodIn wsX9_aOf wsX9_rowPlace := goodIn_r _ [6] (by decide +kernel) (by decide +kernel)
set_option maxRecDepth 20000 in
theorem gX9_aOf_X9_rowPlace : GoodIn wsX9_aOf (wsV RX9 146 RX9 yX9_rowPlace wsX9_rowPlace) := goodIn_app (goodIn_of _ (by decide +kernel)) ggX9_aOf_X9_rowPlace
set_option maxRecDepth 20000 in
theorem ggX9_aOf_X9_number : GoodIn wsX9_aOf wsX9_number := goodIn_r _ [10, 11, 12, 13, 5, 14, 15, 16, 17, 18, 19, 20, 21, 22, 23, 24, 25, 26, 27, 28, 29, 30, 31, 32, 33, 34, 35, 36, 37, 38, 39, 40, 41, 42, 43, 44, 45, 46, 47, 48, 49, 50, 51, 52, 53] (by decide +kernel) (by decide +kernel)
set_option maxRecDepth 20000 in
theorem gX9_aOf_X9_number : GoodIn wsX9_aOf (wsV RX9 131 RX9 yX9_number wsX9_number) := goodIn_app (goodIn_of _ (by decide +kernel)) ggX9_aOf_X9_number
set_option maxRecDepth 20000 in
theorem ggX9_bOf_X9_rowPlace : GoodIn wsX9_bOf wsX9_rowPlace := goodIn_r _ [6] (by decide +kernel) (by decide +kernel)
set_option maxRecDepth 20000 in
theorem gX9_bOf_X9_rowPlace : GoodIn wsX9_bOf (wsV RX9 146 RX9 yX9_rowPlace wsX9_rowPlace) := goodIn_app (goodIn_of _ (by decide +kernel)) ggX9_bOf_X9_rowPlace
set_option maxRecDepth 20000 in
theorem ggX9_bOf_X9_number : GoodIn wsX9_bOf wsX9_number := goodIn_r _ [10, 11, 12, 13, 5, 14, 15, 16, 17, 18, 19, 20, 21, 22, 23, 24, 25, 26, 27, 28, 29, 30, 31, 32, 33, 34, 35, 36, 37, 38, 39, 40, 41, 42, 43, 44, 45, 46, 47, 48, 49, 50, 51, 52, 53] (by decide +kernel) (by decide +kernel)
set_option maxRecDepth 20000 in
theorem gX9_bOf_X9_number : GoodIn wsX9_bOf (wsV RX9 131 RX9 yX9_number wsX9_number) := goodIn_app (goodIn_of _ (by decide +kernel)) ggX9_bOf_X9_number
set_option maxRecDepth 20000 in
theorem ggX9_cOf_X9_rowPlace : GoodIn wsX9_cOf wsX9_rowPlace := goodIn_r _ [6] (by decide +kernel) (by decide +kernel)
set_option maxRecDepth 20000 in
theorem gX9_cOf_X9_rowPlace : GoodIn wsX9_cOf (wsV RX9 146 RX9 yX9_rowPlace wsX9_rowPlace) := goodIn_app (goodIn_of _ (by decide +kernel)) ggX9_cOf_X9_rowPlace
set_option maxRecDepth 20000 in
theorem ggX9_cOf_X9_number : GoodIn wsX9_cOf wsX9_number := goodIn_r _ [10, 11, 12, 13, 5, 14, 15, 16, 17, 18, 19, 20, 21, 22, 23, 24, 25, 26, 27, 28, 29, 30, 31, 32, 33, 34, 35, 36, 37, 38, 39, 40, 41, 42, 43, 44, 45, 46, 47, 48, 49, 50, 51, 52, 53] (by decide +kernel) (by decide +kernel)
set_option maxRecDepth 20000 in
theorem gX9_cOf_X9_number : GoodIn wsX9_cOf (wsV RX9 131 RX9 yX9_number wsX9_number) := goodIn_app (goodIn_of _ (by decide +kernel)) ggX9_cOf_X9_number
set_option maxRecDepth 20000 in
theorem ggX9_isEmpty_X9_byteIn : GoodIn wsX9_isEmpty wsX9_byteIn := goodIn_r _ [5, 6, 7, 8, 9, 10, 11, 12, 13, 14, 15, 16, 17, 18, 19, 20, 21, 22, 23, 24, 25, 26, 27, 28, 29, 30, 31, 32, 33, 34, 35, 36, 37, 38, 39, 40, 41, 42, 43, 44] (by decide +kernel) (by decide +kernel)
set_option maxRecDepth 20000 in
theorem gX9_isEmpty_X9_byteIn : GoodIn wsX9_isEmpty (wsV RX9 96 RX9 yX9_byteIn wsX9_byteIn) := goodIn_app (goodIn_of _ (by decide +kernel)) ggX9_isEmpty_X9_byteIn
