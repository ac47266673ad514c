abbrev cX0_start : ByteArray := prog_2_method_2_code
def yX0_start : MethodName := ⟨RX0, "start", "(I)J"⟩
abbrev cX0_add : ByteArray := prog_2_method_3_code
def yX0_add : MethodName := ⟨RX0, "add", "(JI)J"⟩
abbrev cX0_addInt : ByteArray := prog_2_method_4_code
def yX0_addInt : MethodName := ⟨RX0, "addInt", "(JI)J"⟩
abbrev cX0_addLong : ByteArray := prog_2_method_5_code
def yX0_addLong : MethodName := ⟨RX0, "addLong", "(JJ)J"⟩
abbrev cX0_sum : ByteArray := prog_2_method_6_code
def yX0_sum : MethodName := ⟨RX0, "sum", "([BIII)J"⟩
abbrev cX0_intAt : ByteArray := prog_2_method_7_code
def yX0_intAt : MethodName := ⟨RX0, "intAt", "([BI)I"⟩
abbrev cX0_longAt : ByteArray := prog_2_method_8_code
def yX0_longAt : MethodName := ⟨RX0, "longAt", "([BI)J"⟩
abbrev cX0_putInt : ByteArray := prog_2_method_9_code
def yX0_putInt : MethodName := ⟨RX0, "putInt", "([BII)V"⟩
abbrev cX0_putLong : ByteArray := prog_2_method_10_code
def yX0_putLong : MethodName := ⟨RX0, "putLong", "([BIJ)V"⟩
abbrev cX0_isZero : ByteArray := prog_2_method_11_code
def yX0_isZero : MethodName := ⟨RX0, "isZero", "([BII)Z"⟩
abbrev cX0_isSame : ByteArray := prog_2_method_12_code
def yX0_isSame : MethodName := ⟨RX0, "isSame", "([B[BII)Z"⟩
abbrev cX0_close : ByteArray := prog_2_method_13_code
def yX0_close : MethodName := ⟨RX0, "close", "([BII)V"⟩
abbrev cX0_judge : ByteArray := prog_2_method_14_code
def yX0_judge : MethodName := ⟨RX0, "judge", "([BIII)I"⟩
abbrev cX0_mends : ByteArray := prog_2_method_15_code
def yX0_mends : MethodName := ⟨RX0, "mends", "([B[BII)Z"⟩
def wsX0_start : List Cond := .code yX0_start cX0_start 1 (some .long) :: ([.constantLong RX0 9 (1000003)])
def wsX0_add : List Cond := .code yX0_add cX0_add 5 (some .long) :: ([.constantLong RX0 13 (-4417276706812531889)])
def wsX0_addInt : List Cond := .code yX0_addInt cX0_addInt 6 (some .long) :: ([.methodLink RX0 15 yX0_add, .static yX0_add, .initialized RX0, .code yX0_add cX0_add 5 (some .long), .constantLong RX0 13 (-4417276706812531889)])
def wsX0_addLong : List Cond := .code yX0_addLong cX0_addLong 7 (some .long) :: ([.methodLink RX0 15 yX0_add, .static yX0_add, .initialized RX0, .code yX0_add cX0_add 5 (some .long), .constantLong RX0 13 (-4417276706812531889)])
def wsX0_sum : List Cond := .code yX0_sum cX0_sum 7 (some .long) :: ([.methodLink RX0 19 yX0_start, .static yX0_start, .initialized RX0, .code yX0_start cX0_start 1 (some .long), .constantLong RX0 9 (1000003), .methodLink RX0 15 yX0_add, .static yX0_add, .code yX0_add cX0_add 5 (some .long), .constantLong RX0 13 (-4417276706812531889)])
def wsX0_intAt : List Cond := .code yX0_intAt cX0_intAt 4 (some .int) :: ([])
def wsX0_longAt : List Cond := .code yX0_longAt cX0_longAt 5 (some .long) :: ([])
def wsX0_putInt : List Cond := .code yX0_putInt cX0_putInt 4 none :: ([])
def wsX0_putLong : List Cond := .code yX0_putLong cX0_putLong 5 none :: ([])
def wsX0_isZero : List Cond := .code yX0_isZero cX0_isZero 4 (some .boolean) :: ([])
def wsX0_isSame : List Cond := .code yX0_isSame cX0_isSame 5 (some .boolean) :: ([])
def wsX0_close : List Cond := .code yX0_close cX0_close 3 none :: ([.methodLink RX0 23 yX0_sum, .static yX0_sum, .initialized RX0, .code yX0_sum cX0_sum 7 (some .long), .methodLink RX0 19 yX0_start, .static yX0_start, .code yX0_start cX0_start 1 (some .long), .constantLong RX0 9 (1000003), .methodLink RX0 15 yX0_add, .static yX0_add, .code yX0_add cX0_add 5 (some .long), .constantLong RX0 13 (-4417276706812531889), .methodLink RX0 27 yX0_putLong, .static yX0_putLong, .code yX0_putLong cX0_putLong 5 none])
def wsX0_judge : List Cond := .code yX0_judge cX0_judge 7 (some .int) :: ([.methodLink RX0 31 yX0_isZero, .static yX0_isZero, .initialized RX0, .code yX0_isZero cX0_isZero 4 (some .boolean), .methodLink RX0 35 yX0_longAt, .static yX0_longAt, .code yX0_longAt cX0_longAt 5 (some .long), .methodLink RX0 23 yX0_sum, .static yX0_sum, .code yX0_sum cX0_sum 7 (some .long), .methodLink RX0 19 yX0_start, .static yX0_start, .code yX0_start cX0_start 1 (some .long), .constantLong RX0 9 (1000003), .methodLink RX0 15 yX0_add, .static yX0_add, .code yX0_add cX0_add 5 (some .long), .constantLong RX0 13 (-4417276706812531889)])
def wsX0_mends : List Cond := .code yX0_mends cX0_mends 6 (some .boolean) :: ([.methodLink RX0 39 yX0_isSame, .static yX0_isSame, .initialized RX0, .code yX0_isSame cX0_isSame 5 (some .boolean)])
set_option maxRecDepth 20000 in
theorem ggX0_addInt_X0_add : GoodIn wsX0_addInt wsX0_add := goodIn_r _ [4, 5] (by decide +kernel) (by decide +kernel)
set_option maxRecDepth 20000 in
theorem gX0_addInt_X0_add : GoodIn wsX0_addInt (va_wsS RX0 15 yX0_add wsX0_add) := goodIn_app (goodIn_of _ (by decide +kernel)) ggX0_addInt_X0_add
set_option maxRecDepth 20000 in
theorem ggX0_addLong_X0_add : GoodIn wsX0_addLong wsX0_add := goodIn_r _ [4, 5] (by decide +kernel) (by decide +kernel)
set_option maxRecDepth 20000 in
theorem gX0_addLong_X0_add : GoodIn wsX0_addLong (va_wsS RX0 15 yX0_add wsX0_add) := goodIn_app (goodIn_of _ (by decide +kernel)) ggX0_addLong_X0_add
set_option maxRecDepth 20000 in
theorem ggX0_sum_X0_start : GoodIn wsX0_sum wsX0_start := goodIn_r _ [4, 5] (by decide +kernel) (by decide +kernel)
set_option maxRecDepth 20000 in
theorem gX0_sum_X0_start : GoodIn wsX0_sum (va_wsS RX0 19 yX0_start wsX0_start) := goodIn_app (goodIn_of _ (by decide +kernel)) ggX0_sum_X0_start
set_option maxRecDepth 20000 in
theorem ggX0_sum_X0_add : GoodIn wsX0_sum wsX0_add := goodIn_r _ [8, 9] (by decide +kernel) (by decide +kernel)
set_option maxRecDepth 20000 in
theorem gX0_sum_X0_add : GoodIn wsX0_sum (va_wsS RX0 15 yX0_add wsX0_add) := goodIn_app (goodIn_of _ (by decide +kernel)) ggX0_sum_X0_add
set_option maxRecDepth 20000 in
theorem ggX0_close_X0_sum : GoodIn wsX0_close wsX0_sum := goodIn_r _ [4, 5, 6, 3, 7, 8, 9, 10, 11, 12] (by decide +kernel) (by decide +kernel)
set_option maxRecDepth 20000 in
theorem gX0_close_X0_sum : GoodIn wsX0_close (va_wsS RX0 23 yX0_sum wsX0_sum) := goodIn_app (goodIn_of _ (by decide +kernel)) ggX0_close_X0_sum
set_option maxRecDepth 20000 in
theorem ggX0_close_X0_putLong : GoodIn wsX0_close wsX0_putLong := goodIn_r _ [15] (by decide +kernel) (by decide +kernel)
set_option maxRecDepth 20000 in
theorem gX0_close_X0_putLong : GoodIn wsX0_close (va_wsS RX0 27 yX0_putLong wsX0_putLong) := goodIn_app (goodIn_of _ (by decide +kernel)) ggX0_close_X0_putLong
set_option maxRecDepth 20000 in
theorem ggX0_judge_X0_isZero : GoodIn wsX0_judge wsX0_isZero := goodIn_r _ [4] (by decide +kernel) (by decide +kernel)
set_option maxRecDepth 20000 in
theorem gX0_judge_X0_isZero : GoodIn wsX0_judge (va_wsS RX0 31 yX0_isZero wsX0_isZero) := goodIn_app (goodIn_of _ (by decide +kernel)) ggX0_judge_X0_isZero
set_option maxRecDepth 20000 in
theorem ggX0_judge_X0_longAt : GoodIn wsX0_judge wsX0_longAt := goodIn_r _ [7] (by decide +kernel) (by decide +kernel)
set_option maxRecDepth 20000 in
theorem gX0_judge_X0_longAt : GoodIn wsX0_judge (va_wsS RX0 35 yX0_longAt wsX0_longAt) := goodIn_app (goodIn_of _ (by decide +kernel)) ggX0_judge_X0_longAt
set_option maxRecDepth 20000 in
theorem ggX0_judge_X0_sum : GoodIn wsX0_judge wsX0_sum := goodIn_r _ [10, 11, 12, 3, 13, 14, 15, 16, 17, 18] (by decide +kernel) (by decide +kernel)
set_option maxRecDepth 20000 in
theorem gX0_judge_X0_sum : GoodIn wsX0_judge (va_wsS RX0 23 yX0_sum wsX0_sum) := goodIn_app (goodIn_of _ (by decide +kernel)) ggX0_judge_X0_sum
set_option maxRecDepth 20000 in
theorem ggX0_mends_X0_isSame : GoodIn wsX0_mends wsX0_isSame := goodIn_r _ [4] (by decide +kernel) (by decide +kernel)
set_option maxRecDepth 20000 in
theorem gX0_mends_X0_isSame : GoodIn wsX0_mends (va_wsS RX0 39 yX0_isSame wsX0_isSame) := goodIn_app (goodIn_of _ (by decide +kernel)) ggX0_mends_X0_isSame
