theorem gwx : ((kt_at RX11 119 "java/util/NoSuchElementException" "java/lang/RuntimeException" 13 prog_23_method_4_code ["java/lang/Exception"]).filter goodWord).all goodWord = true := by decide +kernel
theorem gwX0 : wsX00.all goodWord = true := by decide +kernel
theorem gwX1 : wsX10.all goodWord = true := by decide +kernel
theorem gwX2 : wsX20.all goodWord = true := by decide +kernel
theorem gwX3 : wsX30.all goodWord = true := by decide +kernel
theorem gwX4 : wsX40.all goodWord = true := by decide +kernel
theorem gwX5 : wsX50.all goodWord = true := by decide +kernel
theorem gwX6 : wsX60.all goodWord = true := by decide +kernel
theorem gwX7 : wsX70.all goodWord = true := by decide +kernel
theorem gwX8 : wsX80.all goodWord = true := by decide +kernel
theorem gwX9 : wsX90.all goodWord = true := by decide +kernel
theorem gwX10 : wsX100.all goodWord = true := by decide +kernel
theorem gwX11 : wsX110.all goodWord = true := by decide +kernel
theorem gwX12 : wsX120.all goodWord = true := by decide +kernel
def wsX9_init : List Cond := .code yX9_init cX9_init 1 none :: ([Cond.methodLink RX9 3 objectInit, Cond.instanceMethod objectInit, Cond.code objectInit ⟨#[0xb1]⟩ 1 none, Cond.arrayClass .int, Cond.fieldLink RX9 11 "OnlyHalves$Text" "signs" "[I"] ++ wsX90)
def wsX2_init : List Cond := .code yX2_init cX2_init 3 none :: ([Cond.methodLink RX2 3 objectInit, Cond.instanceMethod objectInit, Cond.code objectInit ⟨#[0xb1]⟩ 1 none, Cond.fieldLink RX2 9 "OnlyHalves$Market" "luck" "I", Cond.fieldLink RX2 15 "OnlyHalves$Market" "values" "[I", Cond.fieldLink RX2 19 "OnlyHalves$Market" "kinds" "[I"] ++ wsX20)
def wsX5_init : List Cond := .code yX5_init cX5_init 1 none :: ([Cond.methodLink RX5 3 objectInit, Cond.instanceMethod objectInit, Cond.code objectInit ⟨#[0xb1]⟩ 1 none, Cond.arrayClass .int, Cond.fieldLink RX5 11 "OnlyHalves$Rule" "code" "[I", Cond.fieldLink RX5 15 "OnlyHalves$Rule" "stack" "[I"] ++ wsX50)
def wsX10_init : List Cond := .code yX10_init cX10_init 2 none :: ([Cond.methodLink RX10 3 objectInit, Cond.instanceMethod objectInit, Cond.code objectInit ⟨#[0xb1]⟩ 1 none, Cond.fieldLink RX10 9 "OnlyHalves$Trade" "rule" "LOnlyHalves$Rule;"] ++ wsX100)
def wsX6_init : List Cond := .code yX6_init cX6_init 1 none :: ([Cond.methodLink RX6 3 objectInit, Cond.instanceMethod objectInit, Cond.code objectInit ⟨#[0xb1]⟩ 1 none, Cond.arrayClass .int, Cond.fieldLink RX6 11 "OnlyHalves$RuleReader" "code" "[I"] ++ wsX60)
def wsX3_init : List Cond := .code yX3_init cX3_init 1 none :: ([Cond.methodLink RX3 3 objectInit, Cond.instanceMethod objectInit, Cond.code objectInit ⟨#[0xb1]⟩ 1 none])
def wsX4_init : List Cond := .code yX4_init cX4_init 1 none :: ([Cond.methodLink RX4 1 objectInit, Cond.instanceMethod objectInit, Cond.code objectInit ⟨#[0xb1]⟩ 1 none, Cond.arrayClass .long, Cond.fieldLink RX4 9 "OnlyHalves$Past" "held" "[J", Cond.fieldLink RX4 13 "OnlyHalves$Past" "lowCoin" "[J", Cond.fieldLink RX4 16 "OnlyHalves$Past" "highCoin" "[J"] ++ wsX40)
def wsX1_init : List Cond := .code yX1_init cX1_init 1 none :: ([Cond.methodLink RX1 1 objectInit, Cond.instanceMethod objectInit, Cond.code objectInit ⟨#[0xb1]⟩ 1 none])
def wsX0_init : List Cond := .code yX0_init cX0_init 1 none :: ([Cond.methodLink RX0 3 objectInit, Cond.instanceMethod objectInit, Cond.code objectInit ⟨#[0xb1]⟩ 1 none, Cond.arrayClass .int, Cond.fieldLink RX0 9 "OnlyHalves$Book" "things" "[I", Cond.fieldLink RX0 15 "OnlyHalves$Book" "pairs" "[I"] ++ wsX00)
def wsX11_init_r1 : List Cond := [Cond.methodLink RX11 1 objectInit, Cond.instanceMethod objectInit, Cond.code objectInit ⟨#[0xb1]⟩ 1 none, Cond.arrayClass .int, Cond.classLink RX11 9 RX9, Cond.instantiable RX9 4, Cond.initialized RX9, Cond.instanceMethod yX9_init, Cond.fieldLink RX11 12 "OnlyHalves" "text" "LOnlyHalves$Text;", Cond.classLink RX11 16 RX2, Cond.instantiable RX2 12, Cond.initialized RX2, Cond.methodLink RX11 18 yX2_init, Cond.instanceMethod yX2_init, Cond.fieldLink RX11 21 "OnlyHalves" "market" "LOnlyHalves$Market;", Cond.fieldLink RX11 25 "OnlyHalves" "then" "LOnlyHalves$Market;", Cond.fieldLink RX11 28 "OnlyHalves" "kept" "[LOnlyHalves$Market;", Cond.arrayClass .boolean, Cond.fieldLink RX11 32 "OnlyHalves" "isKept" "[Z", Cond.classLink RX11 36 RX5, Cond.instantiable RX5 8, Cond.initialized RX5, Cond.instanceMethod yX5_init, Cond.fieldLink RX11 39 "OnlyHalves" "rule" "LOnlyHalves$Rule;", Cond.classLink RX11 43 RX10, Cond.instantiable RX10 9, Cond.initialized RX10, Cond.methodLink RX11 45 yX10_init, Cond.instanceMethod yX10_init, Cond.fieldLink RX11 48 "OnlyHalves" "trade" "LOnlyHalves$Trade;", Cond.classLink RX11 52 RX6, Cond.instantiable RX6 2, Cond.initialized RX6, Cond.instanceMethod yX6_init, Cond.fieldLink RX11 55 "OnlyHalves" "ruleReader" "LOnlyHalves$RuleReader;", Cond.classLink RX11 59 RX3, Cond.instantiable RX3 3, Cond.initialized RX3, Cond.instanceMethod yX3_init, Cond.fieldLink RX11 62 "OnlyHalves" "marketReader" "LOnlyHalves$MarketReader;"]
def wsX11_init_r2 : List Cond := [Cond.classLink RX11 66 RX4, Cond.instantiable RX4 5, Cond.initialized RX4, Cond.instanceMethod yX4_init, Cond.fieldLink RX11 69 "OnlyHalves" "past" "LOnlyHalves$Past;", Cond.classLink RX11 73 RX1, Cond.instantiable RX1 4, Cond.initialized RX1, Cond.instanceMethod yX1_init, Cond.fieldLink RX11 76 "OnlyHalves" "plan" "LOnlyHalves$Day;", Cond.classLink RX11 80 RX0, Cond.instantiable RX0 5, Cond.initialized RX0, Cond.instanceMethod yX0_init, Cond.fieldLink RX11 83 "OnlyHalves" "book" "LOnlyHalves$Book;", Cond.fieldLink RX11 87 "OnlyHalves" "numbers" "[I", Cond.code yX9_init cX9_init 1 none, Cond.methodLink RX9 3 objectInit, Cond.fieldLink RX9 11 "OnlyHalves$Text" "signs" "[I", Cond.code yX2_init cX2_init 3 none, Cond.methodLink RX2 3 objectInit, Cond.fieldLink RX2 9 "OnlyHalves$Market" "luck" "I", Cond.fieldLink RX2 15 "OnlyHalves$Market" "values" "[I", Cond.fieldLink RX2 19 "OnlyHalves$Market" "kinds" "[I", Cond.code yX5_init cX5_init 1 none, Cond.methodLink RX5 3 objectInit, Cond.fieldLink RX5 11 "OnlyHalves$Rule" "code" "[I", Cond.fieldLink RX5 15 "OnlyHalves$Rule" "stack" "[I", Cond.code yX10_init cX10_init 2 none, Cond.methodLink RX10 3 objectInit, Cond.fieldLink RX10 9 "OnlyHalves$Trade" "rule" "LOnlyHalves$Rule;", Cond.code yX6_init cX6_init 1 none, Cond.methodLink RX6 3 objectInit, Cond.fieldLink RX6 11 "OnlyHalves$RuleReader" "code" "[I", Cond.code yX3_init cX3_init 1 none, Cond.methodLink RX3 3 objectInit, Cond.code yX4_init cX4_init 1 none, Cond.methodLink RX4 1 objectInit, Cond.arrayClass .long, Cond.fieldLink RX4 9 "OnlyHalves$Past" "held" "[J"]
def wsX11_init_r3 : List Cond := [Cond.fieldLink RX4 13 "OnlyHalves$Past" "lowCoin" "[J", Cond.fieldLink RX4 16 "OnlyHalves$Past" "highCoin" "[J", Cond.code yX1_init cX1_init 1 none, Cond.methodLink RX1 1 objectInit, Cond.code yX0_init cX0_init 1 none, Cond.methodLink RX0 3 objectInit, Cond.fieldLink RX0 9 "OnlyHalves$Book" "things" "[I", Cond.fieldLink RX0 15 "OnlyHalves$Book" "pairs" "[I"]
def wsX11_init : List Cond := .code yX11_init cX11_init 4 none :: ((wsX11_init_r1 ++ (wsX11_init_r2 ++ wsX11_init_r3)) ++ wsX00 ++ wsX10 ++ wsX100 ++ wsX110 ++ wsX20 ++ wsX30 ++ wsX40 ++ wsX50 ++ wsX60 ++ wsX90)
def wsX12_init : List Cond := .code yX12_init cX12_init 1 none :: ([Cond.methodLink RX12 3 objectInit, Cond.instanceMethod objectInit, Cond.code objectInit ⟨#[0xb1]⟩ 1 none, Cond.arrayClass .int, Cond.fieldLink RX12 9 "OnlyHalvesModel" "coin" "[I", Cond.fieldLink RX12 13 "OnlyHalvesModel" "is" "[I", Cond.arrayClass .boolean, Cond.fieldLink RX12 16 "OnlyHalvesModel" "tookPart" "[Z", Cond.fieldLink RX12 20 "OnlyHalvesModel" "value" "[I", Cond.fieldLink RX12 23 "OnlyHalvesModel" "kind" "[I", Cond.fieldLink RX12 26 "OnlyHalvesModel" "holder" "[I", Cond.fieldLink RX12 29 "OnlyHalvesModel" "laws" "[I", Cond.fieldLink RX12 32 "OnlyHalvesModel" "random" "I", Cond.arrayClass .byte, Cond.fieldLink RX12 36 "OnlyHalvesModel" "text" "[B", Cond.fieldLink RX12 40 "OnlyHalvesModel" "row" "[I", Cond.fieldLink RX12 43 "OnlyHalvesModel" "newPairs" "[I", Cond.fieldLink RX12 46 "OnlyHalvesModel" "rule" "[B", Cond.fieldLink RX12 49 "OnlyHalvesModel" "askedOne" "I", Cond.fieldLink RX12 52 "OnlyHalvesModel" "undos" "[I", Cond.fieldLink RX12 55 "OnlyHalvesModel" "by" "[I", Cond.constant RX12 58 (60000), Cond.fieldLink RX12 59 "OnlyHalvesModel" "holderIn" "[I", Cond.fieldLink RX12 62 "OnlyHalvesModel" "coinIn" "[I", Cond.fieldLink RX12 65 "OnlyHalvesModel" "depth" "[I", Cond.fieldLink RX12 68 "OnlyHalvesModel" "parent" "[I", Cond.fieldLink RX12 71 "OnlyHalvesModel" "act" "[I", Cond.fieldLink RX12 74 "OnlyHalvesModel" "table" "[I", Cond.fieldLink RX12 77 "OnlyHalvesModel" "saved" "[I", Cond.fieldLink RX12 80 "OnlyHalvesModel" "way" "[I", Cond.fieldLink RX12 83 "OnlyHalvesModel" "got" "[I", Cond.fieldLink RX12 86 "OnlyHalvesModel" "rank" "[I", Cond.fieldLink RX12 89 "OnlyHalvesModel" "uses" "[I", Cond.fieldLink RX12 92 "OnlyHalvesModel" "kept" "[I", Cond.fieldLink RX12 95 "OnlyHalvesModel" "isKept" "[Z", Cond.fieldLink RX12 98 "OnlyHalvesModel" "keptCame" "[I"] ++ wsX120)
def wsX2_hasPerson : List Cond := .code yX2_hasPerson cX2_hasPerson 2 (some .boolean) :: ([Cond.fieldLink RX2 22 "OnlyHalves$Market" "people" "I"] ++ wsX20)
def wsX11_of : List Cond := .code yX11_of cX11_of 3 (some .int) :: ([Cond.fieldLink RX11 21 "OnlyHalves" "market" "LOnlyHalves$Market;", Cond.classLink RX11 115 "java/util/NoSuchElementException", Cond.initialized "java/util/NoSuchElementException", Cond.methodLink RX11 112 yX2_hasPerson, Cond.instanceMethod yX2_hasPerson, Cond.selects RX2 yX2_hasPerson yX2_hasPerson, Cond.initialized RX2, Cond.code yX2_hasPerson cX2_hasPerson 2 (some .boolean), Cond.fieldLink RX2 22 "OnlyHalves$Market" "people" "I"] ++ wsX110 ++ wsX20 ++ (kt_at RX11 119 "java/util/NoSuchElementException" "java/lang/RuntimeException" 13 prog_23_method_4_code ["java/lang/Exception"]).filter goodWord)
def wsL_of : List Cond := .codeWith yL_of cL_of 5 (some .int) [(0, 10, 13, 13)] :: ([Cond.classLink RL 13 "java/util/NoSuchElementException", Cond.methodLink RL 7 yX11_of, Cond.instanceMethod yX11_of, Cond.selects RX11 yX11_of yX11_of, Cond.initialized RX11, Cond.code yX11_of cX11_of 3 (some .int), Cond.fieldLink RX11 21 "OnlyHalves" "market" "LOnlyHalves$Market;", Cond.classLink RX11 115 "java/util/NoSuchElementException", Cond.initialized "java/util/NoSuchElementException", Cond.methodLink RX11 112 yX2_hasPerson, Cond.instanceMethod yX2_hasPerson, Cond.selects RX2 yX2_hasPerson yX2_hasPerson, Cond.initialized RX2, Cond.code yX2_hasPerson cX2_hasPerson 2 (some .boolean), Cond.fieldLink RX2 22 "OnlyHalves$Market" "people" "I"] ++ wsX110 ++ wsX20 ++ (kt_at RX11 119 "java/util/NoSuchElementException" "java/lang/RuntimeException" 13 prog_23_method_4_code ["java/lang/Exception"]).filter goodWord)
def wsX2_hasThing : List Cond := .code yX2_hasThing cX2_hasThing 2 (some .boolean) :: ([Cond.fieldLink RX2 25 "OnlyHalves$Market" "things" "I"] ++ wsX20)
def wsX11_thing : List Cond := .code yX11_thing cX11_thing 3 (some .int) :: ([Cond.fieldLink RX11 21 "OnlyHalves" "market" "LOnlyHalves$Market;", Cond.classLink RX11 115 "java/util/NoSuchElementException", Cond.initialized "java/util/NoSuchElementException", Cond.methodLink RX11 141 yX2_hasThing, Cond.instanceMethod yX2_hasThing, Cond.selects RX2 yX2_hasThing yX2_hasThing, Cond.initialized RX2, Cond.code yX2_hasThing cX2_hasThing 2 (some .boolean), Cond.fieldLink RX2 25 "OnlyHalves$Market" "things" "I"] ++ wsX110 ++ wsX20 ++ (kt_at RX11 119 "java/util/NoSuchElementException" "java/lang/RuntimeException" 13 prog_23_method_4_code ["java/lang/Exception"]).filter goodWord)
def wsL_thing : List Cond := .codeWith yL_thing cL_thing 5 (some .int) [(0, 10, 13, 13)] :: ([Cond.classLink RL 13 "java/util/NoSuchElementException", Cond.methodLink RL 15 yX11_thing, Cond.instanceMethod yX11_thing, Cond.selects RX11 yX11_thing yX11_thing, Cond.initialized RX11, Cond.code yX11_thing cX11_thing 3 (some .int), Cond.fieldLink RX11 21 "OnlyHalves" "market" "LOnlyHalves$Market;", Cond.classLink RX11 115 "java/util/NoSuchElementException", Cond.initialized "java/util/NoSuchElementException", Cond.methodLink RX11 141 yX2_hasThing, Cond.instanceMethod yX2_hasThing, Cond.selects RX2 yX2_hasThing yX2_hasThing, Cond.initialized RX2, Cond.code yX2_hasThing cX2_hasThing 2 (some .boolean), Cond.fieldLink RX2 25 "OnlyHalves$Market" "things" "I"] ++ wsX110 ++ wsX20 ++ (kt_at RX11 119 "java/util/NoSuchElementException" "java/lang/RuntimeException" 13 prog_23_method_4_code ["java/lang/Exception"]).filter goodWord)
def wsX11_row : List Cond := .code yX11_row cX11_row 2 (some .int) :: ([Cond.classLink RX11 115 "java/util/NoSuchElementException", Cond.initialized "java/util/NoSuchElementException", Cond.fieldLink RX11 420 "OnlyHalves" "numbersTold" "I"] ++ wsX110 ++ (kt_at RX11 119 "java/util/NoSuchElementException" "java/lang/RuntimeException" 13 prog_23_method_4_code ["java/lang/Exception"]).filter goodWord)
def wsL_row : List Cond := .codeWith yL_row cL_row 4 (some .int) [(0, 9, 12, 13)] :: ([Cond.classLink RL 13 "java/util/NoSuchElementException", Cond.methodLink RL 18 yX11_row, Cond.instanceMethod yX11_row, Cond.selects RX11 yX11_row yX11_row, Cond.initialized RX11, Cond.code yX11_row cX11_row 2 (some .int), Cond.classLink RX11 115 "java/util/NoSuchElementException", Cond.initialized "java/util/NoSuchElementException", Cond.fieldLink RX11 420 "OnlyHalves" "numbersTold" "I"] ++ wsX110 ++ (kt_at RX11 119 "java/util/NoSuchElementException" "java/lang/RuntimeException" 13 prog_23_method_4_code ["java/lang/Exception"]).filter goodWord)
def wsX9_addFour : List Cond := .code yX9_addFour cX9_addFour 3 (some .boolean) :: ([Cond.fieldLink RX9 15 "OnlyHalves$Text" "length" "I", Cond.fieldLink RX9 11 "OnlyHalves$Text" "signs" "[I"] ++ wsX90)
def wsX9_length : List Cond := .code yX9_length cX9_length 1 (some .int) :: ([Cond.fieldLink RX9 15 "OnlyHalves$Text" "length" "I"] ++ wsX90)
def wsX11_sign : List Cond := .code yX11_sign cX11_sign 2 (some .int) :: ([Cond.fieldLink RX11 12 "OnlyHalves" "text" "LOnlyHalves$Text;", Cond.methodLink RX11 91 yX9_addFour, Cond.instanceMethod yX9_addFour, Cond.selects RX9 yX9_addFour yX9_addFour, Cond.initialized RX9, Cond.code yX9_addFour cX9_addFour 3 (some .boolean), Cond.fieldLink RX9 15 "OnlyHalves$Text" "length" "I", Cond.fieldLink RX9 11 "OnlyHalves$Text" "signs" "[I", Cond.methodLink RX11 95 yX9_length, Cond.instanceMethod yX9_length, Cond.selects RX9 yX9_length yX9_length, Cond.code yX9_length cX9_length 1 (some .int)] ++ wsX110 ++ wsX90)
def wsX12_sign : List Cond := .code yX12_sign cX12_sign 3 (some .int) :: ([Cond.fieldLink RX12 101 "OnlyHalvesModel" "thrown" "I", Cond.fieldLink RX12 117 "OnlyHalvesModel" "typed" "I", Cond.fieldLink RX12 36 "OnlyHalvesModel" "text" "[B"] ++ wsX120)
def wsX9_cut : List Cond := .code yX9_cut cX9_cut 2 (some .boolean) :: ([Cond.fieldLink RX9 15 "OnlyHalves$Text" "length" "I"] ++ wsX90)
def wsX11_end : List Cond := .code yX11_end cX11_end 2 (some .boolean) :: ([Cond.fieldLink RX11 12 "OnlyHalves" "text" "LOnlyHalves$Text;", Cond.methodLink RX11 99 yX9_cut, Cond.instanceMethod yX9_cut, Cond.selects RX9 yX9_cut yX9_cut, Cond.initialized RX9, Cond.code yX9_cut cX9_cut 2 (some .boolean), Cond.fieldLink RX9 15 "OnlyHalves$Text" "length" "I"] ++ wsX110 ++ wsX90)
def wsX12_in : List Cond := .code yX12_in cX12_in 3 (some .boolean) :: ([])
def wsX12_end : List Cond := .code yX12_end cX12_end 2 (some .boolean) :: ([Cond.fieldLink RX12 101 "OnlyHalvesModel" "thrown" "I", Cond.fieldLink RX12 117 "OnlyHalvesModel" "typed" "I", Cond.methodLink RX12 110 yX12_in, Cond.static yX12_in, Cond.initialized RX12, Cond.code yX12_in cX12_in 3 (some .boolean)] ++ wsX120)
def wsX3_read : List Cond := .code yX3_read cX3_read 3 (some .int) :: ([Cond.methodLink RX3 9 yX9_length, Cond.instanceMethod yX9_length, Cond.selects RX9 yX9_length yX9_length, Cond.initialized RX9, Cond.code yX9_length cX9_length 1 (some .int), Cond.fieldLink RX9 15 "OnlyHalves$Text" "length" "I"] ++ wsX90)
def wsX11_market : List Cond := .code yX11_market cX11_market 2 (some .int) :: ([Cond.fieldLink RX11 62 "OnlyHalves" "marketReader" "LOnlyHalves$MarketReader;", Cond.fieldLink RX11 12 "OnlyHalves" "text" "LOnlyHalves$Text;", Cond.fieldLink RX11 21 "OnlyHalves" "market" "LOnlyHalves$Market;", Cond.methodLink RX11 102 yX3_read, Cond.instanceMethod yX3_read, Cond.selects RX3 yX3_read yX3_read, Cond.initialized RX3, Cond.code yX3_read cX3_read 3 (some .int), Cond.methodLink RX3 9 yX9_length, Cond.instanceMethod yX9_length, Cond.selects RX9 yX9_length yX9_length, Cond.initialized RX9, Cond.code yX9_length cX9_length 1 (some .int), Cond.fieldLink RX9 15 "OnlyHalves$Text" "length" "I", Cond.methodLink RX11 99 yX9_cut, Cond.instanceMethod yX9_cut, Cond.selects RX9 yX9_cut yX9_cut, Cond.code yX9_cut cX9_cut 2 (some .boolean)] ++ wsX110 ++ wsX90)
def wsX12_begin : List Cond := .code yX12_begin cX12_begin 4 none :: ([Cond.fieldLink RX12 120 "OnlyHalvesModel" "read" "[B", Cond.fieldLink RX12 123 "OnlyHalvesModel" "size" "I", Cond.fieldLink RX12 126 "OnlyHalvesModel" "top" "I", Cond.fieldLink RX12 129 "OnlyHalvesModel" "at" "I", Cond.fieldLink RX12 132 "OnlyHalvesModel" "wrong" "I"] ++ wsX120)
def wsX12_market : List Cond := .code yX12_market cX12_market 8 (some .int) :: ([Cond.fieldLink RX12 101 "OnlyHalvesModel" "thrown" "I", Cond.fieldLink RX12 36 "OnlyHalvesModel" "text" "[B", Cond.fieldLink RX12 117 "OnlyHalvesModel" "typed" "I", Cond.fieldLink RX12 123 "OnlyHalvesModel" "size" "I", Cond.methodLink RX12 151 yX12_begin, Cond.instanceMethod yX12_begin, Cond.selects RX12 yX12_begin yX12_begin, Cond.initialized RX12, Cond.code yX12_begin cX12_begin 4 none, Cond.fieldLink RX12 120 "OnlyHalvesModel" "read" "[B", Cond.fieldLink RX12 126 "OnlyHalvesModel" "top" "I", Cond.fieldLink RX12 129 "OnlyHalvesModel" "at" "I", Cond.fieldLink RX12 132 "OnlyHalvesModel" "wrong" "I"] ++ wsX120)
def wsX9_startReading : List Cond := .code yX9_startReading cX9_startReading 2 none :: ([Cond.fieldLink RX9 19 "OnlyHalves$Text" "at" "I", Cond.fieldLink RX9 15 "OnlyHalves$Text" "length" "I", Cond.methodLink RX9 22 Lib.Math.min.name, Cond.static Lib.Math.min.name, Cond.initialized "java/lang/Math", Cond.code Lib.Math.min.name Lib.Math.min.code 2 (some .int), Cond.fieldLink RX9 28 "OnlyHalves$Text" "limit" "I"] ++ wsX90)
def wsX5_take : List Cond := .code yX5_take cX5_take 4 none :: ([Cond.fieldLink RX5 18 "OnlyHalves$Rule" "size" "I"] ++ wsX50)
def wsX6_read : List Cond := .code yX6_read cX6_read 4 (some .int) :: ([Cond.fieldLink RX6 17 "OnlyHalves$RuleReader" "size" "I", Cond.fieldLink RX6 11 "OnlyHalves$RuleReader" "code" "[I", Cond.methodLink RX6 21 yX9_startReading, Cond.instanceMethod yX9_startReading, Cond.selects RX9 yX9_startReading yX9_startReading, Cond.initialized RX9, Cond.code yX9_startReading cX9_startReading 2 none, Cond.fieldLink RX9 19 "OnlyHalves$Text" "at" "I", Cond.fieldLink RX9 15 "OnlyHalves$Text" "length" "I", Cond.methodLink RX9 22 Lib.Math.min.name, Cond.static Lib.Math.min.name, Cond.initialized "java/lang/Math", Cond.code Lib.Math.min.name Lib.Math.min.code 2 (some .int), Cond.fieldLink RX9 28 "OnlyHalves$Text" "limit" "I", Cond.methodLink RX6 27 yX9_length, Cond.instanceMethod yX9_length, Cond.selects RX9 yX9_length yX9_length, Cond.code yX9_length cX9_length 1 (some .int), Cond.methodLink RX6 45 yX5_take, Cond.instanceMethod yX5_take, Cond.selects RX5 yX5_take yX5_take, Cond.initialized RX5, Cond.code yX5_take cX5_take 4 none, Cond.fieldLink RX5 18 "OnlyHalves$Rule" "size" "I"] ++ wsX60 ++ wsX90 ++ wsX50)
def wsX11_rule : List Cond := .code yX11_rule cX11_rule 2 (some .int) :: ([Cond.fieldLink RX11 55 "OnlyHalves" "ruleReader" "LOnlyHalves$RuleReader;", Cond.fieldLink RX11 12 "OnlyHalves" "text" "LOnlyHalves$Text;", Cond.fieldLink RX11 39 "OnlyHalves" "rule" "LOnlyHalves$Rule;", Cond.methodLink RX11 109 yX6_read, Cond.instanceMethod yX6_read, Cond.selects RX6 yX6_read yX6_read, Cond.initialized RX6, Cond.code yX6_read cX6_read 4 (some .int), Cond.fieldLink RX6 17 "OnlyHalves$RuleReader" "size" "I", Cond.fieldLink RX6 11 "OnlyHalves$RuleReader" "code" "[I", Cond.methodLink RX6 21 yX9_startReading, Cond.instanceMethod yX9_startReading, Cond.selects RX9 yX9_startReading yX9_startReading, Cond.initialized RX9, Cond.code yX9_startReading cX9_startReading 2 none, Cond.fieldLink RX9 19 "OnlyHalves$Text" "at" "I", Cond.fieldLink RX9 15 "OnlyHalves$Text" "length" "I", Cond.methodLink RX9 22 Lib.Math.min.name, Cond.static Lib.Math.min.name, Cond.initialized "java/lang/Math", Cond.code Lib.Math.min.name Lib.Math.min.code 2 (some .int), Cond.fieldLink RX9 28 "OnlyHalves$Text" "limit" "I", Cond.methodLink RX6 27 yX9_length, Cond.instanceMethod yX9_length, Cond.selects RX9 yX9_length yX9_length, Cond.code yX9_length cX9_length 1 (some .int), Cond.methodLink RX6 45 yX5_take, Cond.instanceMethod yX5_take, Cond.selects RX5 yX5_take yX5_take, Cond.initialized RX5, Cond.code yX5_take cX5_take 4 none, Cond.fieldLink RX5 18 "OnlyHalves$Rule" "size" "I", Cond.methodLink RX11 99 yX9_cut, Cond.instanceMethod yX9_cut, Cond.selects RX9 yX9_cut yX9_cut, Cond.code yX9_cut cX9_cut 2 (some .boolean)] ++ wsX110 ++ wsX60 ++ wsX90 ++ wsX50)
def wsX12_rule : List Cond := .code yX12_rule cX12_rule 3 (some .int) :: ([Cond.fieldLink RX12 101 "OnlyHalvesModel" "thrown" "I", Cond.fieldLink RX12 117 "OnlyHalvesModel" "typed" "I", Cond.fieldLink RX12 36 "OnlyHalvesModel" "text" "[B", Cond.fieldLink RX12 49 "OnlyHalvesModel" "askedOne" "I", Cond.fieldLink RX12 205 "OnlyHalvesModel" "ruleSize" "I", Cond.methodLink RX12 151 yX12_begin, Cond.instanceMethod yX12_begin, Cond.selects RX12 yX12_begin yX12_begin, Cond.initialized RX12, Cond.code yX12_begin cX12_begin 4 none, Cond.fieldLink RX12 120 "OnlyHalvesModel" "read" "[B", Cond.fieldLink RX12 123 "OnlyHalvesModel" "size" "I", Cond.fieldLink RX12 126 "OnlyHalvesModel" "top" "I", Cond.fieldLink RX12 129 "OnlyHalvesModel" "at" "I", Cond.fieldLink RX12 132 "OnlyHalvesModel" "wrong" "I"] ++ wsX120)
def wsX12_isOne : List Cond := .code yX12_isOne cX12_isOne 2 (some .boolean) :: ([Cond.fieldLink RX12 107 "OnlyHalvesModel" "people" "I", Cond.methodLink RX12 110 yX12_in, Cond.static yX12_in, Cond.initialized RX12, Cond.code yX12_in cX12_in 3 (some .boolean)] ++ wsX120)
def wsX12_lost : List Cond := .code yX12_lost cX12_lost 1 (some .int) :: ([Cond.fieldLink RX12 101 "OnlyHalvesModel" "thrown" "I"] ++ wsX120)
def wsX12_of : List Cond := .code yX12_of cX12_of 3 (some .int) :: ([Cond.fieldLink RX12 101 "OnlyHalvesModel" "thrown" "I", Cond.methodLink RX12 223 yX12_isOne, Cond.instanceMethod yX12_isOne, Cond.selects RX12 yX12_isOne yX12_isOne, Cond.initialized RX12, Cond.code yX12_isOne cX12_isOne 2 (some .boolean), Cond.fieldLink RX12 107 "OnlyHalvesModel" "people" "I", Cond.methodLink RX12 110 yX12_in, Cond.static yX12_in, Cond.code yX12_in cX12_in 3 (some .boolean), Cond.methodLink RX12 227 yX12_lost, Cond.instanceMethod yX12_lost, Cond.selects RX12 yX12_lost yX12_lost, Cond.code yX12_lost cX12_lost 1 (some .int)] ++ wsX120)
def wsX12_thrown : List Cond := .code yX12_thrown cX12_thrown 1 (some .int) :: ([Cond.fieldLink RX12 101 "OnlyHalvesModel" "thrown" "I"] ++ wsX120)
def wsX12_isThing : List Cond := .code yX12_isThing cX12_isThing 2 (some .boolean) :: ([Cond.fieldLink RX12 114 "OnlyHalvesModel" "things" "I", Cond.methodLink RX12 110 yX12_in, Cond.static yX12_in, Cond.initialized RX12, Cond.code yX12_in cX12_in 3 (some .boolean)] ++ wsX120)
def wsX12_thing : List Cond := .code yX12_thing cX12_thing 3 (some .int) :: ([Cond.fieldLink RX12 101 "OnlyHalvesModel" "thrown" "I", Cond.methodLink RX12 239 yX12_isThing, Cond.instanceMethod yX12_isThing, Cond.selects RX12 yX12_isThing yX12_isThing, Cond.initialized RX12, Cond.code yX12_isThing cX12_isThing 2 (some .boolean), Cond.fieldLink RX12 114 "OnlyHalvesModel" "things" "I", Cond.methodLink RX12 110 yX12_in, Cond.static yX12_in, Cond.code yX12_in cX12_in 3 (some .boolean), Cond.methodLink RX12 227 yX12_lost, Cond.instanceMethod yX12_lost, Cond.selects RX12 yX12_lost yX12_lost, Cond.code yX12_lost cX12_lost 1 (some .int)] ++ wsX120)
def wsX11_areTwo : List Cond := .code yX11_areTwo cX11_areTwo 3 (some .boolean) :: ([Cond.fieldLink RX11 21 "OnlyHalves" "market" "LOnlyHalves$Market;", Cond.methodLink RX11 112 yX2_hasPerson, Cond.instanceMethod yX2_hasPerson, Cond.selects RX2 yX2_hasPerson yX2_hasPerson, Cond.initialized RX2, Cond.code yX2_hasPerson cX2_hasPerson 2 (some .boolean), Cond.fieldLink RX2 22 "OnlyHalves$Market" "people" "I"] ++ wsX110 ++ wsX20)
def wsX11_between : List Cond := .code yX11_between cX11_between 5 (some .int) :: ([Cond.methodLink RX11 160 yX11_areTwo, Cond.instanceMethod yX11_areTwo, Cond.selects RX11 yX11_areTwo yX11_areTwo, Cond.initialized RX11, Cond.code yX11_areTwo cX11_areTwo 3 (some .boolean), Cond.fieldLink RX11 21 "OnlyHalves" "market" "LOnlyHalves$Market;", Cond.methodLink RX11 112 yX2_hasPerson, Cond.instanceMethod yX2_hasPerson, Cond.selects RX2 yX2_hasPerson yX2_hasPerson, Cond.initialized RX2, Cond.code yX2_hasPerson cX2_hasPerson 2 (some .boolean), Cond.fieldLink RX2 22 "OnlyHalves$Market" "people" "I"] ++ wsX110 ++ wsX20)
def wsX12_between : List Cond := .code yX12_between cX12_between 5 (some .int) :: ([Cond.fieldLink RX12 101 "OnlyHalvesModel" "thrown" "I", Cond.methodLink RX12 223 yX12_isOne, Cond.instanceMethod yX12_isOne, Cond.selects RX12 yX12_isOne yX12_isOne, Cond.initialized RX12, Cond.code yX12_isOne cX12_isOne 2 (some .boolean), Cond.fieldLink RX12 107 "OnlyHalvesModel" "people" "I", Cond.methodLink RX12 110 yX12_in, Cond.static yX12_in, Cond.code yX12_in cX12_in 3 (some .boolean)] ++ wsX120)
def wsX11_law : List Cond := .code yX11_law cX11_law 4 (some .int) :: ([Cond.fieldLink RX11 48 "OnlyHalves" "trade" "LOnlyHalves$Trade;", Cond.fieldLink RX11 175 "OnlyHalves$Trade" "fee" "I", Cond.fieldLink RX11 172 "OnlyHalves$Trade" "sort" "I"] ++ wsX100 ++ wsX110)
def wsX12_law : List Cond := .code yX12_law cX12_law 4 (some .int) :: ([Cond.fieldLink RX12 101 "OnlyHalvesModel" "thrown" "I", Cond.fieldLink RX12 29 "OnlyHalvesModel" "laws" "[I", Cond.methodLink RX12 110 yX12_in, Cond.static yX12_in, Cond.initialized RX12, Cond.code yX12_in cX12_in 3 (some .boolean)] ++ wsX120)
def wsX2_setAllValues : List Cond := .code yX2_setAllValues cX2_setAllValues 3 none :: ([Cond.fieldLink RX2 25 "OnlyHalves$Market" "things" "I"] ++ wsX20)
def wsX11_sheet : List Cond := .code yX11_sheet cX11_sheet 8 (some .int) :: ([Cond.fieldLink RX11 21 "OnlyHalves" "market" "LOnlyHalves$Market;", Cond.fieldLink RX11 182 "OnlyHalves$Market" "things" "I", Cond.methodLink RX11 178 yX2_setAllValues, Cond.instanceMethod yX2_setAllValues, Cond.selects RX2 yX2_setAllValues yX2_setAllValues, Cond.initialized RX2, Cond.code yX2_setAllValues cX2_setAllValues 3 none, Cond.fieldLink RX2 25 "OnlyHalves$Market" "things" "I"] ++ wsX110 ++ wsX20)
def wsX12_sheet : List Cond := .code yX12_sheet cX12_sheet 9 (some .int) :: ([Cond.fieldLink RX12 101 "OnlyHalvesModel" "thrown" "I", Cond.fieldLink RX12 114 "OnlyHalvesModel" "things" "I", Cond.methodLink RX12 110 yX12_in, Cond.static yX12_in, Cond.initialized RX12, Cond.code yX12_in cX12_in 3 (some .boolean)] ++ wsX120)
def wsX2_halves : List Cond := .code yX2_halves cX2_halves 1 (some .int) :: ([Cond.fieldLink RX2 25 "OnlyHalves$Market" "things" "I"] ++ wsX20)
def wsX2_hasHalf : List Cond := .code yX2_hasHalf cX2_hasHalf 2 (some .boolean) :: ([Cond.methodLink RX2 50 yX2_halves, Cond.instanceMethod yX2_halves, Cond.selects RX2 yX2_halves yX2_halves, Cond.initialized RX2, Cond.code yX2_halves cX2_halves 1 (some .int), Cond.fieldLink RX2 25 "OnlyHalves$Market" "things" "I"] ++ wsX20)
def wsX11_areHalfAndPerson : List Cond := .code yX11_areHalfAndPerson cX11_areHalfAndPerson 3 (some .boolean) :: ([Cond.fieldLink RX11 21 "OnlyHalves" "market" "LOnlyHalves$Market;", Cond.methodLink RX11 435 yX2_hasHalf, Cond.instanceMethod yX2_hasHalf, Cond.selects RX2 yX2_hasHalf yX2_hasHalf, Cond.initialized RX2, Cond.code yX2_hasHalf cX2_hasHalf 2 (some .boolean), Cond.methodLink RX2 50 yX2_halves, Cond.instanceMethod yX2_halves, Cond.selects RX2 yX2_halves yX2_halves, Cond.code yX2_halves cX2_halves 1 (some .int), Cond.fieldLink RX2 25 "OnlyHalves$Market" "things" "I"] ++ wsX110 ++ wsX20)
def wsX11_worth : List Cond := .code yX11_worth cX11_worth 3 (some .int) :: ([Cond.methodLink RX11 192 yX11_areHalfAndPerson, Cond.instanceMethod yX11_areHalfAndPerson, Cond.selects RX11 yX11_areHalfAndPerson yX11_areHalfAndPerson, Cond.initialized RX11, Cond.code yX11_areHalfAndPerson cX11_areHalfAndPerson 3 (some .boolean), Cond.fieldLink RX11 21 "OnlyHalves" "market" "LOnlyHalves$Market;", Cond.methodLink RX11 435 yX2_hasHalf, Cond.instanceMethod yX2_hasHalf, Cond.selects RX2 yX2_hasHalf yX2_hasHalf, Cond.initialized RX2, Cond.code yX2_hasHalf cX2_hasHalf 2 (some .boolean), Cond.methodLink RX2 50 yX2_halves, Cond.instanceMethod yX2_halves, Cond.selects RX2 yX2_halves yX2_halves, Cond.code yX2_halves cX2_halves 1 (some .int), Cond.fieldLink RX2 25 "OnlyHalves$Market" "things" "I"] ++ wsX110 ++ wsX20)
def wsX12_isHalf : List Cond := .code yX12_isHalf cX12_isHalf 2 (some .boolean) :: ([Cond.fieldLink RX12 114 "OnlyHalvesModel" "things" "I", Cond.methodLink RX12 110 yX12_in, Cond.static yX12_in, Cond.initialized RX12, Cond.code yX12_in cX12_in 3 (some .boolean)] ++ wsX120)
def wsX12_worth : List Cond := .code yX12_worth cX12_worth 3 (some .int) :: ([Cond.fieldLink RX12 101 "OnlyHalvesModel" "thrown" "I", Cond.methodLink RX12 242 yX12_isHalf, Cond.instanceMethod yX12_isHalf, Cond.selects RX12 yX12_isHalf yX12_isHalf, Cond.initialized RX12, Cond.code yX12_isHalf cX12_isHalf 2 (some .boolean), Cond.fieldLink RX12 114 "OnlyHalvesModel" "things" "I", Cond.methodLink RX12 110 yX12_in, Cond.static yX12_in, Cond.code yX12_in cX12_in 3 (some .boolean)] ++ wsX120)
def wsX11_can : List Cond := .code yX11_can cX11_can 4 (some .int) :: ([Cond.methodLink RX11 192 yX11_areHalfAndPerson, Cond.instanceMethod yX11_areHalfAndPerson, Cond.selects RX11 yX11_areHalfAndPerson yX11_areHalfAndPerson, Cond.initialized RX11, Cond.code yX11_areHalfAndPerson cX11_areHalfAndPerson 3 (some .boolean), Cond.fieldLink RX11 21 "OnlyHalves" "market" "LOnlyHalves$Market;", Cond.methodLink RX11 435 yX2_hasHalf, Cond.instanceMethod yX2_hasHalf, Cond.selects RX2 yX2_hasHalf yX2_hasHalf, Cond.initialized RX2, Cond.code yX2_hasHalf cX2_hasHalf 2 (some .boolean), Cond.methodLink RX2 50 yX2_halves, Cond.instanceMethod yX2_halves, Cond.selects RX2 yX2_halves yX2_halves, Cond.code yX2_halves cX2_halves 1 (some .int), Cond.fieldLink RX2 25 "OnlyHalves$Market" "things" "I"] ++ wsX110 ++ wsX20)
def wsX12_can : List Cond := .code yX12_can cX12_can 4 (some .int) :: ([Cond.fieldLink RX12 101 "OnlyHalvesModel" "thrown" "I", Cond.methodLink RX12 242 yX12_isHalf, Cond.instanceMethod yX12_isHalf, Cond.selects RX12 yX12_isHalf yX12_isHalf, Cond.initialized RX12, Cond.code yX12_isHalf cX12_isHalf 2 (some .boolean), Cond.fieldLink RX12 114 "OnlyHalvesModel" "things" "I", Cond.methodLink RX12 110 yX12_in, Cond.static yX12_in, Cond.code yX12_in cX12_in 3 (some .boolean)] ++ wsX120)
def wsX11_sell : List Cond := .code yX11_sell cX11_sell 3 (some .int) :: ([Cond.methodLink RX11 192 yX11_areHalfAndPerson, Cond.instanceMethod yX11_areHalfAndPerson, Cond.selects RX11 yX11_areHalfAndPerson yX11_areHalfAndPerson, Cond.initialized RX11, Cond.code yX11_areHalfAndPerson cX11_areHalfAndPerson 3 (some .boolean), Cond.fieldLink RX11 21 "OnlyHalves" "market" "LOnlyHalves$Market;", Cond.methodLink RX11 435 yX2_hasHalf, Cond.instanceMethod yX2_hasHalf, Cond.selects RX2 yX2_hasHalf yX2_hasHalf, Cond.initialized RX2, Cond.code yX2_hasHalf cX2_hasHalf 2 (some .boolean), Cond.methodLink RX2 50 yX2_halves, Cond.instanceMethod yX2_halves, Cond.selects RX2 yX2_halves yX2_halves, Cond.code yX2_halves cX2_halves 1 (some .int), Cond.fieldLink RX2 25 "OnlyHalves$Market" "things" "I"] ++ wsX110 ++ wsX20)
def wsX12_sell : List Cond := .code yX12_sell cX12_sell 3 (some .int) :: ([Cond.fieldLink RX12 101 "OnlyHalvesModel" "thrown" "I", Cond.methodLink RX12 242 yX12_isHalf, Cond.instanceMethod yX12_isHalf, Cond.selects RX12 yX12_isHalf yX12_isHalf, Cond.initialized RX12, Cond.code yX12_isHalf cX12_isHalf 2 (some .boolean), Cond.fieldLink RX12 114 "OnlyHalvesModel" "things" "I", Cond.methodLink RX12 110 yX12_in, Cond.static yX12_in, Cond.code yX12_in cX12_in 3 (some .boolean)] ++ wsX120)
def wsX4_takeBack : List Cond := .code yX4_takeBack cX4_takeBack 3 (some .boolean) :: ([Cond.fieldLink RX4 23 "OnlyHalves$Past" "next" "I", Cond.fieldLink RX4 19 "OnlyHalves$Past" "size" "I"] ++ wsX40)
def wsX11_undo : List Cond := .code yX11_undo cX11_undo 1 (some .int) :: ([Cond.fieldLink RX11 69 "OnlyHalves" "past" "LOnlyHalves$Past;", Cond.fieldLink RX11 21 "OnlyHalves" "market" "LOnlyHalves$Market;", Cond.methodLink RX11 224 yX4_takeBack, Cond.instanceMethod yX4_takeBack, Cond.selects RX4 yX4_takeBack yX4_takeBack, Cond.initialized RX4, Cond.code yX4_takeBack cX4_takeBack 3 (some .boolean), Cond.fieldLink RX4 23 "OnlyHalves$Past" "next" "I", Cond.fieldLink RX4 19 "OnlyHalves$Past" "size" "I"] ++ wsX110 ++ wsX40)
def wsX12_undo : List Cond := .code yX12_undo cX12_undo 1 (some .int) :: ([Cond.fieldLink RX12 101 "OnlyHalvesModel" "thrown" "I", Cond.fieldLink RX12 174 "OnlyHalvesModel" "undoMany" "I"] ++ wsX120)
def wsX2_copy : List Cond := .code yX2_copy cX2_copy 2 none :: ([Cond.fieldLink RX2 22 "OnlyHalves$Market" "people" "I", Cond.fieldLink RX2 25 "OnlyHalves$Market" "things" "I", Cond.fieldLink RX2 28 "OnlyHalves$Market" "held" "J", Cond.fieldLink RX2 32 "OnlyHalves$Market" "lowCoin" "J", Cond.fieldLink RX2 35 "OnlyHalves$Market" "highCoin" "J", Cond.fieldLink RX2 38 "OnlyHalves$Market" "friends" "J", Cond.fieldLink RX2 41 "OnlyHalves$Market" "foes" "J", Cond.fieldLink RX2 44 "OnlyHalves$Market" "took" "I", Cond.fieldLink RX2 47 "OnlyHalves$Market" "today" "I", Cond.fieldLink RX2 9 "OnlyHalves$Market" "luck" "I"] ++ wsX20)
def wsX11_clearRow : List Cond := .code yX11_clearRow cX11_clearRow 1 none :: ([Cond.fieldLink RX11 420 "OnlyHalves" "numbersTold" "I"] ++ wsX110)
def wsX11_tell : List Cond := .code yX11_tell cX11_tell 2 none :: ([Cond.fieldLink RX11 420 "OnlyHalves" "numbersTold" "I", Cond.fieldLink RX11 87 "OnlyHalves" "numbers" "[I"] ++ wsX110)
def wsX10_makeTold : List Cond := .code yX10_makeTold cX10_makeTold 5 (some .boolean) :: ([Cond.methodLink RX10 53 yX2_hasHalf, Cond.instanceMethod yX2_hasHalf, Cond.selects RX2 yX2_hasHalf yX2_hasHalf, Cond.initialized RX2, Cond.code yX2_hasHalf cX2_hasHalf 2 (some .boolean), Cond.methodLink RX2 50 yX2_halves, Cond.instanceMethod yX2_halves, Cond.selects RX2 yX2_halves yX2_halves, Cond.code yX2_halves cX2_halves 1 (some .int), Cond.fieldLink RX2 25 "OnlyHalves$Market" "things" "I"] ++ wsX20)
def wsX11_judge_r1 : List Cond := [Cond.fieldLink RX11 25 "OnlyHalves" "then" "LOnlyHalves$Market;", Cond.fieldLink RX11 21 "OnlyHalves" "market" "LOnlyHalves$Market;", Cond.fieldLink RX11 48 "OnlyHalves" "trade" "LOnlyHalves$Trade;", Cond.methodLink RX11 231 yX2_copy, Cond.instanceMethod yX2_copy, Cond.selects RX2 yX2_copy yX2_copy, Cond.initialized RX2, Cond.code yX2_copy cX2_copy 2 none, Cond.fieldLink RX2 22 "OnlyHalves$Market" "people" "I", Cond.fieldLink RX2 25 "OnlyHalves$Market" "things" "I", Cond.fieldLink RX2 28 "OnlyHalves$Market" "held" "J", Cond.fieldLink RX2 32 "OnlyHalves$Market" "lowCoin" "J", Cond.fieldLink RX2 35 "OnlyHalves$Market" "highCoin" "J", Cond.fieldLink RX2 38 "OnlyHalves$Market" "friends" "J", Cond.fieldLink RX2 41 "OnlyHalves$Market" "foes" "J", Cond.fieldLink RX2 44 "OnlyHalves$Market" "took" "I", Cond.fieldLink RX2 47 "OnlyHalves$Market" "today" "I", Cond.fieldLink RX2 9 "OnlyHalves$Market" "luck" "I", Cond.methodLink RX11 206 yX11_clearRow, Cond.instanceMethod yX11_clearRow, Cond.selects RX11 yX11_clearRow yX11_clearRow, Cond.initialized RX11, Cond.code yX11_clearRow cX11_clearRow 1 none, Cond.fieldLink RX11 420 "OnlyHalves" "numbersTold" "I", Cond.methodLink RX11 212 yX11_tell, Cond.instanceMethod yX11_tell, Cond.selects RX11 yX11_tell yX11_tell, Cond.code yX11_tell cX11_tell 2 none, Cond.fieldLink RX11 87 "OnlyHalves" "numbers" "[I", Cond.methodLink RX11 235 yX10_makeTold, Cond.instanceMethod yX10_makeTold, Cond.selects RX10 yX10_makeTold yX10_makeTold, Cond.initialized RX10, Cond.code yX10_makeTold cX10_makeTold 5 (some .boolean), Cond.methodLink RX10 53 yX2_hasHalf, Cond.instanceMethod yX2_hasHalf, Cond.selects RX2 yX2_hasHalf yX2_hasHalf, Cond.code yX2_hasHalf cX2_hasHalf 2 (some .boolean), Cond.methodLink RX2 50 yX2_halves, Cond.instanceMethod yX2_halves]
def wsX11_judge_r2 : List Cond := [Cond.selects RX2 yX2_halves yX2_halves, Cond.code yX2_halves cX2_halves 1 (some .int)]
def wsX11_judge : List Cond := .code yX11_judge cX11_judge 6 (some .int) :: ((wsX11_judge_r1 ++ wsX11_judge_r2) ++ wsX110 ++ wsX20)
def wsX12_lay : List Cond := .code yX12_lay cX12_lay 4 none :: ([Cond.fieldLink RX12 9 "OnlyHalvesModel" "coin" "[I", Cond.fieldLink RX12 26 "OnlyHalvesModel" "holder" "[I"] ++ wsX120)
def wsX12_bring : List Cond := .code yX12_bring cX12_bring 4 none :: ([Cond.fieldLink RX12 107 "OnlyHalvesModel" "people" "I", Cond.fieldLink RX12 114 "OnlyHalvesModel" "things" "I"] ++ wsX120)
def wsX12_tell : List Cond := .code yX12_tell cX12_tell 2 none :: ([Cond.fieldLink RX12 40 "OnlyHalvesModel" "row" "[I", Cond.fieldLink RX12 104 "OnlyHalvesModel" "rowMany" "I"] ++ wsX120)
def wsX12_judge : List Cond := .code yX12_judge cX12_judge 9 (some .int) :: ([Cond.fieldLink RX12 101 "OnlyHalvesModel" "thrown" "I", Cond.fieldLink RX12 55 "OnlyHalvesModel" "by" "[I", Cond.fieldLink RX12 104 "OnlyHalvesModel" "rowMany" "I", Cond.methodLink RX12 110 yX12_in, Cond.static yX12_in, Cond.initialized RX12, Cond.code yX12_in cX12_in 3 (some .boolean), Cond.methodLink RX12 267 yX12_lay, Cond.instanceMethod yX12_lay, Cond.selects RX12 yX12_lay yX12_lay, Cond.code yX12_lay cX12_lay 4 none, Cond.fieldLink RX12 9 "OnlyHalvesModel" "coin" "[I", Cond.fieldLink RX12 26 "OnlyHalvesModel" "holder" "[I", Cond.methodLink RX12 277 yX12_bring, Cond.instanceMethod yX12_bring, Cond.selects RX12 yX12_bring yX12_bring, Cond.code yX12_bring cX12_bring 4 none, Cond.fieldLink RX12 107 "OnlyHalvesModel" "people" "I", Cond.fieldLink RX12 114 "OnlyHalvesModel" "things" "I", Cond.methodLink RX12 264 yX12_tell, Cond.instanceMethod yX12_tell, Cond.selects RX12 yX12_tell yX12_tell, Cond.code yX12_tell cX12_tell 2 none, Cond.fieldLink RX12 40 "OnlyHalvesModel" "row" "[I", Cond.methodLink RX12 242 yX12_isHalf, Cond.instanceMethod yX12_isHalf, Cond.selects RX12 yX12_isHalf yX12_isHalf, Cond.code yX12_isHalf cX12_isHalf 2 (some .boolean)] ++ wsX120)
def wsX10_survey : List Cond := .code yX10_survey cX10_survey 4 none :: ([Cond.fieldLink RX10 72 "OnlyHalves$Trade" "found" "I", Cond.fieldLink RX10 75 "OnlyHalves$Trade" "best" "I", Cond.fieldLink RX10 78 "OnlyHalves$Trade" "bestBy" "I", Cond.methodLink RX10 81 yX2_halves, Cond.instanceMethod yX2_halves, Cond.selects RX2 yX2_halves yX2_halves, Cond.initialized RX2, Cond.code yX2_halves cX2_halves 1 (some .int), Cond.fieldLink RX2 25 "OnlyHalves$Market" "things" "I"] ++ wsX100 ++ wsX20)
def wsX11_open : List Cond := .code yX11_open cX11_open 1 (some .int) :: ([Cond.fieldLink RX11 48 "OnlyHalves" "trade" "LOnlyHalves$Trade;", Cond.fieldLink RX11 21 "OnlyHalves" "market" "LOnlyHalves$Market;", Cond.fieldLink RX11 242 "OnlyHalves$Trade" "found" "I", Cond.methodLink RX11 239 yX10_survey, Cond.instanceMethod yX10_survey, Cond.selects RX10 yX10_survey yX10_survey, Cond.initialized RX10, Cond.code yX10_survey cX10_survey 4 none, Cond.fieldLink RX10 72 "OnlyHalves$Trade" "found" "I", Cond.fieldLink RX10 75 "OnlyHalves$Trade" "best" "I", Cond.fieldLink RX10 78 "OnlyHalves$Trade" "bestBy" "I", Cond.methodLink RX10 81 yX2_halves, Cond.instanceMethod yX2_halves, Cond.selects RX2 yX2_halves yX2_halves, Cond.initialized RX2, Cond.code yX2_halves cX2_halves 1 (some .int), Cond.fieldLink RX2 25 "OnlyHalves$Market" "things" "I", Cond.methodLink RX11 206 yX11_clearRow, Cond.instanceMethod yX11_clearRow, Cond.selects RX11 yX11_clearRow yX11_clearRow, Cond.initialized RX11, Cond.code yX11_clearRow cX11_clearRow 1 none, Cond.fieldLink RX11 420 "OnlyHalves" "numbersTold" "I"] ++ wsX100 ++ wsX110 ++ wsX20)
def wsX12_findOpen : List Cond := .code yX12_findOpen cX12_findOpen 3 none :: ([Cond.fieldLink RX12 280 "OnlyHalvesModel" "openMany" "I", Cond.fieldLink RX12 283 "OnlyHalvesModel" "openBest" "I", Cond.fieldLink RX12 286 "OnlyHalvesModel" "openMost" "I", Cond.fieldLink RX12 114 "OnlyHalvesModel" "things" "I"] ++ wsX120)
def wsX12_open : List Cond := .code yX12_open cX12_open 1 (some .int) :: ([Cond.fieldLink RX12 101 "OnlyHalvesModel" "thrown" "I", Cond.fieldLink RX12 104 "OnlyHalvesModel" "rowMany" "I", Cond.fieldLink RX12 280 "OnlyHalvesModel" "openMany" "I", Cond.methodLink RX12 289 yX12_findOpen, Cond.instanceMethod yX12_findOpen, Cond.selects RX12 yX12_findOpen yX12_findOpen, Cond.initialized RX12, Cond.code yX12_findOpen cX12_findOpen 3 none, Cond.fieldLink RX12 283 "OnlyHalvesModel" "openBest" "I", Cond.fieldLink RX12 286 "OnlyHalvesModel" "openMost" "I", Cond.fieldLink RX12 114 "OnlyHalvesModel" "things" "I"] ++ wsX120)
def wsX11_run : List Cond := .code yX11_run cX11_run 6 (some .int) :: ([Cond.fieldLink RX11 48 "OnlyHalves" "trade" "LOnlyHalves$Trade;", Cond.fieldLink RX11 21 "OnlyHalves" "market" "LOnlyHalves$Market;", Cond.fieldLink RX11 242 "OnlyHalves$Trade" "found" "I", Cond.methodLink RX11 239 yX10_survey, Cond.instanceMethod yX10_survey, Cond.selects RX10 yX10_survey yX10_survey, Cond.initialized RX10, Cond.code yX10_survey cX10_survey 4 none, Cond.fieldLink RX10 72 "OnlyHalves$Trade" "found" "I", Cond.fieldLink RX10 75 "OnlyHalves$Trade" "best" "I", Cond.fieldLink RX10 78 "OnlyHalves$Trade" "bestBy" "I", Cond.methodLink RX10 81 yX2_halves, Cond.instanceMethod yX2_halves, Cond.selects RX2 yX2_halves yX2_halves, Cond.initialized RX2, Cond.code yX2_halves cX2_halves 1 (some .int), Cond.fieldLink RX2 25 "OnlyHalves$Market" "things" "I", Cond.methodLink RX11 206 yX11_clearRow, Cond.instanceMethod yX11_clearRow, Cond.selects RX11 yX11_clearRow yX11_clearRow, Cond.initialized RX11, Cond.code yX11_clearRow cX11_clearRow 1 none, Cond.fieldLink RX11 420 "OnlyHalves" "numbersTold" "I", Cond.methodLink RX11 212 yX11_tell, Cond.instanceMethod yX11_tell, Cond.selects RX11 yX11_tell yX11_tell, Cond.code yX11_tell cX11_tell 2 none, Cond.fieldLink RX11 87 "OnlyHalves" "numbers" "[I"] ++ wsX100 ++ wsX110 ++ wsX20)
def wsX12_run : List Cond := .code yX12_run cX12_run 6 (some .int) :: ([Cond.fieldLink RX12 101 "OnlyHalvesModel" "thrown" "I", Cond.fieldLink RX12 104 "OnlyHalvesModel" "rowMany" "I", Cond.fieldLink RX12 280 "OnlyHalvesModel" "openMany" "I", Cond.methodLink RX12 110 yX12_in, Cond.static yX12_in, Cond.initialized RX12, Cond.code yX12_in cX12_in 3 (some .boolean), Cond.methodLink RX12 289 yX12_findOpen, Cond.instanceMethod yX12_findOpen, Cond.selects RX12 yX12_findOpen yX12_findOpen, Cond.code yX12_findOpen cX12_findOpen 3 none, Cond.fieldLink RX12 283 "OnlyHalvesModel" "openBest" "I", Cond.fieldLink RX12 286 "OnlyHalvesModel" "openMost" "I", Cond.fieldLink RX12 114 "OnlyHalvesModel" "things" "I", Cond.methodLink RX12 264 yX12_tell, Cond.instanceMethod yX12_tell, Cond.selects RX12 yX12_tell yX12_tell, Cond.code yX12_tell cX12_tell 2 none, Cond.fieldLink RX12 40 "OnlyHalvesModel" "row" "[I"] ++ wsX120)
def wsX11_partner : List Cond := .code yX11_partner cX11_partner 9 (some .int) :: ([Cond.methodLink RX11 192 yX11_areHalfAndPerson, Cond.instanceMethod yX11_areHalfAndPerson, Cond.selects RX11 yX11_areHalfAndPerson yX11_areHalfAndPerson, Cond.initialized RX11, Cond.code yX11_areHalfAndPerson cX11_areHalfAndPerson 3 (some .boolean), Cond.fieldLink RX11 21 "OnlyHalves" "market" "LOnlyHalves$Market;", Cond.methodLink RX11 435 yX2_hasHalf, Cond.instanceMethod yX2_hasHalf, Cond.selects RX2 yX2_hasHalf yX2_hasHalf, Cond.initialized RX2, Cond.code yX2_hasHalf cX2_hasHalf 2 (some .boolean), Cond.methodLink RX2 50 yX2_halves, Cond.instanceMethod yX2_halves, Cond.selects RX2 yX2_halves yX2_halves, Cond.code yX2_halves cX2_halves 1 (some .int), Cond.fieldLink RX2 25 "OnlyHalves$Market" "things" "I"] ++ wsX110 ++ wsX20)
def wsX12_partner : List Cond := .code yX12_partner cX12_partner 9 (some .int) :: ([Cond.fieldLink RX12 101 "OnlyHalvesModel" "thrown" "I", Cond.methodLink RX12 242 yX12_isHalf, Cond.instanceMethod yX12_isHalf, Cond.selects RX12 yX12_isHalf yX12_isHalf, Cond.initialized RX12, Cond.code yX12_isHalf cX12_isHalf 2 (some .boolean), Cond.fieldLink RX12 114 "OnlyHalvesModel" "things" "I", Cond.methodLink RX12 110 yX12_in, Cond.static yX12_in, Cond.code yX12_in cX12_in 3 (some .boolean)] ++ wsX120)
def wsX2_allThings : List Cond := .code yX2_allThings cX2_allThings 1 (some .int) :: ([Cond.fieldLink RX2 25 "OnlyHalves$Market" "things" "I"] ++ wsX20)
def wsX2_barredBits : List Cond := .code yX2_barredBits cX2_barredBits 3 (some .int) :: ([Cond.fieldLink RX2 25 "OnlyHalves$Market" "things" "I"] ++ wsX20)
def wsX1_choose : List Cond := .code yX1_choose cX1_choose 8 none :: ([Cond.fieldLink RX1 26 "OnlyHalves$Day" "most" "I", Cond.fieldLink RX1 7 "OnlyHalves$Day" "market" "LOnlyHalves$Market;", Cond.fieldLink RX1 29 "OnlyHalves$Day" "used" "I"] ++ wsX10)
def wsX1_mostOf : List Cond := .code yX1_mostOf cX1_mostOf 7 (some .int) :: ([Cond.fieldLink RX1 7 "OnlyHalves$Day" "market" "LOnlyHalves$Market;", Cond.fieldLink RX1 22 "OnlyHalves$Day" "open" "I", Cond.fieldLink RX1 26 "OnlyHalves$Day" "most" "I", Cond.fieldLink RX1 29 "OnlyHalves$Day" "used" "I", Cond.fieldLink RX1 32 "OnlyHalves$Market" "things" "I", Cond.methodLink RX1 13 yX2_allThings, Cond.instanceMethod yX2_allThings, Cond.selects RX2 yX2_allThings yX2_allThings, Cond.initialized RX2, Cond.code yX2_allThings cX2_allThings 1 (some .int), Cond.fieldLink RX2 25 "OnlyHalves$Market" "things" "I", Cond.methodLink RX1 19 yX2_barredBits, Cond.instanceMethod yX2_barredBits, Cond.selects RX2 yX2_barredBits yX2_barredBits, Cond.code yX2_barredBits cX2_barredBits 3 (some .int), Cond.methodLink RX1 39 yX1_choose, Cond.instanceMethod yX1_choose, Cond.selects RX1 yX1_choose yX1_choose, Cond.initialized RX1, Cond.code yX1_choose cX1_choose 8 none] ++ wsX10 ++ wsX20)
def wsX11_day : List Cond := .code yX11_day cX11_day 2 (some .int) :: ([Cond.fieldLink RX11 76 "OnlyHalves" "plan" "LOnlyHalves$Day;", Cond.fieldLink RX11 21 "OnlyHalves" "market" "LOnlyHalves$Market;", Cond.fieldLink RX11 274 "OnlyHalves$Day" "used" "I", Cond.methodLink RX11 271 yX1_mostOf, Cond.instanceMethod yX1_mostOf, Cond.selects RX1 yX1_mostOf yX1_mostOf, Cond.initialized RX1, Cond.code yX1_mostOf cX1_mostOf 7 (some .int), Cond.fieldLink RX1 7 "OnlyHalves$Day" "market" "LOnlyHalves$Market;", Cond.fieldLink RX1 22 "OnlyHalves$Day" "open" "I", Cond.fieldLink RX1 26 "OnlyHalves$Day" "most" "I", Cond.fieldLink RX1 29 "OnlyHalves$Day" "used" "I", Cond.fieldLink RX1 32 "OnlyHalves$Market" "things" "I", Cond.methodLink RX1 13 yX2_allThings, Cond.instanceMethod yX2_allThings, Cond.selects RX2 yX2_allThings yX2_allThings, Cond.initialized RX2, Cond.code yX2_allThings cX2_allThings 1 (some .int), Cond.fieldLink RX2 25 "OnlyHalves$Market" "things" "I", Cond.methodLink RX1 19 yX2_barredBits, Cond.instanceMethod yX2_barredBits, Cond.selects RX2 yX2_barredBits yX2_barredBits, Cond.code yX2_barredBits cX2_barredBits 3 (some .int), Cond.methodLink RX1 39 yX1_choose, Cond.instanceMethod yX1_choose, Cond.selects RX1 yX1_choose yX1_choose, Cond.code yX1_choose cX1_choose 8 none, Cond.methodLink RX11 206 yX11_clearRow, Cond.instanceMethod yX11_clearRow, Cond.selects RX11 yX11_clearRow yX11_clearRow, Cond.initialized RX11, Cond.code yX11_clearRow cX11_clearRow 1 none, Cond.fieldLink RX11 420 "OnlyHalves" "numbersTold" "I", Cond.methodLink RX11 212 yX11_tell, Cond.instanceMethod yX11_tell, Cond.selects RX11 yX11_tell yX11_tell, Cond.code yX11_tell cX11_tell 2 none, Cond.fieldLink RX11 87 "OnlyHalves" "numbers" "[I"] ++ wsX10 ++ wsX110 ++ wsX20)
def wsX12_findDay : List Cond := .code yX12_findDay cX12_findDay 10 (some .int) :: ([Cond.fieldLink RX12 299 "OnlyHalvesModel" "daySet" "I", Cond.fieldLink RX12 114 "OnlyHalvesModel" "things" "I"] ++ wsX120)
def wsX12_day : List Cond := .code yX12_day cX12_day 2 (some .int) :: ([Cond.fieldLink RX12 101 "OnlyHalvesModel" "thrown" "I", Cond.fieldLink RX12 104 "OnlyHalvesModel" "rowMany" "I", Cond.fieldLink RX12 299 "OnlyHalvesModel" "daySet" "I", Cond.methodLink RX12 311 yX12_findDay, Cond.instanceMethod yX12_findDay, Cond.selects RX12 yX12_findDay yX12_findDay, Cond.initialized RX12, Cond.code yX12_findDay cX12_findDay 10 (some .int), Cond.fieldLink RX12 114 "OnlyHalvesModel" "things" "I", Cond.methodLink RX12 264 yX12_tell, Cond.instanceMethod yX12_tell, Cond.selects RX12 yX12_tell yX12_tell, Cond.code yX12_tell cX12_tell 2 none, Cond.fieldLink RX12 40 "OnlyHalvesModel" "row" "[I"] ++ wsX120)
def wsX11_quarrel : List Cond := .code yX11_quarrel cX11_quarrel 3 (some .int) :: ([Cond.methodLink RX11 160 yX11_areTwo, Cond.instanceMethod yX11_areTwo, Cond.selects RX11 yX11_areTwo yX11_areTwo, Cond.initialized RX11, Cond.code yX11_areTwo cX11_areTwo 3 (some .boolean), Cond.fieldLink RX11 21 "OnlyHalves" "market" "LOnlyHalves$Market;", Cond.methodLink RX11 112 yX2_hasPerson, Cond.instanceMethod yX2_hasPerson, Cond.selects RX2 yX2_hasPerson yX2_hasPerson, Cond.initialized RX2, Cond.code yX2_hasPerson cX2_hasPerson 2 (some .boolean), Cond.fieldLink RX2 22 "OnlyHalves$Market" "people" "I"] ++ wsX110 ++ wsX20)
def wsX12_quarrel : List Cond := .code yX12_quarrel cX12_quarrel 5 (some .int) :: ([Cond.fieldLink RX12 101 "OnlyHalvesModel" "thrown" "I", Cond.methodLink RX12 223 yX12_isOne, Cond.instanceMethod yX12_isOne, Cond.selects RX12 yX12_isOne yX12_isOne, Cond.initialized RX12, Cond.code yX12_isOne cX12_isOne 2 (some .boolean), Cond.fieldLink RX12 107 "OnlyHalvesModel" "people" "I", Cond.methodLink RX12 110 yX12_in, Cond.static yX12_in, Cond.code yX12_in cX12_in 3 (some .boolean)] ++ wsX120)
def wsX11_bars : List Cond := .code yX11_bars cX11_bars 2 (some .int) :: ([Cond.fieldLink RX11 21 "OnlyHalves" "market" "LOnlyHalves$Market;", Cond.methodLink RX11 141 yX2_hasThing, Cond.instanceMethod yX2_hasThing, Cond.selects RX2 yX2_hasThing yX2_hasThing, Cond.initialized RX2, Cond.code yX2_hasThing cX2_hasThing 2 (some .boolean), Cond.fieldLink RX2 25 "OnlyHalves$Market" "things" "I"] ++ wsX110 ++ wsX20)
def wsX12_bars : List Cond := .code yX12_bars cX12_bars 2 (some .int) :: ([Cond.fieldLink RX12 101 "OnlyHalvesModel" "thrown" "I", Cond.methodLink RX12 239 yX12_isThing, Cond.instanceMethod yX12_isThing, Cond.selects RX12 yX12_isThing yX12_isThing, Cond.initialized RX12, Cond.code yX12_isThing cX12_isThing 2 (some .boolean), Cond.fieldLink RX12 114 "OnlyHalvesModel" "things" "I", Cond.methodLink RX12 110 yX12_in, Cond.static yX12_in, Cond.code yX12_in cX12_in 3 (some .boolean)] ++ wsX120)
def wsX11_without : List Cond := .code yX11_without cX11_without 4 (some .int) :: ([Cond.fieldLink RX11 21 "OnlyHalves" "market" "LOnlyHalves$Market;", Cond.methodLink RX11 112 yX2_hasPerson, Cond.instanceMethod yX2_hasPerson, Cond.selects RX2 yX2_hasPerson yX2_hasPerson, Cond.initialized RX2, Cond.code yX2_hasPerson cX2_hasPerson 2 (some .boolean), Cond.fieldLink RX2 22 "OnlyHalves$Market" "people" "I"] ++ wsX110 ++ wsX20)
def wsX12_without : List Cond := .code yX12_without cX12_without 3 (some .int) :: ([Cond.fieldLink RX12 101 "OnlyHalvesModel" "thrown" "I", Cond.methodLink RX12 223 yX12_isOne, Cond.instanceMethod yX12_isOne, Cond.selects RX12 yX12_isOne yX12_isOne, Cond.initialized RX12, Cond.code yX12_isOne cX12_isOne 2 (some .boolean), Cond.fieldLink RX12 107 "OnlyHalvesModel" "people" "I", Cond.methodLink RX12 110 yX12_in, Cond.static yX12_in, Cond.code yX12_in cX12_in 3 (some .boolean)] ++ wsX120)
def wsX11_pair : List Cond := .code yX11_pair cX11_pair 5 (some .int) :: ([Cond.fieldLink RX11 21 "OnlyHalves" "market" "LOnlyHalves$Market;", Cond.fieldLink RX11 268 "OnlyHalves$Market" "people" "I"] ++ wsX110 ++ wsX20)
def wsX12_pair : List Cond := .code yX12_pair cX12_pair 8 (some .int) :: ([Cond.fieldLink RX12 101 "OnlyHalvesModel" "thrown" "I", Cond.fieldLink RX12 107 "OnlyHalvesModel" "people" "I"] ++ wsX120)
def wsX11_wealth : List Cond := .code yX11_wealth cX11_wealth 2 (some .int) :: ([Cond.fieldLink RX11 21 "OnlyHalves" "market" "LOnlyHalves$Market;", Cond.methodLink RX11 112 yX2_hasPerson, Cond.instanceMethod yX2_hasPerson, Cond.selects RX2 yX2_hasPerson yX2_hasPerson, Cond.initialized RX2, Cond.code yX2_hasPerson cX2_hasPerson 2 (some .boolean), Cond.fieldLink RX2 22 "OnlyHalves$Market" "people" "I"] ++ wsX110 ++ wsX20)
def wsX12_wealth : List Cond := .code yX12_wealth cX12_wealth 2 (some .int) :: ([Cond.fieldLink RX12 101 "OnlyHalvesModel" "thrown" "I", Cond.methodLink RX12 223 yX12_isOne, Cond.instanceMethod yX12_isOne, Cond.selects RX12 yX12_isOne yX12_isOne, Cond.initialized RX12, Cond.code yX12_isOne cX12_isOne 2 (some .boolean), Cond.fieldLink RX12 107 "OnlyHalvesModel" "people" "I", Cond.methodLink RX12 110 yX12_in, Cond.static yX12_in, Cond.code yX12_in cX12_in 3 (some .boolean)] ++ wsX120)
def wsX11_richest : List Cond := .code yX11_richest cX11_richest 7 (some .int) :: ([Cond.fieldLink RX11 21 "OnlyHalves" "market" "LOnlyHalves$Market;", Cond.fieldLink RX11 268 "OnlyHalves$Market" "people" "I"] ++ wsX110 ++ wsX20)
def wsX12_richest : List Cond := .code yX12_richest cX12_richest 7 (some .int) :: ([Cond.fieldLink RX12 101 "OnlyHalvesModel" "thrown" "I", Cond.fieldLink RX12 107 "OnlyHalvesModel" "people" "I"] ++ wsX120)
def wsX11_use : List Cond := .code yX11_use cX11_use 2 (some .int) :: ([Cond.fieldLink RX11 21 "OnlyHalves" "market" "LOnlyHalves$Market;", Cond.methodLink RX11 141 yX2_hasThing, Cond.instanceMethod yX2_hasThing, Cond.selects RX2 yX2_hasThing yX2_hasThing, Cond.initialized RX2, Cond.code yX2_hasThing cX2_hasThing 2 (some .boolean), Cond.fieldLink RX2 25 "OnlyHalves$Market" "things" "I"] ++ wsX110 ++ wsX20)
def wsX12_use : List Cond := .code yX12_use cX12_use 4 (some .int) :: ([Cond.fieldLink RX12 101 "OnlyHalvesModel" "thrown" "I", Cond.methodLink RX12 239 yX12_isThing, Cond.instanceMethod yX12_isThing, Cond.selects RX12 yX12_isThing yX12_isThing, Cond.initialized RX12, Cond.code yX12_isThing cX12_isThing 2 (some .boolean), Cond.fieldLink RX12 114 "OnlyHalvesModel" "things" "I", Cond.methodLink RX12 110 yX12_in, Cond.static yX12_in, Cond.code yX12_in cX12_in 3 (some .boolean)] ++ wsX120)
def wsX4_forget : List Cond := .code yX4_forget cX4_forget 1 none :: ([Cond.fieldLink RX4 19 "OnlyHalves$Past" "size" "I"] ++ wsX40)
def wsX11_days : List Cond := .code yX11_days cX11_days 5 (some .int) :: ([Cond.fieldLink RX11 69 "OnlyHalves" "past" "LOnlyHalves$Past;", Cond.fieldLink RX11 76 "OnlyHalves" "plan" "LOnlyHalves$Day;", Cond.fieldLink RX11 21 "OnlyHalves" "market" "LOnlyHalves$Market;", Cond.fieldLink RX11 182 "OnlyHalves$Market" "things" "I", Cond.fieldLink RX11 305 "OnlyHalves$Market" "today" "I", Cond.fieldLink RX11 135 "OnlyHalves$Market" "took" "I", Cond.methodLink RX11 106 yX4_forget, Cond.instanceMethod yX4_forget, Cond.selects RX4 yX4_forget yX4_forget, Cond.initialized RX4, Cond.code yX4_forget cX4_forget 1 none, Cond.fieldLink RX4 19 "OnlyHalves$Past" "size" "I", Cond.methodLink RX11 271 yX1_mostOf, Cond.instanceMethod yX1_mostOf, Cond.selects RX1 yX1_mostOf yX1_mostOf, Cond.initialized RX1, Cond.code yX1_mostOf cX1_mostOf 7 (some .int), Cond.fieldLink RX1 7 "OnlyHalves$Day" "market" "LOnlyHalves$Market;", Cond.fieldLink RX1 22 "OnlyHalves$Day" "open" "I", Cond.fieldLink RX1 26 "OnlyHalves$Day" "most" "I", Cond.fieldLink RX1 29 "OnlyHalves$Day" "used" "I", Cond.fieldLink RX1 32 "OnlyHalves$Market" "things" "I", Cond.methodLink RX1 13 yX2_allThings, Cond.instanceMethod yX2_allThings, Cond.selects RX2 yX2_allThings yX2_allThings, Cond.initialized RX2, Cond.code yX2_allThings cX2_allThings 1 (some .int), Cond.fieldLink RX2 25 "OnlyHalves$Market" "things" "I", Cond.methodLink RX1 19 yX2_barredBits, Cond.instanceMethod yX2_barredBits, Cond.selects RX2 yX2_barredBits yX2_barredBits, Cond.code yX2_barredBits cX2_barredBits 3 (some .int), Cond.methodLink RX1 39 yX1_choose, Cond.instanceMethod yX1_choose, Cond.selects RX1 yX1_choose yX1_choose, Cond.code yX1_choose cX1_choose 8 none] ++ wsX110 ++ wsX20 ++ wsX40 ++ wsX10)
def wsX12_days : List Cond := .code yX12_days cX12_days 6 (some .int) :: ([Cond.fieldLink RX12 101 "OnlyHalvesModel" "thrown" "I", Cond.fieldLink RX12 114 "OnlyHalvesModel" "things" "I", Cond.fieldLink RX12 325 "OnlyHalvesModel" "today" "I", Cond.fieldLink RX12 107 "OnlyHalvesModel" "people" "I", Cond.fieldLink RX12 174 "OnlyHalvesModel" "undoMany" "I", Cond.methodLink RX12 110 yX12_in, Cond.static yX12_in, Cond.initialized RX12, Cond.code yX12_in cX12_in 3 (some .boolean), Cond.methodLink RX12 311 yX12_findDay, Cond.instanceMethod yX12_findDay, Cond.selects RX12 yX12_findDay yX12_findDay, Cond.code yX12_findDay cX12_findDay 10 (some .int), Cond.fieldLink RX12 299 "OnlyHalvesModel" "daySet" "I"] ++ wsX120)
def wsX2_hasThings : List Cond := .code yX2_hasThings cX2_hasThings 2 (some .boolean) :: ([Cond.methodLink RX2 54 yX2_allThings, Cond.instanceMethod yX2_allThings, Cond.selects RX2 yX2_allThings yX2_allThings, Cond.initialized RX2, Cond.code yX2_allThings cX2_allThings 1 (some .int), Cond.fieldLink RX2 25 "OnlyHalves$Market" "things" "I"] ++ wsX20)
def wsX2_firstBarred : List Cond := .code yX2_firstBarred cX2_firstBarred 3 (some .int) :: ([Cond.fieldLink RX2 25 "OnlyHalves$Market" "things" "I"] ++ wsX20)
def wsX2_firstClash : List Cond := .code yX2_firstClash cX2_firstClash 5 (some .int) :: ([Cond.fieldLink RX2 25 "OnlyHalves$Market" "things" "I"] ++ wsX20)
def wsX11_feast : List Cond := .code yX11_feast cX11_feast 4 (some .int) :: ([Cond.fieldLink RX11 21 "OnlyHalves" "market" "LOnlyHalves$Market;", Cond.methodLink RX11 308 yX2_hasThings, Cond.instanceMethod yX2_hasThings, Cond.selects RX2 yX2_hasThings yX2_hasThings, Cond.initialized RX2, Cond.code yX2_hasThings cX2_hasThings 2 (some .boolean), Cond.methodLink RX2 54 yX2_allThings, Cond.instanceMethod yX2_allThings, Cond.selects RX2 yX2_allThings yX2_allThings, Cond.code yX2_allThings cX2_allThings 1 (some .int), Cond.fieldLink RX2 25 "OnlyHalves$Market" "things" "I", Cond.methodLink RX11 311 yX2_firstBarred, Cond.instanceMethod yX2_firstBarred, Cond.selects RX2 yX2_firstBarred yX2_firstBarred, Cond.code yX2_firstBarred cX2_firstBarred 3 (some .int), Cond.methodLink RX11 314 yX2_firstClash, Cond.instanceMethod yX2_firstClash, Cond.selects RX2 yX2_firstClash yX2_firstClash, Cond.code yX2_firstClash cX2_firstClash 5 (some .int)] ++ wsX110 ++ wsX20)
def wsX12_areThings : List Cond := .code yX12_areThings cX12_areThings 2 (some .boolean) :: ([Cond.fieldLink RX12 114 "OnlyHalvesModel" "things" "I", Cond.methodLink RX12 110 yX12_in, Cond.static yX12_in, Cond.initialized RX12, Cond.code yX12_in cX12_in 3 (some .boolean)] ++ wsX120)
def wsX12_canFeast : List Cond := .code yX12_canFeast cX12_canFeast 4 (some .boolean) :: ([Cond.fieldLink RX12 114 "OnlyHalvesModel" "things" "I"] ++ wsX120)
def wsX12_feast : List Cond := .code yX12_feast cX12_feast 7 (some .int) :: ([Cond.fieldLink RX12 101 "OnlyHalvesModel" "thrown" "I", Cond.methodLink RX12 328 yX12_areThings, Cond.instanceMethod yX12_areThings, Cond.selects RX12 yX12_areThings yX12_areThings, Cond.initialized RX12, Cond.code yX12_areThings cX12_areThings 2 (some .boolean), Cond.fieldLink RX12 114 "OnlyHalvesModel" "things" "I", Cond.methodLink RX12 110 yX12_in, Cond.static yX12_in, Cond.code yX12_in cX12_in 3 (some .boolean), Cond.methodLink RX12 331 yX12_canFeast, Cond.instanceMethod yX12_canFeast, Cond.selects RX12 yX12_canFeast yX12_canFeast, Cond.code yX12_canFeast cX12_canFeast 4 (some .boolean)] ++ wsX120)
def wsX8_init : List Cond := .code yX8_init cX8_init 1 none :: ([Cond.methodLink RX8 3 objectInit, Cond.instanceMethod objectInit, Cond.code objectInit ⟨#[0xb1]⟩ 1 none, Cond.arrayClass .long, Cond.fieldLink RX8 9 "OnlyHalves$States" "held" "[J", Cond.fieldLink RX8 15 "OnlyHalves$States" "lowCoin" "[J", Cond.fieldLink RX8 18 "OnlyHalves$States" "highCoin" "[J", Cond.arrayClass .int, Cond.fieldLink RX8 21 "OnlyHalves$States" "from" "[I", Cond.fieldLink RX8 25 "OnlyHalves$States" "step" "[I", Cond.fieldLink RX8 28 "OnlyHalves$States" "slots" "[I"] ++ wsX80)
def wsX7_init : List Cond := .code yX7_init cX7_init 3 none :: ([Cond.methodLink RX7 3 objectInit, Cond.instanceMethod objectInit, Cond.code objectInit ⟨#[0xb1]⟩ 1 none, Cond.classLink RX7 9 RX8, Cond.instantiable RX8 8, Cond.initialized RX8, Cond.instanceMethod yX8_init, Cond.fieldLink RX7 12 "OnlyHalves$Search" "states" "LOnlyHalves$States;", Cond.arrayClass .int, Cond.fieldLink RX7 18 "OnlyHalves$Search" "path" "[I", Cond.fieldLink RX7 22 "OnlyHalves$Search" "gets" "[I", Cond.fieldLink RX7 25 "OnlyHalves$Search" "sales" "[I", Cond.fieldLink RX7 28 "OnlyHalves$Search" "firstSale" "[I", Cond.fieldLink RX7 31 "OnlyHalves$Search" "after" "[I", Cond.fieldLink RX7 34 "OnlyHalves$Search" "trade" "LOnlyHalves$Trade;", Cond.fieldLink RX7 38 "OnlyHalves$Search" "then" "LOnlyHalves$Market;", Cond.code yX8_init cX8_init 1 none, Cond.methodLink RX8 3 objectInit, Cond.arrayClass .long, Cond.fieldLink RX8 9 "OnlyHalves$States" "held" "[J", Cond.fieldLink RX8 15 "OnlyHalves$States" "lowCoin" "[J", Cond.fieldLink RX8 18 "OnlyHalves$States" "highCoin" "[J", Cond.fieldLink RX8 21 "OnlyHalves$States" "from" "[I", Cond.fieldLink RX8 25 "OnlyHalves$States" "step" "[I", Cond.fieldLink RX8 28 "OnlyHalves$States" "slots" "[I"] ++ wsX70 ++ wsX80)
def wsX11_searching : List Cond := .code yX11_searching cX11_searching 1 (some (.object "OnlyHalves$Search")) :: ([Cond.fieldLink RX11 428 "OnlyHalves" "search" "LOnlyHalves$Search;", Cond.classLink RX11 322 RX7, Cond.instantiable RX7 9, Cond.initialized RX7, Cond.fieldLink RX11 48 "OnlyHalves" "trade" "LOnlyHalves$Trade;", Cond.fieldLink RX11 25 "OnlyHalves" "then" "LOnlyHalves$Market;", Cond.methodLink RX11 432 yX7_init, Cond.instanceMethod yX7_init, Cond.code yX7_init cX7_init 3 none, Cond.methodLink RX7 3 objectInit, Cond.instanceMethod objectInit, Cond.code objectInit ⟨#[0xb1]⟩ 1 none, Cond.classLink RX7 9 RX8, Cond.instantiable RX8 8, Cond.initialized RX8, Cond.instanceMethod yX8_init, Cond.fieldLink RX7 12 "OnlyHalves$Search" "states" "LOnlyHalves$States;", Cond.arrayClass .int, Cond.fieldLink RX7 18 "OnlyHalves$Search" "path" "[I", Cond.fieldLink RX7 22 "OnlyHalves$Search" "gets" "[I", Cond.fieldLink RX7 25 "OnlyHalves$Search" "sales" "[I", Cond.fieldLink RX7 28 "OnlyHalves$Search" "firstSale" "[I", Cond.fieldLink RX7 31 "OnlyHalves$Search" "after" "[I", Cond.fieldLink RX7 34 "OnlyHalves$Search" "trade" "LOnlyHalves$Trade;", Cond.fieldLink RX7 38 "OnlyHalves$Search" "then" "LOnlyHalves$Market;", Cond.code yX8_init cX8_init 1 none, Cond.methodLink RX8 3 objectInit, Cond.arrayClass .long, Cond.fieldLink RX8 9 "OnlyHalves$States" "held" "[J", Cond.fieldLink RX8 15 "OnlyHalves$States" "lowCoin" "[J", Cond.fieldLink RX8 18 "OnlyHalves$States" "highCoin" "[J", Cond.fieldLink RX8 21 "OnlyHalves$States" "from" "[I", Cond.fieldLink RX8 25 "OnlyHalves$States" "step" "[I", Cond.fieldLink RX8 28 "OnlyHalves$States" "slots" "[I"] ++ wsX110 ++ wsX70 ++ wsX80)
def wsJ7_fill_53178 : List Cond := .code yJ7_fill_53178 cJ7_fill_53178 4 none :: ([])
def wsX8_clear : List Cond := .code yX8_clear cX8_clear 1 none :: ([Cond.fieldLink RX8 28 "OnlyHalves$States" "slots" "[I", Cond.fieldLink RX8 31 "OnlyHalves$States" "size" "I", Cond.fieldLink RX8 35 "OnlyHalves$States" "isOver" "Z", Cond.methodLink RX8 39 yJ7_fill_53178, Cond.static yJ7_fill_53178, Cond.initialized RJ7, Cond.code yJ7_fill_53178 cJ7_fill_53178 4 none] ++ wsX80)
def wsX8_slotOf : List Cond := .code yX8_slotOf cX8_slotOf 6 (some .int) :: ([Cond.fieldLink RX8 45 "OnlyHalves$Market" "held" "J", Cond.constantLong RX8 58 (-7046029254386353131), Cond.fieldLink RX8 50 "OnlyHalves$Market" "lowCoin" "J", Cond.fieldLink RX8 52 "OnlyHalves$Market" "highCoin" "J", Cond.fieldLink RX8 28 "OnlyHalves$States" "slots" "[I"] ++ wsX20 ++ wsX80)
def wsX8_add : List Cond := .code yX8_add cX8_add 5 none :: ([Cond.fieldLink RX8 28 "OnlyHalves$States" "slots" "[I", Cond.fieldLink RX8 31 "OnlyHalves$States" "size" "I", Cond.fieldLink RX8 9 "OnlyHalves$States" "held" "[J", Cond.fieldLink RX8 45 "OnlyHalves$Market" "held" "J", Cond.fieldLink RX8 15 "OnlyHalves$States" "lowCoin" "[J", Cond.fieldLink RX8 50 "OnlyHalves$Market" "lowCoin" "J", Cond.fieldLink RX8 18 "OnlyHalves$States" "highCoin" "[J", Cond.fieldLink RX8 52 "OnlyHalves$Market" "highCoin" "J", Cond.fieldLink RX8 21 "OnlyHalves$States" "from" "[I", Cond.fieldLink RX8 25 "OnlyHalves$States" "step" "[I", Cond.methodLink RX8 54 yX8_slotOf, Cond.instanceMethod yX8_slotOf, Cond.selects RX8 yX8_slotOf yX8_slotOf, Cond.initialized RX8, Cond.code yX8_slotOf cX8_slotOf 6 (some .int), Cond.constantLong RX8 58 (-7046029254386353131)] ++ wsX20 ++ wsX80)
def wsX7_begin_r1 : List Cond := [Cond.fieldLink RX7 38 "OnlyHalves$Search" "then" "LOnlyHalves$Market;", Cond.fieldLink RX7 12 "OnlyHalves$Search" "states" "LOnlyHalves$States;", Cond.methodLink RX7 46 yX2_copy, Cond.instanceMethod yX2_copy, Cond.selects RX2 yX2_copy yX2_copy, Cond.initialized RX2, Cond.code yX2_copy cX2_copy 2 none, Cond.fieldLink RX2 22 "OnlyHalves$Market" "people" "I", Cond.fieldLink RX2 25 "OnlyHalves$Market" "things" "I", Cond.fieldLink RX2 28 "OnlyHalves$Market" "held" "J", Cond.fieldLink RX2 32 "OnlyHalves$Market" "lowCoin" "J", Cond.fieldLink RX2 35 "OnlyHalves$Market" "highCoin" "J", Cond.fieldLink RX2 38 "OnlyHalves$Market" "friends" "J", Cond.fieldLink RX2 41 "OnlyHalves$Market" "foes" "J", Cond.fieldLink RX2 44 "OnlyHalves$Market" "took" "I", Cond.fieldLink RX2 47 "OnlyHalves$Market" "today" "I", Cond.fieldLink RX2 9 "OnlyHalves$Market" "luck" "I", Cond.methodLink RX7 52 yX8_clear, Cond.instanceMethod yX8_clear, Cond.selects RX8 yX8_clear yX8_clear, Cond.initialized RX8, Cond.code yX8_clear cX8_clear 1 none, Cond.fieldLink RX8 28 "OnlyHalves$States" "slots" "[I", Cond.fieldLink RX8 31 "OnlyHalves$States" "size" "I", Cond.fieldLink RX8 35 "OnlyHalves$States" "isOver" "Z", Cond.methodLink RX8 39 yJ7_fill_53178, Cond.static yJ7_fill_53178, Cond.initialized RJ7, Cond.code yJ7_fill_53178 cJ7_fill_53178 4 none, Cond.methodLink RX7 55 yX8_add, Cond.instanceMethod yX8_add, Cond.selects RX8 yX8_add yX8_add, Cond.code yX8_add cX8_add 5 none, Cond.fieldLink RX8 9 "OnlyHalves$States" "held" "[J", Cond.fieldLink RX8 45 "OnlyHalves$Market" "held" "J", Cond.fieldLink RX8 15 "OnlyHalves$States" "lowCoin" "[J", Cond.fieldLink RX8 50 "OnlyHalves$Market" "lowCoin" "J", Cond.fieldLink RX8 18 "OnlyHalves$States" "highCoin" "[J", Cond.fieldLink RX8 52 "OnlyHalves$Market" "highCoin" "J", Cond.fieldLink RX8 21 "OnlyHalves$States" "from" "[I"]
def wsX7_begin_r2 : List Cond := [Cond.fieldLink RX8 25 "OnlyHalves$States" "step" "[I", Cond.methodLink RX8 54 yX8_slotOf, Cond.instanceMethod yX8_slotOf, Cond.selects RX8 yX8_slotOf yX8_slotOf, Cond.code yX8_slotOf cX8_slotOf 6 (some .int), Cond.constantLong RX8 58 (-7046029254386353131)]
def wsX7_begin : List Cond := .code yX7_begin cX7_begin 2 none :: ((wsX7_begin_r1 ++ wsX7_begin_r2) ++ wsX70 ++ wsX20 ++ wsX80)
def wsX8_size : List Cond := .code yX8_size cX8_size 1 (some .int) :: ([Cond.fieldLink RX8 31 "OnlyHalves$States" "size" "I"] ++ wsX80)
def wsX8_isOver : List Cond := .code yX8_isOver cX8_isOver 1 (some .boolean) :: ([Cond.fieldLink RX8 35 "OnlyHalves$States" "isOver" "Z"] ++ wsX80)
def wsX8_load : List Cond := .code yX8_load cX8_load 3 none :: ([Cond.fieldLink RX8 31 "OnlyHalves$States" "size" "I", Cond.fieldLink RX8 9 "OnlyHalves$States" "held" "[J", Cond.fieldLink RX8 45 "OnlyHalves$Market" "held" "J", Cond.fieldLink RX8 15 "OnlyHalves$States" "lowCoin" "[J", Cond.fieldLink RX8 50 "OnlyHalves$Market" "lowCoin" "J", Cond.fieldLink RX8 18 "OnlyHalves$States" "highCoin" "[J", Cond.fieldLink RX8 52 "OnlyHalves$Market" "highCoin" "J"] ++ wsX20 ++ wsX80)
def wsX7_addGifts : List Cond := .code yX7_addGifts cX7_addGifts 6 none :: ([Cond.fieldLink RX7 38 "OnlyHalves$Search" "then" "LOnlyHalves$Market;", Cond.methodLink RX7 74 yX2_halves, Cond.instanceMethod yX2_halves, Cond.selects RX2 yX2_halves yX2_halves, Cond.initialized RX2, Cond.code yX2_halves cX2_halves 1 (some .int), Cond.fieldLink RX2 25 "OnlyHalves$Market" "things" "I"] ++ wsX70 ++ wsX20)
def wsX7_spreadGifts_r1 : List Cond := [Cond.fieldLink RX7 12 "OnlyHalves$Search" "states" "LOnlyHalves$States;", Cond.fieldLink RX7 38 "OnlyHalves$Search" "then" "LOnlyHalves$Market;", Cond.methodLink RX7 59 yX7_begin, Cond.instanceMethod yX7_begin, Cond.selects RX7 yX7_begin yX7_begin, Cond.initialized RX7, Cond.code yX7_begin cX7_begin 2 none, Cond.methodLink RX7 46 yX2_copy, Cond.instanceMethod yX2_copy, Cond.selects RX2 yX2_copy yX2_copy, Cond.initialized RX2, Cond.code yX2_copy cX2_copy 2 none, Cond.fieldLink RX2 22 "OnlyHalves$Market" "people" "I", Cond.fieldLink RX2 25 "OnlyHalves$Market" "things" "I", Cond.fieldLink RX2 28 "OnlyHalves$Market" "held" "J", Cond.fieldLink RX2 32 "OnlyHalves$Market" "lowCoin" "J", Cond.fieldLink RX2 35 "OnlyHalves$Market" "highCoin" "J", Cond.fieldLink RX2 38 "OnlyHalves$Market" "friends" "J", Cond.fieldLink RX2 41 "OnlyHalves$Market" "foes" "J", Cond.fieldLink RX2 44 "OnlyHalves$Market" "took" "I", Cond.fieldLink RX2 47 "OnlyHalves$Market" "today" "I", Cond.fieldLink RX2 9 "OnlyHalves$Market" "luck" "I", Cond.methodLink RX7 52 yX8_clear, Cond.instanceMethod yX8_clear, Cond.selects RX8 yX8_clear yX8_clear, Cond.initialized RX8, Cond.code yX8_clear cX8_clear 1 none, Cond.fieldLink RX8 28 "OnlyHalves$States" "slots" "[I", Cond.fieldLink RX8 31 "OnlyHalves$States" "size" "I", Cond.fieldLink RX8 35 "OnlyHalves$States" "isOver" "Z", Cond.methodLink RX8 39 yJ7_fill_53178, Cond.static yJ7_fill_53178, Cond.initialized RJ7, Cond.code yJ7_fill_53178 cJ7_fill_53178 4 none, Cond.methodLink RX7 55 yX8_add, Cond.instanceMethod yX8_add, Cond.selects RX8 yX8_add yX8_add, Cond.code yX8_add cX8_add 5 none, Cond.fieldLink RX8 9 "OnlyHalves$States" "held" "[J", Cond.fieldLink RX8 45 "OnlyHalves$Market" "held" "J"]
def wsX7_spreadGifts_r2 : List Cond := [Cond.fieldLink RX8 15 "OnlyHalves$States" "lowCoin" "[J", Cond.fieldLink RX8 50 "OnlyHalves$Market" "lowCoin" "J", Cond.fieldLink RX8 18 "OnlyHalves$States" "highCoin" "[J", Cond.fieldLink RX8 52 "OnlyHalves$Market" "highCoin" "J", Cond.fieldLink RX8 21 "OnlyHalves$States" "from" "[I", Cond.fieldLink RX8 25 "OnlyHalves$States" "step" "[I", Cond.methodLink RX8 54 yX8_slotOf, Cond.instanceMethod yX8_slotOf, Cond.selects RX8 yX8_slotOf yX8_slotOf, Cond.code yX8_slotOf cX8_slotOf 6 (some .int), Cond.constantLong RX8 58 (-7046029254386353131), Cond.methodLink RX7 42 yX8_size, Cond.instanceMethod yX8_size, Cond.selects RX8 yX8_size yX8_size, Cond.code yX8_size cX8_size 1 (some .int), Cond.methodLink RX7 62 yX8_isOver, Cond.instanceMethod yX8_isOver, Cond.selects RX8 yX8_isOver yX8_isOver, Cond.code yX8_isOver cX8_isOver 1 (some .boolean), Cond.methodLink RX7 66 yX8_load, Cond.instanceMethod yX8_load, Cond.selects RX8 yX8_load yX8_load, Cond.code yX8_load cX8_load 3 none, Cond.methodLink RX7 87 yX7_addGifts, Cond.instanceMethod yX7_addGifts, Cond.selects RX7 yX7_addGifts yX7_addGifts, Cond.code yX7_addGifts cX7_addGifts 6 none, Cond.methodLink RX7 74 yX2_halves, Cond.instanceMethod yX2_halves, Cond.selects RX2 yX2_halves yX2_halves, Cond.code yX2_halves cX2_halves 1 (some .int)]
def wsX7_spreadGifts : List Cond := .code yX7_spreadGifts cX7_spreadGifts 4 (some .boolean) :: ((wsX7_spreadGifts_r1 ++ wsX7_spreadGifts_r2) ++ wsX70 ++ wsX20 ++ wsX80)
def wsX7_firstFeast : List Cond := .code yX7_firstFeast cX7_firstFeast 3 (some .int) :: ([Cond.fieldLink RX7 12 "OnlyHalves$Search" "states" "LOnlyHalves$States;", Cond.fieldLink RX7 38 "OnlyHalves$Search" "then" "LOnlyHalves$Market;", Cond.methodLink RX7 42 yX8_size, Cond.instanceMethod yX8_size, Cond.selects RX8 yX8_size yX8_size, Cond.initialized RX8, Cond.code yX8_size cX8_size 1 (some .int), Cond.fieldLink RX8 31 "OnlyHalves$States" "size" "I", Cond.methodLink RX7 66 yX8_load, Cond.instanceMethod yX8_load, Cond.selects RX8 yX8_load yX8_load, Cond.code yX8_load cX8_load 3 none, Cond.fieldLink RX8 9 "OnlyHalves$States" "held" "[J", Cond.fieldLink RX8 45 "OnlyHalves$Market" "held" "J", Cond.fieldLink RX8 15 "OnlyHalves$States" "lowCoin" "[J", Cond.fieldLink RX8 50 "OnlyHalves$Market" "lowCoin" "J", Cond.fieldLink RX8 18 "OnlyHalves$States" "highCoin" "[J", Cond.fieldLink RX8 52 "OnlyHalves$Market" "highCoin" "J", Cond.methodLink RX7 105 yX2_firstBarred, Cond.instanceMethod yX2_firstBarred, Cond.selects RX2 yX2_firstBarred yX2_firstBarred, Cond.initialized RX2, Cond.code yX2_firstBarred cX2_firstBarred 3 (some .int), Cond.fieldLink RX2 25 "OnlyHalves$Market" "things" "I", Cond.methodLink RX7 108 yX2_firstClash, Cond.instanceMethod yX2_firstClash, Cond.selects RX2 yX2_firstClash yX2_firstClash, Cond.code yX2_firstClash cX2_firstClash 5 (some .int)] ++ wsX70 ++ wsX80 ++ wsX20)
def wsX7_tracePath : List Cond := .code yX7_tracePath cX7_tracePath 5 (some .int) :: ([])
def wsX11_tellPath : List Cond := .code yX11_tellPath cX11_tellPath 4 (some .int) :: ([])
def wsX11_prepare_r1 : List Cond := [Cond.fieldLink RX11 21 "OnlyHalves" "market" "LOnlyHalves$Market;", Cond.methodLink RX11 308 yX2_hasThings, Cond.instanceMethod yX2_hasThings, Cond.selects RX2 yX2_hasThings yX2_hasThings, Cond.initialized RX2, Cond.code yX2_hasThings cX2_hasThings 2 (some .boolean), Cond.methodLink RX2 54 yX2_allThings, Cond.instanceMethod yX2_allThings, Cond.selects RX2 yX2_allThings yX2_allThings, Cond.code yX2_allThings cX2_allThings 1 (some .int), Cond.fieldLink RX2 25 "OnlyHalves$Market" "things" "I", Cond.methodLink RX11 317 yX11_searching, Cond.instanceMethod yX11_searching, Cond.selects RX11 yX11_searching yX11_searching, Cond.initialized RX11, Cond.code yX11_searching cX11_searching 1 (some (.object "OnlyHalves$Search")), Cond.fieldLink RX11 428 "OnlyHalves" "search" "LOnlyHalves$Search;", Cond.classLink RX11 322 RX7, Cond.instantiable RX7 9, Cond.initialized RX7, Cond.fieldLink RX11 48 "OnlyHalves" "trade" "LOnlyHalves$Trade;", Cond.fieldLink RX11 25 "OnlyHalves" "then" "LOnlyHalves$Market;", Cond.methodLink RX11 432 yX7_init, Cond.instanceMethod yX7_init, Cond.code yX7_init cX7_init 3 none, Cond.methodLink RX7 3 objectInit, Cond.instanceMethod objectInit, Cond.code objectInit ⟨#[0xb1]⟩ 1 none, Cond.classLink RX7 9 RX8, Cond.instantiable RX8 8, Cond.initialized RX8, Cond.instanceMethod yX8_init, Cond.fieldLink RX7 12 "OnlyHalves$Search" "states" "LOnlyHalves$States;", Cond.arrayClass .int, Cond.fieldLink RX7 18 "OnlyHalves$Search" "path" "[I", Cond.fieldLink RX7 22 "OnlyHalves$Search" "gets" "[I", Cond.fieldLink RX7 25 "OnlyHalves$Search" "sales" "[I", Cond.fieldLink RX7 28 "OnlyHalves$Search" "firstSale" "[I", Cond.fieldLink RX7 31 "OnlyHalves$Search" "after" "[I", Cond.fieldLink RX7 34 "OnlyHalves$Search" "trade" "LOnlyHalves$Trade;"]
def wsX11_prepare_r2 : List Cond := [Cond.fieldLink RX7 38 "OnlyHalves$Search" "then" "LOnlyHalves$Market;", Cond.code yX8_init cX8_init 1 none, Cond.methodLink RX8 3 objectInit, Cond.arrayClass .long, Cond.fieldLink RX8 9 "OnlyHalves$States" "held" "[J", Cond.fieldLink RX8 15 "OnlyHalves$States" "lowCoin" "[J", Cond.fieldLink RX8 18 "OnlyHalves$States" "highCoin" "[J", Cond.fieldLink RX8 21 "OnlyHalves$States" "from" "[I", Cond.fieldLink RX8 25 "OnlyHalves$States" "step" "[I", Cond.fieldLink RX8 28 "OnlyHalves$States" "slots" "[I", Cond.methodLink RX11 321 yX7_spreadGifts, Cond.instanceMethod yX7_spreadGifts, Cond.selects RX7 yX7_spreadGifts yX7_spreadGifts, Cond.code yX7_spreadGifts cX7_spreadGifts 4 (some .boolean), Cond.methodLink RX7 59 yX7_begin, Cond.instanceMethod yX7_begin, Cond.selects RX7 yX7_begin yX7_begin, Cond.code yX7_begin cX7_begin 2 none, Cond.methodLink RX7 46 yX2_copy, Cond.instanceMethod yX2_copy, Cond.selects RX2 yX2_copy yX2_copy, Cond.code yX2_copy cX2_copy 2 none, Cond.fieldLink RX2 22 "OnlyHalves$Market" "people" "I", Cond.fieldLink RX2 28 "OnlyHalves$Market" "held" "J", Cond.fieldLink RX2 32 "OnlyHalves$Market" "lowCoin" "J", Cond.fieldLink RX2 35 "OnlyHalves$Market" "highCoin" "J", Cond.fieldLink RX2 38 "OnlyHalves$Market" "friends" "J", Cond.fieldLink RX2 41 "OnlyHalves$Market" "foes" "J", Cond.fieldLink RX2 44 "OnlyHalves$Market" "took" "I", Cond.fieldLink RX2 47 "OnlyHalves$Market" "today" "I", Cond.fieldLink RX2 9 "OnlyHalves$Market" "luck" "I", Cond.methodLink RX7 52 yX8_clear, Cond.instanceMethod yX8_clear, Cond.selects RX8 yX8_clear yX8_clear, Cond.code yX8_clear cX8_clear 1 none, Cond.fieldLink RX8 31 "OnlyHalves$States" "size" "I", Cond.fieldLink RX8 35 "OnlyHalves$States" "isOver" "Z", Cond.methodLink RX8 39 yJ7_fill_53178, Cond.static yJ7_fill_53178, Cond.initialized RJ7]
def wsX11_prepare_r3 : List Cond := [Cond.code yJ7_fill_53178 cJ7_fill_53178 4 none, Cond.methodLink RX7 55 yX8_add, Cond.instanceMethod yX8_add, Cond.selects RX8 yX8_add yX8_add, Cond.code yX8_add cX8_add 5 none, Cond.fieldLink RX8 45 "OnlyHalves$Market" "held" "J", Cond.fieldLink RX8 50 "OnlyHalves$Market" "lowCoin" "J", Cond.fieldLink RX8 52 "OnlyHalves$Market" "highCoin" "J", Cond.methodLink RX8 54 yX8_slotOf, Cond.instanceMethod yX8_slotOf, Cond.selects RX8 yX8_slotOf yX8_slotOf, Cond.code yX8_slotOf cX8_slotOf 6 (some .int), Cond.constantLong RX8 58 (-7046029254386353131), Cond.methodLink RX7 42 yX8_size, Cond.instanceMethod yX8_size, Cond.selects RX8 yX8_size yX8_size, Cond.code yX8_size cX8_size 1 (some .int), Cond.methodLink RX7 62 yX8_isOver, Cond.instanceMethod yX8_isOver, Cond.selects RX8 yX8_isOver yX8_isOver, Cond.code yX8_isOver cX8_isOver 1 (some .boolean), Cond.methodLink RX7 66 yX8_load, Cond.instanceMethod yX8_load, Cond.selects RX8 yX8_load yX8_load, Cond.code yX8_load cX8_load 3 none, Cond.methodLink RX7 87 yX7_addGifts, Cond.instanceMethod yX7_addGifts, Cond.selects RX7 yX7_addGifts yX7_addGifts, Cond.code yX7_addGifts cX7_addGifts 6 none, Cond.methodLink RX7 74 yX2_halves, Cond.instanceMethod yX2_halves, Cond.selects RX2 yX2_halves yX2_halves, Cond.code yX2_halves cX2_halves 1 (some .int), Cond.methodLink RX11 326 yX7_firstFeast, Cond.instanceMethod yX7_firstFeast, Cond.selects RX7 yX7_firstFeast yX7_firstFeast, Cond.code yX7_firstFeast cX7_firstFeast 3 (some .int), Cond.methodLink RX7 105 yX2_firstBarred, Cond.instanceMethod yX2_firstBarred, Cond.selects RX2 yX2_firstBarred yX2_firstBarred]
def wsX11_prepare_r4 : List Cond := [Cond.code yX2_firstBarred cX2_firstBarred 3 (some .int), Cond.methodLink RX7 108 yX2_firstClash, Cond.instanceMethod yX2_firstClash, Cond.selects RX2 yX2_firstClash yX2_firstClash, Cond.code yX2_firstClash cX2_firstClash 5 (some .int), Cond.methodLink RX11 206 yX11_clearRow, Cond.instanceMethod yX11_clearRow, Cond.selects RX11 yX11_clearRow yX11_clearRow, Cond.code yX11_clearRow cX11_clearRow 1 none, Cond.fieldLink RX11 420 "OnlyHalves" "numbersTold" "I", Cond.methodLink RX11 329 yX7_tracePath, Cond.instanceMethod yX7_tracePath, Cond.selects RX7 yX7_tracePath yX7_tracePath, Cond.code yX7_tracePath cX7_tracePath 5 (some .int), Cond.methodLink RX11 332 yX11_tellPath, Cond.instanceMethod yX11_tellPath, Cond.selects RX11 yX11_tellPath yX11_tellPath, Cond.code yX11_tellPath cX11_tellPath 4 (some .int)]
def wsX11_prepare : List Cond := .code yX11_prepare cX11_prepare 4 (some .int) :: ((wsX11_prepare_r1 ++ (wsX11_prepare_r2 ++ (wsX11_prepare_r3 ++ wsX11_prepare_r4))) ++ wsX110 ++ wsX20 ++ wsX70 ++ wsX80)
def wsX12_stateNow : List Cond := .code yX12_stateNow cX12_stateNow 6 (some .int) :: ([Cond.fieldLink RX12 114 "OnlyHalvesModel" "things" "I", Cond.fieldLink RX12 107 "OnlyHalvesModel" "people" "I", Cond.fieldLink RX12 74 "OnlyHalvesModel" "table" "[I", Cond.fieldLink RX12 334 "OnlyHalvesModel" "states" "I", Cond.fieldLink RX12 59 "OnlyHalvesModel" "holderIn" "[I", Cond.fieldLink RX12 26 "OnlyHalvesModel" "holder" "[I", Cond.fieldLink RX12 62 "OnlyHalvesModel" "coinIn" "[I", Cond.fieldLink RX12 9 "OnlyHalvesModel" "coin" "[I", Cond.fieldLink RX12 68 "OnlyHalvesModel" "parent" "[I", Cond.fieldLink RX12 71 "OnlyHalvesModel" "act" "[I", Cond.fieldLink RX12 65 "OnlyHalvesModel" "depth" "[I"] ++ wsX120)
def wsX12_clearStates : List Cond := .code yX12_clearStates cX12_clearStates 2 none :: ([Cond.fieldLink RX12 74 "OnlyHalvesModel" "table" "[I", Cond.fieldLink RX12 334 "OnlyHalvesModel" "states" "I", Cond.fieldLink RX12 77 "OnlyHalvesModel" "saved" "[I", Cond.methodLink RX12 267 yX12_lay, Cond.instanceMethod yX12_lay, Cond.selects RX12 yX12_lay yX12_lay, Cond.initialized RX12, Cond.code yX12_lay cX12_lay 4 none, Cond.fieldLink RX12 9 "OnlyHalvesModel" "coin" "[I", Cond.fieldLink RX12 26 "OnlyHalvesModel" "holder" "[I", Cond.methodLink RX12 337 yX12_stateNow, Cond.instanceMethod yX12_stateNow, Cond.selects RX12 yX12_stateNow yX12_stateNow, Cond.code yX12_stateNow cX12_stateNow 6 (some .int), Cond.fieldLink RX12 114 "OnlyHalvesModel" "things" "I", Cond.fieldLink RX12 107 "OnlyHalvesModel" "people" "I", Cond.fieldLink RX12 59 "OnlyHalvesModel" "holderIn" "[I", Cond.fieldLink RX12 62 "OnlyHalvesModel" "coinIn" "[I", Cond.fieldLink RX12 68 "OnlyHalvesModel" "parent" "[I", Cond.fieldLink RX12 71 "OnlyHalvesModel" "act" "[I", Cond.fieldLink RX12 65 "OnlyHalvesModel" "depth" "[I"] ++ wsX120)
def wsX12_load : List Cond := .code yX12_load cX12_load 3 none :: ([Cond.fieldLink RX12 114 "OnlyHalvesModel" "things" "I", Cond.fieldLink RX12 107 "OnlyHalvesModel" "people" "I"] ++ wsX120)
def wsX12_tellWay : List Cond := .code yX12_tellWay cX12_tellWay 5 (some .int) :: ([Cond.fieldLink RX12 65 "OnlyHalvesModel" "depth" "[I"] ++ wsX120)
def wsX12_prepare_r1 : List Cond := [Cond.fieldLink RX12 101 "OnlyHalvesModel" "thrown" "I", Cond.fieldLink RX12 334 "OnlyHalvesModel" "states" "I", Cond.fieldLink RX12 114 "OnlyHalvesModel" "things" "I", Cond.fieldLink RX12 77 "OnlyHalvesModel" "saved" "[I", Cond.fieldLink RX12 104 "OnlyHalvesModel" "rowMany" "I", Cond.methodLink RX12 328 yX12_areThings, Cond.instanceMethod yX12_areThings, Cond.selects RX12 yX12_areThings yX12_areThings, Cond.initialized RX12, Cond.code yX12_areThings cX12_areThings 2 (some .boolean), Cond.methodLink RX12 110 yX12_in, Cond.static yX12_in, Cond.code yX12_in cX12_in 3 (some .boolean), Cond.methodLink RX12 343 yX12_clearStates, Cond.instanceMethod yX12_clearStates, Cond.selects RX12 yX12_clearStates yX12_clearStates, Cond.code yX12_clearStates cX12_clearStates 2 none, Cond.fieldLink RX12 74 "OnlyHalvesModel" "table" "[I", Cond.methodLink RX12 267 yX12_lay, Cond.instanceMethod yX12_lay, Cond.selects RX12 yX12_lay yX12_lay, Cond.code yX12_lay cX12_lay 4 none, Cond.fieldLink RX12 9 "OnlyHalvesModel" "coin" "[I", Cond.fieldLink RX12 26 "OnlyHalvesModel" "holder" "[I", Cond.methodLink RX12 337 yX12_stateNow, Cond.instanceMethod yX12_stateNow, Cond.selects RX12 yX12_stateNow yX12_stateNow, Cond.code yX12_stateNow cX12_stateNow 6 (some .int), Cond.fieldLink RX12 107 "OnlyHalvesModel" "people" "I", Cond.fieldLink RX12 59 "OnlyHalvesModel" "holderIn" "[I", Cond.fieldLink RX12 62 "OnlyHalvesModel" "coinIn" "[I", Cond.fieldLink RX12 68 "OnlyHalvesModel" "parent" "[I", Cond.fieldLink RX12 71 "OnlyHalvesModel" "act" "[I", Cond.fieldLink RX12 65 "OnlyHalvesModel" "depth" "[I", Cond.methodLink RX12 346 yX12_load, Cond.instanceMethod yX12_load, Cond.selects RX12 yX12_load yX12_load, Cond.code yX12_load cX12_load 3 none, Cond.methodLink RX12 331 yX12_canFeast, Cond.instanceMethod yX12_canFeast]
def wsX12_prepare_r2 : List Cond := [Cond.selects RX12 yX12_canFeast yX12_canFeast, Cond.code yX12_canFeast cX12_canFeast 4 (some .boolean), Cond.methodLink RX12 277 yX12_bring, Cond.instanceMethod yX12_bring, Cond.selects RX12 yX12_bring yX12_bring, Cond.code yX12_bring cX12_bring 4 none, Cond.methodLink RX12 349 yX12_tellWay, Cond.instanceMethod yX12_tellWay, Cond.selects RX12 yX12_tellWay yX12_tellWay, Cond.code yX12_tellWay cX12_tellWay 5 (some .int)]
def wsX12_prepare : List Cond := .code yX12_prepare cX12_prepare 6 (some .int) :: ((wsX12_prepare_r1 ++ wsX12_prepare_r2) ++ wsX120)
def wsX11_areTwoHalves : List Cond := .code yX11_areTwoHalves cX11_areTwoHalves 3 (some .boolean) :: ([Cond.fieldLink RX11 21 "OnlyHalves" "market" "LOnlyHalves$Market;", Cond.methodLink RX11 435 yX2_hasHalf, Cond.instanceMethod yX2_hasHalf, Cond.selects RX2 yX2_hasHalf yX2_hasHalf, Cond.initialized RX2, Cond.code yX2_hasHalf cX2_hasHalf 2 (some .boolean), Cond.methodLink RX2 50 yX2_halves, Cond.instanceMethod yX2_halves, Cond.selects RX2 yX2_halves yX2_halves, Cond.code yX2_halves cX2_halves 1 (some .int), Cond.fieldLink RX2 25 "OnlyHalves$Market" "things" "I"] ++ wsX110 ++ wsX20)
def wsX11_maySwap : List Cond := .code yX11_maySwap cX11_maySwap 5 (some .int) :: ([Cond.methodLink RX11 336 yX11_areTwoHalves, Cond.instanceMethod yX11_areTwoHalves, Cond.selects RX11 yX11_areTwoHalves yX11_areTwoHalves, Cond.initialized RX11, Cond.code yX11_areTwoHalves cX11_areTwoHalves 3 (some .boolean), Cond.fieldLink RX11 21 "OnlyHalves" "market" "LOnlyHalves$Market;", Cond.methodLink RX11 435 yX2_hasHalf, Cond.instanceMethod yX2_hasHalf, Cond.selects RX2 yX2_hasHalf yX2_hasHalf, Cond.initialized RX2, Cond.code yX2_hasHalf cX2_hasHalf 2 (some .boolean), Cond.methodLink RX2 50 yX2_halves, Cond.instanceMethod yX2_halves, Cond.selects RX2 yX2_halves yX2_halves, Cond.code yX2_halves cX2_halves 1 (some .int), Cond.fieldLink RX2 25 "OnlyHalves$Market" "things" "I"] ++ wsX110 ++ wsX20)
def wsX12_areTwo : List Cond := .code yX12_areTwo cX12_areTwo 3 (some .boolean) :: ([Cond.methodLink RX12 242 yX12_isHalf, Cond.instanceMethod yX12_isHalf, Cond.selects RX12 yX12_isHalf yX12_isHalf, Cond.initialized RX12, Cond.code yX12_isHalf cX12_isHalf 2 (some .boolean), Cond.fieldLink RX12 114 "OnlyHalvesModel" "things" "I", Cond.methodLink RX12 110 yX12_in, Cond.static yX12_in, Cond.code yX12_in cX12_in 3 (some .boolean)] ++ wsX120)
def wsX12_maySwap : List Cond := .code yX12_maySwap cX12_maySwap 4 (some .int) :: ([Cond.fieldLink RX12 101 "OnlyHalvesModel" "thrown" "I", Cond.methodLink RX12 361 yX12_areTwo, Cond.instanceMethod yX12_areTwo, Cond.selects RX12 yX12_areTwo yX12_areTwo, Cond.initialized RX12, Cond.code yX12_areTwo cX12_areTwo 3 (some .boolean), Cond.methodLink RX12 242 yX12_isHalf, Cond.instanceMethod yX12_isHalf, Cond.selects RX12 yX12_isHalf yX12_isHalf, Cond.code yX12_isHalf cX12_isHalf 2 (some .boolean), Cond.fieldLink RX12 114 "OnlyHalvesModel" "things" "I", Cond.methodLink RX12 110 yX12_in, Cond.static yX12_in, Cond.code yX12_in cX12_in 3 (some .boolean)] ++ wsX120)
def wsX11_swap : List Cond := .code yX11_swap cX11_swap 3 (some .int) :: ([Cond.methodLink RX11 336 yX11_areTwoHalves, Cond.instanceMethod yX11_areTwoHalves, Cond.selects RX11 yX11_areTwoHalves yX11_areTwoHalves, Cond.initialized RX11, Cond.code yX11_areTwoHalves cX11_areTwoHalves 3 (some .boolean), Cond.fieldLink RX11 21 "OnlyHalves" "market" "LOnlyHalves$Market;", Cond.methodLink RX11 435 yX2_hasHalf, Cond.instanceMethod yX2_hasHalf, Cond.selects RX2 yX2_hasHalf yX2_hasHalf, Cond.initialized RX2, Cond.code yX2_hasHalf cX2_hasHalf 2 (some .boolean), Cond.methodLink RX2 50 yX2_halves, Cond.instanceMethod yX2_halves, Cond.selects RX2 yX2_halves yX2_halves, Cond.code yX2_halves cX2_halves 1 (some .int), Cond.fieldLink RX2 25 "OnlyHalves$Market" "things" "I"] ++ wsX110 ++ wsX20)
def wsX12_swap : List Cond := .code yX12_swap cX12_swap 3 (some .int) :: ([Cond.fieldLink RX12 101 "OnlyHalvesModel" "thrown" "I", Cond.methodLink RX12 361 yX12_areTwo, Cond.instanceMethod yX12_areTwo, Cond.selects RX12 yX12_areTwo yX12_areTwo, Cond.initialized RX12, Cond.code yX12_areTwo cX12_areTwo 3 (some .boolean), Cond.methodLink RX12 242 yX12_isHalf, Cond.instanceMethod yX12_isHalf, Cond.selects RX12 yX12_isHalf yX12_isHalf, Cond.code yX12_isHalf cX12_isHalf 2 (some .boolean), Cond.fieldLink RX12 114 "OnlyHalvesModel" "things" "I", Cond.methodLink RX12 110 yX12_in, Cond.static yX12_in, Cond.code yX12_in cX12_in 3 (some .boolean)] ++ wsX120)
def wsX10_countGood : List Cond := .code yX10_countGood cX10_countGood 5 (some .int) :: ([Cond.methodLink RX10 81 yX2_halves, Cond.instanceMethod yX2_halves, Cond.selects RX2 yX2_halves yX2_halves, Cond.initialized RX2, Cond.code yX2_halves cX2_halves 1 (some .int), Cond.fieldLink RX2 25 "OnlyHalves$Market" "things" "I"] ++ wsX20)
def wsX11_good : List Cond := .code yX11_good cX11_good 2 (some .int) :: ([Cond.fieldLink RX11 48 "OnlyHalves" "trade" "LOnlyHalves$Trade;", Cond.fieldLink RX11 21 "OnlyHalves" "market" "LOnlyHalves$Market;", Cond.methodLink RX11 352 yX10_countGood, Cond.instanceMethod yX10_countGood, Cond.selects RX10 yX10_countGood yX10_countGood, Cond.initialized RX10, Cond.code yX10_countGood cX10_countGood 5 (some .int), Cond.methodLink RX10 81 yX2_halves, Cond.instanceMethod yX2_halves, Cond.selects RX2 yX2_halves yX2_halves, Cond.initialized RX2, Cond.code yX2_halves cX2_halves 1 (some .int), Cond.fieldLink RX2 25 "OnlyHalves$Market" "things" "I", Cond.methodLink RX11 206 yX11_clearRow, Cond.instanceMethod yX11_clearRow, Cond.selects RX11 yX11_clearRow yX11_clearRow, Cond.initialized RX11, Cond.code yX11_clearRow cX11_clearRow 1 none, Cond.fieldLink RX11 420 "OnlyHalves" "numbersTold" "I"] ++ wsX110 ++ wsX20)
def wsX12_findGood : List Cond := .code yX12_findGood cX12_findGood 4 (some .int) :: ([Cond.fieldLink RX12 373 "OnlyHalvesModel" "goodFirst" "I", Cond.fieldLink RX12 114 "OnlyHalvesModel" "things" "I"] ++ wsX120)
def wsX12_good : List Cond := .code yX12_good cX12_good 2 (some .int) :: ([Cond.fieldLink RX12 101 "OnlyHalvesModel" "thrown" "I", Cond.fieldLink RX12 104 "OnlyHalvesModel" "rowMany" "I", Cond.methodLink RX12 376 yX12_findGood, Cond.instanceMethod yX12_findGood, Cond.selects RX12 yX12_findGood yX12_findGood, Cond.initialized RX12, Cond.code yX12_findGood cX12_findGood 4 (some .int), Cond.fieldLink RX12 373 "OnlyHalvesModel" "goodFirst" "I", Cond.fieldLink RX12 114 "OnlyHalvesModel" "things" "I"] ++ wsX120)
def wsX10_firstGood : List Cond := .code yX10_firstGood cX10_firstGood 4 (some .int) :: ([Cond.methodLink RX10 81 yX2_halves, Cond.instanceMethod yX2_halves, Cond.selects RX2 yX2_halves yX2_halves, Cond.initialized RX2, Cond.code yX2_halves cX2_halves 1 (some .int), Cond.fieldLink RX2 25 "OnlyHalves$Market" "things" "I"] ++ wsX20)
def wsX2_togetherBits : List Cond := .code yX2_togetherBits cX2_togetherBits 3 (some .int) :: ([Cond.fieldLink RX2 25 "OnlyHalves$Market" "things" "I"] ++ wsX20)
def wsJ6_bitCount_0f7a4 : List Cond := .code yJ6_bitCount_0f7a4 cJ6_bitCount_0f7a4 1 (some .int) :: ([Cond.constant RJ6 265 (1431655765), Cond.constant RJ6 266 (858993459), Cond.constant RJ6 267 (252645135)])
def wsX2_countTogether : List Cond := .code yX2_countTogether cX2_countTogether 1 (some .int) :: ([Cond.methodLink RX2 103 yX2_togetherBits, Cond.instanceMethod yX2_togetherBits, Cond.selects RX2 yX2_togetherBits yX2_togetherBits, Cond.initialized RX2, Cond.code yX2_togetherBits cX2_togetherBits 3 (some .int), Cond.fieldLink RX2 25 "OnlyHalves$Market" "things" "I", Cond.methodLink RX2 106 yJ6_bitCount_0f7a4, Cond.static yJ6_bitCount_0f7a4, Cond.initialized RJ6, Cond.code yJ6_bitCount_0f7a4 cJ6_bitCount_0f7a4 1 (some .int), Cond.constant RJ6 265 (1431655765), Cond.constant RJ6 266 (858993459), Cond.constant RJ6 267 (252645135)] ++ wsX20)
def wsX11_rests : List Cond := .code yX11_rests cX11_rests 4 (some .int) :: ([Cond.fieldLink RX11 48 "OnlyHalves" "trade" "LOnlyHalves$Trade;", Cond.fieldLink RX11 21 "OnlyHalves" "market" "LOnlyHalves$Market;", Cond.methodLink RX11 356 yX10_firstGood, Cond.instanceMethod yX10_firstGood, Cond.selects RX10 yX10_firstGood yX10_firstGood, Cond.initialized RX10, Cond.code yX10_firstGood cX10_firstGood 4 (some .int), Cond.methodLink RX10 81 yX2_halves, Cond.instanceMethod yX2_halves, Cond.selects RX2 yX2_halves yX2_halves, Cond.initialized RX2, Cond.code yX2_halves cX2_halves 1 (some .int), Cond.fieldLink RX2 25 "OnlyHalves$Market" "things" "I", Cond.methodLink RX11 206 yX11_clearRow, Cond.instanceMethod yX11_clearRow, Cond.selects RX11 yX11_clearRow yX11_clearRow, Cond.initialized RX11, Cond.code yX11_clearRow cX11_clearRow 1 none, Cond.fieldLink RX11 420 "OnlyHalves" "numbersTold" "I", Cond.methodLink RX11 212 yX11_tell, Cond.instanceMethod yX11_tell, Cond.selects RX11 yX11_tell yX11_tell, Cond.code yX11_tell cX11_tell 2 none, Cond.fieldLink RX11 87 "OnlyHalves" "numbers" "[I", Cond.methodLink RX11 349 yX2_countTogether, Cond.instanceMethod yX2_countTogether, Cond.selects RX2 yX2_countTogether yX2_countTogether, Cond.code yX2_countTogether cX2_countTogether 1 (some .int), Cond.methodLink RX2 103 yX2_togetherBits, Cond.instanceMethod yX2_togetherBits, Cond.selects RX2 yX2_togetherBits yX2_togetherBits, Cond.code yX2_togetherBits cX2_togetherBits 3 (some .int), Cond.methodLink RX2 106 yJ6_bitCount_0f7a4, Cond.static yJ6_bitCount_0f7a4, Cond.initialized RJ6, Cond.code yJ6_bitCount_0f7a4 cJ6_bitCount_0f7a4 1 (some .int), Cond.constant RJ6 265 (1431655765), Cond.constant RJ6 266 (858993459), Cond.constant RJ6 267 (252645135)] ++ wsX110 ++ wsX20)
def wsX12_together : List Cond := .code yX12_together cX12_together 3 (some .int) :: ([Cond.fieldLink RX12 114 "OnlyHalvesModel" "things" "I"] ++ wsX120)
def wsX12_rests : List Cond := .code yX12_rests cX12_rests 4 (some .int) :: ([Cond.fieldLink RX12 101 "OnlyHalvesModel" "thrown" "I", Cond.fieldLink RX12 104 "OnlyHalvesModel" "rowMany" "I", Cond.methodLink RX12 110 yX12_in, Cond.static yX12_in, Cond.initialized RX12, Cond.code yX12_in cX12_in 3 (some .boolean), Cond.methodLink RX12 376 yX12_findGood, Cond.instanceMethod yX12_findGood, Cond.selects RX12 yX12_findGood yX12_findGood, Cond.code yX12_findGood cX12_findGood 4 (some .int), Cond.fieldLink RX12 373 "OnlyHalvesModel" "goodFirst" "I", Cond.fieldLink RX12 114 "OnlyHalvesModel" "things" "I", Cond.methodLink RX12 264 yX12_tell, Cond.instanceMethod yX12_tell, Cond.selects RX12 yX12_tell yX12_tell, Cond.code yX12_tell cX12_tell 2 none, Cond.fieldLink RX12 40 "OnlyHalvesModel" "row" "[I", Cond.methodLink RX12 370 yX12_together, Cond.instanceMethod yX12_together, Cond.selects RX12 yX12_together yX12_together, Cond.code yX12_together cX12_together 3 (some .int), Cond.methodLink RX12 314 yJ6_bitCount_0f7a4, Cond.static yJ6_bitCount_0f7a4, Cond.initialized RJ6, Cond.code yJ6_bitCount_0f7a4 cJ6_bitCount_0f7a4 1 (some .int), Cond.constant RJ6 265 (1431655765), Cond.constant RJ6 266 (858993459), Cond.constant RJ6 267 (252645135)] ++ wsX120)
def wsX7_addSwaps : List Cond := .code yX7_addSwaps cX7_addSwaps 4 none :: ([Cond.fieldLink RX7 38 "OnlyHalves$Search" "then" "LOnlyHalves$Market;", Cond.methodLink RX7 74 yX2_halves, Cond.instanceMethod yX2_halves, Cond.selects RX2 yX2_halves yX2_halves, Cond.initialized RX2, Cond.code yX2_halves cX2_halves 1 (some .int), Cond.fieldLink RX2 25 "OnlyHalves$Market" "things" "I"] ++ wsX70 ++ wsX20)
def wsX7_spreadSwaps_r1 : List Cond := [Cond.fieldLink RX7 12 "OnlyHalves$Search" "states" "LOnlyHalves$States;", Cond.fieldLink RX7 38 "OnlyHalves$Search" "then" "LOnlyHalves$Market;", Cond.methodLink RX7 59 yX7_begin, Cond.instanceMethod yX7_begin, Cond.selects RX7 yX7_begin yX7_begin, Cond.initialized RX7, Cond.code yX7_begin cX7_begin 2 none, Cond.methodLink RX7 46 yX2_copy, Cond.instanceMethod yX2_copy, Cond.selects RX2 yX2_copy yX2_copy, Cond.initialized RX2, Cond.code yX2_copy cX2_copy 2 none, Cond.fieldLink RX2 22 "OnlyHalves$Market" "people" "I", Cond.fieldLink RX2 25 "OnlyHalves$Market" "things" "I", Cond.fieldLink RX2 28 "OnlyHalves$Market" "held" "J", Cond.fieldLink RX2 32 "OnlyHalves$Market" "lowCoin" "J", Cond.fieldLink RX2 35 "OnlyHalves$Market" "highCoin" "J", Cond.fieldLink RX2 38 "OnlyHalves$Market" "friends" "J", Cond.fieldLink RX2 41 "OnlyHalves$Market" "foes" "J", Cond.fieldLink RX2 44 "OnlyHalves$Market" "took" "I", Cond.fieldLink RX2 47 "OnlyHalves$Market" "today" "I", Cond.fieldLink RX2 9 "OnlyHalves$Market" "luck" "I", Cond.methodLink RX7 52 yX8_clear, Cond.instanceMethod yX8_clear, Cond.selects RX8 yX8_clear yX8_clear, Cond.initialized RX8, Cond.code yX8_clear cX8_clear 1 none, Cond.fieldLink RX8 28 "OnlyHalves$States" "slots" "[I", Cond.fieldLink RX8 31 "OnlyHalves$States" "size" "I", Cond.fieldLink RX8 35 "OnlyHalves$States" "isOver" "Z", Cond.methodLink RX8 39 yJ7_fill_53178, Cond.static yJ7_fill_53178, Cond.initialized RJ7, Cond.code yJ7_fill_53178 cJ7_fill_53178 4 none, Cond.methodLink RX7 55 yX8_add, Cond.instanceMethod yX8_add, Cond.selects RX8 yX8_add yX8_add, Cond.code yX8_add cX8_add 5 none, Cond.fieldLink RX8 9 "OnlyHalves$States" "held" "[J", Cond.fieldLink RX8 45 "OnlyHalves$Market" "held" "J"]
def wsX7_spreadSwaps_r2 : List Cond := [Cond.fieldLink RX8 15 "OnlyHalves$States" "lowCoin" "[J", Cond.fieldLink RX8 50 "OnlyHalves$Market" "lowCoin" "J", Cond.fieldLink RX8 18 "OnlyHalves$States" "highCoin" "[J", Cond.fieldLink RX8 52 "OnlyHalves$Market" "highCoin" "J", Cond.fieldLink RX8 21 "OnlyHalves$States" "from" "[I", Cond.fieldLink RX8 25 "OnlyHalves$States" "step" "[I", Cond.methodLink RX8 54 yX8_slotOf, Cond.instanceMethod yX8_slotOf, Cond.selects RX8 yX8_slotOf yX8_slotOf, Cond.code yX8_slotOf cX8_slotOf 6 (some .int), Cond.constantLong RX8 58 (-7046029254386353131), Cond.methodLink RX7 42 yX8_size, Cond.instanceMethod yX8_size, Cond.selects RX8 yX8_size yX8_size, Cond.code yX8_size cX8_size 1 (some .int), Cond.methodLink RX7 62 yX8_isOver, Cond.instanceMethod yX8_isOver, Cond.selects RX8 yX8_isOver yX8_isOver, Cond.code yX8_isOver cX8_isOver 1 (some .boolean), Cond.methodLink RX7 66 yX8_load, Cond.instanceMethod yX8_load, Cond.selects RX8 yX8_load yX8_load, Cond.code yX8_load cX8_load 3 none, Cond.methodLink RX7 70 yX7_addSwaps, Cond.instanceMethod yX7_addSwaps, Cond.selects RX7 yX7_addSwaps yX7_addSwaps, Cond.code yX7_addSwaps cX7_addSwaps 4 none, Cond.methodLink RX7 74 yX2_halves, Cond.instanceMethod yX2_halves, Cond.selects RX2 yX2_halves yX2_halves, Cond.code yX2_halves cX2_halves 1 (some .int)]
def wsX7_spreadSwaps : List Cond := .code yX7_spreadSwaps cX7_spreadSwaps 3 (some .boolean) :: ((wsX7_spreadSwaps_r1 ++ wsX7_spreadSwaps_r2) ++ wsX70 ++ wsX20 ++ wsX80)
def wsX7_firstFriendliest : List Cond := .code yX7_firstFriendliest cX7_firstFriendliest 3 (some .int) :: ([Cond.fieldLink RX7 111 "OnlyHalves$Search" "together" "I", Cond.fieldLink RX7 12 "OnlyHalves$Search" "states" "LOnlyHalves$States;", Cond.fieldLink RX7 38 "OnlyHalves$Search" "then" "LOnlyHalves$Market;", Cond.methodLink RX7 42 yX8_size, Cond.instanceMethod yX8_size, Cond.selects RX8 yX8_size yX8_size, Cond.initialized RX8, Cond.code yX8_size cX8_size 1 (some .int), Cond.fieldLink RX8 31 "OnlyHalves$States" "size" "I", Cond.methodLink RX7 66 yX8_load, Cond.instanceMethod yX8_load, Cond.selects RX8 yX8_load yX8_load, Cond.code yX8_load cX8_load 3 none, Cond.fieldLink RX8 9 "OnlyHalves$States" "held" "[J", Cond.fieldLink RX8 45 "OnlyHalves$Market" "held" "J", Cond.fieldLink RX8 15 "OnlyHalves$States" "lowCoin" "[J", Cond.fieldLink RX8 50 "OnlyHalves$Market" "lowCoin" "J", Cond.fieldLink RX8 18 "OnlyHalves$States" "highCoin" "[J", Cond.fieldLink RX8 52 "OnlyHalves$Market" "highCoin" "J", Cond.methodLink RX7 114 yX2_countTogether, Cond.instanceMethod yX2_countTogether, Cond.selects RX2 yX2_countTogether yX2_countTogether, Cond.initialized RX2, Cond.code yX2_countTogether cX2_countTogether 1 (some .int), Cond.methodLink RX2 103 yX2_togetherBits, Cond.instanceMethod yX2_togetherBits, Cond.selects RX2 yX2_togetherBits yX2_togetherBits, Cond.code yX2_togetherBits cX2_togetherBits 3 (some .int), Cond.fieldLink RX2 25 "OnlyHalves$Market" "things" "I", Cond.methodLink RX2 106 yJ6_bitCount_0f7a4, Cond.static yJ6_bitCount_0f7a4, Cond.initialized RJ6, Cond.code yJ6_bitCount_0f7a4 cJ6_bitCount_0f7a4 1 (some .int), Cond.constant RJ6 265 (1431655765), Cond.constant RJ6 266 (858993459), Cond.constant RJ6 267 (252645135)] ++ wsX70 ++ wsX80 ++ wsX20)
def wsX11_friends_r1 : List Cond := [Cond.fieldLink RX11 21 "OnlyHalves" "market" "LOnlyHalves$Market;", Cond.fieldLink RX11 365 "OnlyHalves$Search" "together" "I", Cond.methodLink RX11 317 yX11_searching, Cond.instanceMethod yX11_searching, Cond.selects RX11 yX11_searching yX11_searching, Cond.initialized RX11, Cond.code yX11_searching cX11_searching 1 (some (.object "OnlyHalves$Search")), Cond.fieldLink RX11 428 "OnlyHalves" "search" "LOnlyHalves$Search;", Cond.classLink RX11 322 RX7, Cond.instantiable RX7 9, Cond.initialized RX7, Cond.fieldLink RX11 48 "OnlyHalves" "trade" "LOnlyHalves$Trade;", Cond.fieldLink RX11 25 "OnlyHalves" "then" "LOnlyHalves$Market;", Cond.methodLink RX11 432 yX7_init, Cond.instanceMethod yX7_init, Cond.code yX7_init cX7_init 3 none, Cond.methodLink RX7 3 objectInit, Cond.instanceMethod objectInit, Cond.code objectInit ⟨#[0xb1]⟩ 1 none, Cond.classLink RX7 9 RX8, Cond.instantiable RX8 8, Cond.initialized RX8, Cond.instanceMethod yX8_init, Cond.fieldLink RX7 12 "OnlyHalves$Search" "states" "LOnlyHalves$States;", Cond.arrayClass .int, Cond.fieldLink RX7 18 "OnlyHalves$Search" "path" "[I", Cond.fieldLink RX7 22 "OnlyHalves$Search" "gets" "[I", Cond.fieldLink RX7 25 "OnlyHalves$Search" "sales" "[I", Cond.fieldLink RX7 28 "OnlyHalves$Search" "firstSale" "[I", Cond.fieldLink RX7 31 "OnlyHalves$Search" "after" "[I", Cond.fieldLink RX7 34 "OnlyHalves$Search" "trade" "LOnlyHalves$Trade;", Cond.fieldLink RX7 38 "OnlyHalves$Search" "then" "LOnlyHalves$Market;", Cond.code yX8_init cX8_init 1 none, Cond.methodLink RX8 3 objectInit, Cond.arrayClass .long, Cond.fieldLink RX8 9 "OnlyHalves$States" "held" "[J", Cond.fieldLink RX8 15 "OnlyHalves$States" "lowCoin" "[J", Cond.fieldLink RX8 18 "OnlyHalves$States" "highCoin" "[J", Cond.fieldLink RX8 21 "OnlyHalves$States" "from" "[I", Cond.fieldLink RX8 25 "OnlyHalves$States" "step" "[I"]
def wsX11_friends_r2 : List Cond := [Cond.fieldLink RX8 28 "OnlyHalves$States" "slots" "[I", Cond.methodLink RX11 359 yX7_spreadSwaps, Cond.instanceMethod yX7_spreadSwaps, Cond.selects RX7 yX7_spreadSwaps yX7_spreadSwaps, Cond.code yX7_spreadSwaps cX7_spreadSwaps 3 (some .boolean), Cond.methodLink RX7 59 yX7_begin, Cond.instanceMethod yX7_begin, Cond.selects RX7 yX7_begin yX7_begin, Cond.code yX7_begin cX7_begin 2 none, Cond.methodLink RX7 46 yX2_copy, Cond.instanceMethod yX2_copy, Cond.selects RX2 yX2_copy yX2_copy, Cond.initialized RX2, Cond.code yX2_copy cX2_copy 2 none, Cond.fieldLink RX2 22 "OnlyHalves$Market" "people" "I", Cond.fieldLink RX2 25 "OnlyHalves$Market" "things" "I", Cond.fieldLink RX2 28 "OnlyHalves$Market" "held" "J", Cond.fieldLink RX2 32 "OnlyHalves$Market" "lowCoin" "J", Cond.fieldLink RX2 35 "OnlyHalves$Market" "highCoin" "J", Cond.fieldLink RX2 38 "OnlyHalves$Market" "friends" "J", Cond.fieldLink RX2 41 "OnlyHalves$Market" "foes" "J", Cond.fieldLink RX2 44 "OnlyHalves$Market" "took" "I", Cond.fieldLink RX2 47 "OnlyHalves$Market" "today" "I", Cond.fieldLink RX2 9 "OnlyHalves$Market" "luck" "I", Cond.methodLink RX7 52 yX8_clear, Cond.instanceMethod yX8_clear, Cond.selects RX8 yX8_clear yX8_clear, Cond.code yX8_clear cX8_clear 1 none, Cond.fieldLink RX8 31 "OnlyHalves$States" "size" "I", Cond.fieldLink RX8 35 "OnlyHalves$States" "isOver" "Z", Cond.methodLink RX8 39 yJ7_fill_53178, Cond.static yJ7_fill_53178, Cond.initialized RJ7, Cond.code yJ7_fill_53178 cJ7_fill_53178 4 none, Cond.methodLink RX7 55 yX8_add, Cond.instanceMethod yX8_add, Cond.selects RX8 yX8_add yX8_add, Cond.code yX8_add cX8_add 5 none, Cond.fieldLink RX8 45 "OnlyHalves$Market" "held" "J", Cond.fieldLink RX8 50 "OnlyHalves$Market" "lowCoin" "J"]
def wsX11_friends_r3 : List Cond := [Cond.fieldLink RX8 52 "OnlyHalves$Market" "highCoin" "J", Cond.methodLink RX8 54 yX8_slotOf, Cond.instanceMethod yX8_slotOf, Cond.selects RX8 yX8_slotOf yX8_slotOf, Cond.code yX8_slotOf cX8_slotOf 6 (some .int), Cond.constantLong RX8 58 (-7046029254386353131), Cond.methodLink RX7 42 yX8_size, Cond.instanceMethod yX8_size, Cond.selects RX8 yX8_size yX8_size, Cond.code yX8_size cX8_size 1 (some .int), Cond.methodLink RX7 62 yX8_isOver, Cond.instanceMethod yX8_isOver, Cond.selects RX8 yX8_isOver yX8_isOver, Cond.code yX8_isOver cX8_isOver 1 (some .boolean), Cond.methodLink RX7 66 yX8_load, Cond.instanceMethod yX8_load, Cond.selects RX8 yX8_load yX8_load, Cond.code yX8_load cX8_load 3 none, Cond.methodLink RX7 70 yX7_addSwaps, Cond.instanceMethod yX7_addSwaps, Cond.selects RX7 yX7_addSwaps yX7_addSwaps, Cond.code yX7_addSwaps cX7_addSwaps 4 none, Cond.methodLink RX7 74 yX2_halves, Cond.instanceMethod yX2_halves, Cond.selects RX2 yX2_halves yX2_halves, Cond.code yX2_halves cX2_halves 1 (some .int), Cond.methodLink RX11 362 yX7_firstFriendliest, Cond.instanceMethod yX7_firstFriendliest, Cond.selects RX7 yX7_firstFriendliest yX7_firstFriendliest, Cond.code yX7_firstFriendliest cX7_firstFriendliest 3 (some .int), Cond.fieldLink RX7 111 "OnlyHalves$Search" "together" "I", Cond.methodLink RX7 114 yX2_countTogether, Cond.instanceMethod yX2_countTogether, Cond.selects RX2 yX2_countTogether yX2_countTogether, Cond.code yX2_countTogether cX2_countTogether 1 (some .int), Cond.methodLink RX2 103 yX2_togetherBits, Cond.instanceMethod yX2_togetherBits, Cond.selects RX2 yX2_togetherBits yX2_togetherBits, Cond.code yX2_togetherBits cX2_togetherBits 3 (some .int), Cond.methodLink RX2 106 yJ6_bitCount_0f7a4]
def wsX11_friends_r4 : List Cond := [Cond.static yJ6_bitCount_0f7a4, Cond.initialized RJ6, Cond.code yJ6_bitCount_0f7a4 cJ6_bitCount_0f7a4 1 (some .int), Cond.constant RJ6 265 (1431655765), Cond.constant RJ6 266 (858993459), Cond.constant RJ6 267 (252645135), Cond.methodLink RX11 206 yX11_clearRow, Cond.instanceMethod yX11_clearRow, Cond.selects RX11 yX11_clearRow yX11_clearRow, Cond.code yX11_clearRow cX11_clearRow 1 none, Cond.fieldLink RX11 420 "OnlyHalves" "numbersTold" "I", Cond.methodLink RX11 212 yX11_tell, Cond.instanceMethod yX11_tell, Cond.selects RX11 yX11_tell yX11_tell, Cond.code yX11_tell cX11_tell 2 none, Cond.fieldLink RX11 87 "OnlyHalves" "numbers" "[I", Cond.methodLink RX11 329 yX7_tracePath, Cond.instanceMethod yX7_tracePath, Cond.selects RX7 yX7_tracePath yX7_tracePath, Cond.code yX7_tracePath cX7_tracePath 5 (some .int), Cond.methodLink RX11 332 yX11_tellPath, Cond.instanceMethod yX11_tellPath, Cond.selects RX11 yX11_tellPath yX11_tellPath, Cond.code yX11_tellPath cX11_tellPath 4 (some .int)]
def wsX11_friends : List Cond := .code yX11_friends cX11_friends 3 (some .int) :: ((wsX11_friends_r1 ++ (wsX11_friends_r2 ++ (wsX11_friends_r3 ++ wsX11_friends_r4))) ++ wsX110 ++ wsX70 ++ wsX80 ++ wsX20)
def wsX12_findSwaps : List Cond := .code yX12_findSwaps cX12_findSwaps 5 (some .boolean) :: ([Cond.fieldLink RX12 334 "OnlyHalvesModel" "states" "I", Cond.fieldLink RX12 114 "OnlyHalvesModel" "things" "I", Cond.fieldLink RX12 77 "OnlyHalvesModel" "saved" "[I", Cond.methodLink RX12 343 yX12_clearStates, Cond.instanceMethod yX12_clearStates, Cond.selects RX12 yX12_clearStates yX12_clearStates, Cond.initialized RX12, Cond.code yX12_clearStates cX12_clearStates 2 none, Cond.fieldLink RX12 74 "OnlyHalvesModel" "table" "[I", Cond.methodLink RX12 267 yX12_lay, Cond.instanceMethod yX12_lay, Cond.selects RX12 yX12_lay yX12_lay, Cond.code yX12_lay cX12_lay 4 none, Cond.fieldLink RX12 9 "OnlyHalvesModel" "coin" "[I", Cond.fieldLink RX12 26 "OnlyHalvesModel" "holder" "[I", Cond.methodLink RX12 337 yX12_stateNow, Cond.instanceMethod yX12_stateNow, Cond.selects RX12 yX12_stateNow yX12_stateNow, Cond.code yX12_stateNow cX12_stateNow 6 (some .int), Cond.fieldLink RX12 107 "OnlyHalvesModel" "people" "I", Cond.fieldLink RX12 59 "OnlyHalvesModel" "holderIn" "[I", Cond.fieldLink RX12 62 "OnlyHalvesModel" "coinIn" "[I", Cond.fieldLink RX12 68 "OnlyHalvesModel" "parent" "[I", Cond.fieldLink RX12 71 "OnlyHalvesModel" "act" "[I", Cond.fieldLink RX12 65 "OnlyHalvesModel" "depth" "[I", Cond.methodLink RX12 277 yX12_bring, Cond.instanceMethod yX12_bring, Cond.selects RX12 yX12_bring yX12_bring, Cond.code yX12_bring cX12_bring 4 none] ++ wsX120)
def wsX12_friends_r1 : List Cond := [Cond.fieldLink RX12 101 "OnlyHalvesModel" "thrown" "I", Cond.fieldLink RX12 334 "OnlyHalvesModel" "states" "I", Cond.fieldLink RX12 77 "OnlyHalvesModel" "saved" "[I", Cond.fieldLink RX12 104 "OnlyHalvesModel" "rowMany" "I", Cond.methodLink RX12 379 yX12_findSwaps, Cond.instanceMethod yX12_findSwaps, Cond.selects RX12 yX12_findSwaps yX12_findSwaps, Cond.initialized RX12, Cond.code yX12_findSwaps cX12_findSwaps 5 (some .boolean), Cond.fieldLink RX12 114 "OnlyHalvesModel" "things" "I", Cond.methodLink RX12 343 yX12_clearStates, Cond.instanceMethod yX12_clearStates, Cond.selects RX12 yX12_clearStates yX12_clearStates, Cond.code yX12_clearStates cX12_clearStates 2 none, Cond.fieldLink RX12 74 "OnlyHalvesModel" "table" "[I", Cond.methodLink RX12 267 yX12_lay, Cond.instanceMethod yX12_lay, Cond.selects RX12 yX12_lay yX12_lay, Cond.code yX12_lay cX12_lay 4 none, Cond.fieldLink RX12 9 "OnlyHalvesModel" "coin" "[I", Cond.fieldLink RX12 26 "OnlyHalvesModel" "holder" "[I", Cond.methodLink RX12 337 yX12_stateNow, Cond.instanceMethod yX12_stateNow, Cond.selects RX12 yX12_stateNow yX12_stateNow, Cond.code yX12_stateNow cX12_stateNow 6 (some .int), Cond.fieldLink RX12 107 "OnlyHalvesModel" "people" "I", Cond.fieldLink RX12 59 "OnlyHalvesModel" "holderIn" "[I", Cond.fieldLink RX12 62 "OnlyHalvesModel" "coinIn" "[I", Cond.fieldLink RX12 68 "OnlyHalvesModel" "parent" "[I", Cond.fieldLink RX12 71 "OnlyHalvesModel" "act" "[I", Cond.fieldLink RX12 65 "OnlyHalvesModel" "depth" "[I", Cond.methodLink RX12 277 yX12_bring, Cond.instanceMethod yX12_bring, Cond.selects RX12 yX12_bring yX12_bring, Cond.code yX12_bring cX12_bring 4 none, Cond.methodLink RX12 346 yX12_load, Cond.instanceMethod yX12_load, Cond.selects RX12 yX12_load yX12_load, Cond.code yX12_load cX12_load 3 none, Cond.methodLink RX12 370 yX12_together]
def wsX12_friends_r2 : List Cond := [Cond.instanceMethod yX12_together, Cond.selects RX12 yX12_together yX12_together, Cond.code yX12_together cX12_together 3 (some .int), Cond.methodLink RX12 314 yJ6_bitCount_0f7a4, Cond.static yJ6_bitCount_0f7a4, Cond.initialized RJ6, Cond.code yJ6_bitCount_0f7a4 cJ6_bitCount_0f7a4 1 (some .int), Cond.constant RJ6 265 (1431655765), Cond.constant RJ6 266 (858993459), Cond.constant RJ6 267 (252645135), Cond.methodLink RX12 264 yX12_tell, Cond.instanceMethod yX12_tell, Cond.selects RX12 yX12_tell yX12_tell, Cond.code yX12_tell cX12_tell 2 none, Cond.fieldLink RX12 40 "OnlyHalvesModel" "row" "[I", Cond.methodLink RX12 349 yX12_tellWay, Cond.instanceMethod yX12_tellWay, Cond.selects RX12 yX12_tellWay yX12_tellWay, Cond.code yX12_tellWay cX12_tellWay 5 (some .int)]
def wsX12_friends : List Cond := .code yX12_friends cX12_friends 5 (some .int) :: ((wsX12_friends_r1 ++ wsX12_friends_r2) ++ wsX120)
def wsX7_countResting : List Cond := .code yX7_countResting cX7_countResting 3 (some .int) :: ([Cond.fieldLink RX7 12 "OnlyHalves$Search" "states" "LOnlyHalves$States;", Cond.fieldLink RX7 38 "OnlyHalves$Search" "then" "LOnlyHalves$Market;", Cond.fieldLink RX7 34 "OnlyHalves$Search" "trade" "LOnlyHalves$Trade;", Cond.methodLink RX7 42 yX8_size, Cond.instanceMethod yX8_size, Cond.selects RX8 yX8_size yX8_size, Cond.initialized RX8, Cond.code yX8_size cX8_size 1 (some .int), Cond.fieldLink RX8 31 "OnlyHalves$States" "size" "I", Cond.methodLink RX7 66 yX8_load, Cond.instanceMethod yX8_load, Cond.selects RX8 yX8_load yX8_load, Cond.code yX8_load cX8_load 3 none, Cond.fieldLink RX8 9 "OnlyHalves$States" "held" "[J", Cond.fieldLink RX8 45 "OnlyHalves$Market" "held" "J", Cond.fieldLink RX8 15 "OnlyHalves$States" "lowCoin" "[J", Cond.fieldLink RX8 50 "OnlyHalves$Market" "lowCoin" "J", Cond.fieldLink RX8 18 "OnlyHalves$States" "highCoin" "[J", Cond.fieldLink RX8 52 "OnlyHalves$Market" "highCoin" "J", Cond.methodLink RX7 117 yX10_firstGood, Cond.instanceMethod yX10_firstGood, Cond.selects RX10 yX10_firstGood yX10_firstGood, Cond.initialized RX10, Cond.code yX10_firstGood cX10_firstGood 4 (some .int), Cond.methodLink RX10 81 yX2_halves, Cond.instanceMethod yX2_halves, Cond.selects RX2 yX2_halves yX2_halves, Cond.initialized RX2, Cond.code yX2_halves cX2_halves 1 (some .int), Cond.fieldLink RX2 25 "OnlyHalves$Market" "things" "I"] ++ wsX70 ++ wsX80 ++ wsX20)
def wsX7_mostOfAny_r1 : List Cond := [Cond.fieldLink RX7 12 "OnlyHalves$Search" "states" "LOnlyHalves$States;", Cond.fieldLink RX7 38 "OnlyHalves$Search" "then" "LOnlyHalves$Market;", Cond.methodLink RX7 42 yX8_size, Cond.instanceMethod yX8_size, Cond.selects RX8 yX8_size yX8_size, Cond.initialized RX8, Cond.code yX8_size cX8_size 1 (some .int), Cond.fieldLink RX8 31 "OnlyHalves$States" "size" "I", Cond.methodLink RX7 66 yX8_load, Cond.instanceMethod yX8_load, Cond.selects RX8 yX8_load yX8_load, Cond.code yX8_load cX8_load 3 none, Cond.fieldLink RX8 9 "OnlyHalves$States" "held" "[J", Cond.fieldLink RX8 45 "OnlyHalves$Market" "held" "J", Cond.fieldLink RX8 15 "OnlyHalves$States" "lowCoin" "[J", Cond.fieldLink RX8 50 "OnlyHalves$Market" "lowCoin" "J", Cond.fieldLink RX8 18 "OnlyHalves$States" "highCoin" "[J", Cond.fieldLink RX8 52 "OnlyHalves$Market" "highCoin" "J", Cond.methodLink RX7 121 yX1_mostOf, Cond.instanceMethod yX1_mostOf, Cond.selects RX1 yX1_mostOf yX1_mostOf, Cond.initialized RX1, Cond.code yX1_mostOf cX1_mostOf 7 (some .int), Cond.fieldLink RX1 7 "OnlyHalves$Day" "market" "LOnlyHalves$Market;", Cond.fieldLink RX1 22 "OnlyHalves$Day" "open" "I", Cond.fieldLink RX1 26 "OnlyHalves$Day" "most" "I", Cond.fieldLink RX1 29 "OnlyHalves$Day" "used" "I", Cond.fieldLink RX1 32 "OnlyHalves$Market" "things" "I", Cond.methodLink RX1 13 yX2_allThings, Cond.instanceMethod yX2_allThings, Cond.selects RX2 yX2_allThings yX2_allThings, Cond.initialized RX2, Cond.code yX2_allThings cX2_allThings 1 (some .int), Cond.fieldLink RX2 25 "OnlyHalves$Market" "things" "I", Cond.methodLink RX1 19 yX2_barredBits, Cond.instanceMethod yX2_barredBits, Cond.selects RX2 yX2_barredBits yX2_barredBits, Cond.code yX2_barredBits cX2_barredBits 3 (some .int), Cond.methodLink RX1 39 yX1_choose, Cond.instanceMethod yX1_choose]
def wsX7_mostOfAny_r2 : List Cond := [Cond.selects RX1 yX1_choose yX1_choose, Cond.code yX1_choose cX1_choose 8 none]
def wsX7_mostOfAny : List Cond := .code yX7_mostOfAny cX7_mostOfAny 4 (some .int) :: ((wsX7_mostOfAny_r1 ++ wsX7_mostOfAny_r2) ++ wsX70 ++ wsX80 ++ wsX20 ++ wsX10)
def wsX7_size : List Cond := .code yX7_size cX7_size 1 (some .int) :: ([Cond.fieldLink RX7 12 "OnlyHalves$Search" "states" "LOnlyHalves$States;", Cond.methodLink RX7 42 yX8_size, Cond.instanceMethod yX8_size, Cond.selects RX8 yX8_size yX8_size, Cond.initialized RX8, Cond.code yX8_size cX8_size 1 (some .int), Cond.fieldLink RX8 31 "OnlyHalves$States" "size" "I"] ++ wsX70 ++ wsX80)
def wsX11_states_r1 : List Cond := [Cond.fieldLink RX11 21 "OnlyHalves" "market" "LOnlyHalves$Market;", Cond.fieldLink RX11 76 "OnlyHalves" "plan" "LOnlyHalves$Day;", Cond.methodLink RX11 317 yX11_searching, Cond.instanceMethod yX11_searching, Cond.selects RX11 yX11_searching yX11_searching, Cond.initialized RX11, Cond.code yX11_searching cX11_searching 1 (some (.object "OnlyHalves$Search")), Cond.fieldLink RX11 428 "OnlyHalves" "search" "LOnlyHalves$Search;", Cond.classLink RX11 322 RX7, Cond.instantiable RX7 9, Cond.initialized RX7, Cond.fieldLink RX11 48 "OnlyHalves" "trade" "LOnlyHalves$Trade;", Cond.fieldLink RX11 25 "OnlyHalves" "then" "LOnlyHalves$Market;", Cond.methodLink RX11 432 yX7_init, Cond.instanceMethod yX7_init, Cond.code yX7_init cX7_init 3 none, Cond.methodLink RX7 3 objectInit, Cond.instanceMethod objectInit, Cond.code objectInit ⟨#[0xb1]⟩ 1 none, Cond.classLink RX7 9 RX8, Cond.instantiable RX8 8, Cond.initialized RX8, Cond.instanceMethod yX8_init, Cond.fieldLink RX7 12 "OnlyHalves$Search" "states" "LOnlyHalves$States;", Cond.arrayClass .int, Cond.fieldLink RX7 18 "OnlyHalves$Search" "path" "[I", Cond.fieldLink RX7 22 "OnlyHalves$Search" "gets" "[I", Cond.fieldLink RX7 25 "OnlyHalves$Search" "sales" "[I", Cond.fieldLink RX7 28 "OnlyHalves$Search" "firstSale" "[I", Cond.fieldLink RX7 31 "OnlyHalves$Search" "after" "[I", Cond.fieldLink RX7 34 "OnlyHalves$Search" "trade" "LOnlyHalves$Trade;", Cond.fieldLink RX7 38 "OnlyHalves$Search" "then" "LOnlyHalves$Market;", Cond.code yX8_init cX8_init 1 none, Cond.methodLink RX8 3 objectInit, Cond.arrayClass .long, Cond.fieldLink RX8 9 "OnlyHalves$States" "held" "[J", Cond.fieldLink RX8 15 "OnlyHalves$States" "lowCoin" "[J", Cond.fieldLink RX8 18 "OnlyHalves$States" "highCoin" "[J", Cond.fieldLink RX8 21 "OnlyHalves$States" "from" "[I", Cond.fieldLink RX8 25 "OnlyHalves$States" "step" "[I"]
def wsX11_states_r2 : List Cond := [Cond.fieldLink RX8 28 "OnlyHalves$States" "slots" "[I", Cond.methodLink RX11 359 yX7_spreadSwaps, Cond.instanceMethod yX7_spreadSwaps, Cond.selects RX7 yX7_spreadSwaps yX7_spreadSwaps, Cond.code yX7_spreadSwaps cX7_spreadSwaps 3 (some .boolean), Cond.methodLink RX7 59 yX7_begin, Cond.instanceMethod yX7_begin, Cond.selects RX7 yX7_begin yX7_begin, Cond.code yX7_begin cX7_begin 2 none, Cond.methodLink RX7 46 yX2_copy, Cond.instanceMethod yX2_copy, Cond.selects RX2 yX2_copy yX2_copy, Cond.initialized RX2, Cond.code yX2_copy cX2_copy 2 none, Cond.fieldLink RX2 22 "OnlyHalves$Market" "people" "I", Cond.fieldLink RX2 25 "OnlyHalves$Market" "things" "I", Cond.fieldLink RX2 28 "OnlyHalves$Market" "held" "J", Cond.fieldLink RX2 32 "OnlyHalves$Market" "lowCoin" "J", Cond.fieldLink RX2 35 "OnlyHalves$Market" "highCoin" "J", Cond.fieldLink RX2 38 "OnlyHalves$Market" "friends" "J", Cond.fieldLink RX2 41 "OnlyHalves$Market" "foes" "J", Cond.fieldLink RX2 44 "OnlyHalves$Market" "took" "I", Cond.fieldLink RX2 47 "OnlyHalves$Market" "today" "I", Cond.fieldLink RX2 9 "OnlyHalves$Market" "luck" "I", Cond.methodLink RX7 52 yX8_clear, Cond.instanceMethod yX8_clear, Cond.selects RX8 yX8_clear yX8_clear, Cond.code yX8_clear cX8_clear 1 none, Cond.fieldLink RX8 31 "OnlyHalves$States" "size" "I", Cond.fieldLink RX8 35 "OnlyHalves$States" "isOver" "Z", Cond.methodLink RX8 39 yJ7_fill_53178, Cond.static yJ7_fill_53178, Cond.initialized RJ7, Cond.code yJ7_fill_53178 cJ7_fill_53178 4 none, Cond.methodLink RX7 55 yX8_add, Cond.instanceMethod yX8_add, Cond.selects RX8 yX8_add yX8_add, Cond.code yX8_add cX8_add 5 none, Cond.fieldLink RX8 45 "OnlyHalves$Market" "held" "J", Cond.fieldLink RX8 50 "OnlyHalves$Market" "lowCoin" "J"]
def wsX11_states_r3 : List Cond := [Cond.fieldLink RX8 52 "OnlyHalves$Market" "highCoin" "J", Cond.methodLink RX8 54 yX8_slotOf, Cond.instanceMethod yX8_slotOf, Cond.selects RX8 yX8_slotOf yX8_slotOf, Cond.code yX8_slotOf cX8_slotOf 6 (some .int), Cond.constantLong RX8 58 (-7046029254386353131), Cond.methodLink RX7 42 yX8_size, Cond.instanceMethod yX8_size, Cond.selects RX8 yX8_size yX8_size, Cond.code yX8_size cX8_size 1 (some .int), Cond.methodLink RX7 62 yX8_isOver, Cond.instanceMethod yX8_isOver, Cond.selects RX8 yX8_isOver yX8_isOver, Cond.code yX8_isOver cX8_isOver 1 (some .boolean), Cond.methodLink RX7 66 yX8_load, Cond.instanceMethod yX8_load, Cond.selects RX8 yX8_load yX8_load, Cond.code yX8_load cX8_load 3 none, Cond.methodLink RX7 70 yX7_addSwaps, Cond.instanceMethod yX7_addSwaps, Cond.selects RX7 yX7_addSwaps yX7_addSwaps, Cond.code yX7_addSwaps cX7_addSwaps 4 none, Cond.methodLink RX7 74 yX2_halves, Cond.instanceMethod yX2_halves, Cond.selects RX2 yX2_halves yX2_halves, Cond.code yX2_halves cX2_halves 1 (some .int), Cond.methodLink RX11 206 yX11_clearRow, Cond.instanceMethod yX11_clearRow, Cond.selects RX11 yX11_clearRow yX11_clearRow, Cond.code yX11_clearRow cX11_clearRow 1 none, Cond.fieldLink RX11 420 "OnlyHalves" "numbersTold" "I", Cond.methodLink RX11 368 yX7_countResting, Cond.instanceMethod yX7_countResting, Cond.selects RX7 yX7_countResting yX7_countResting, Cond.code yX7_countResting cX7_countResting 3 (some .int), Cond.methodLink RX7 117 yX10_firstGood, Cond.instanceMethod yX10_firstGood, Cond.selects RX10 yX10_firstGood yX10_firstGood, Cond.initialized RX10, Cond.code yX10_firstGood cX10_firstGood 4 (some .int)]
def wsX11_states_r4 : List Cond := [Cond.methodLink RX10 81 yX2_halves, Cond.methodLink RX11 212 yX11_tell, Cond.instanceMethod yX11_tell, Cond.selects RX11 yX11_tell yX11_tell, Cond.code yX11_tell cX11_tell 2 none, Cond.fieldLink RX11 87 "OnlyHalves" "numbers" "[I", Cond.methodLink RX11 371 yX7_mostOfAny, Cond.instanceMethod yX7_mostOfAny, Cond.selects RX7 yX7_mostOfAny yX7_mostOfAny, Cond.code yX7_mostOfAny cX7_mostOfAny 4 (some .int), Cond.methodLink RX7 121 yX1_mostOf, Cond.instanceMethod yX1_mostOf, Cond.selects RX1 yX1_mostOf yX1_mostOf, Cond.initialized RX1, Cond.code yX1_mostOf cX1_mostOf 7 (some .int), Cond.fieldLink RX1 7 "OnlyHalves$Day" "market" "LOnlyHalves$Market;", Cond.fieldLink RX1 22 "OnlyHalves$Day" "open" "I", Cond.fieldLink RX1 26 "OnlyHalves$Day" "most" "I", Cond.fieldLink RX1 29 "OnlyHalves$Day" "used" "I", Cond.fieldLink RX1 32 "OnlyHalves$Market" "things" "I", Cond.methodLink RX1 13 yX2_allThings, Cond.instanceMethod yX2_allThings, Cond.selects RX2 yX2_allThings yX2_allThings, Cond.code yX2_allThings cX2_allThings 1 (some .int), Cond.methodLink RX1 19 yX2_barredBits, Cond.instanceMethod yX2_barredBits, Cond.selects RX2 yX2_barredBits yX2_barredBits, Cond.code yX2_barredBits cX2_barredBits 3 (some .int), Cond.methodLink RX1 39 yX1_choose, Cond.instanceMethod yX1_choose, Cond.selects RX1 yX1_choose yX1_choose, Cond.code yX1_choose cX1_choose 8 none, Cond.methodLink RX11 375 yX7_size, Cond.instanceMethod yX7_size, Cond.selects RX7 yX7_size yX7_size, Cond.code yX7_size cX7_size 1 (some .int)]
def wsX11_states : List Cond := .code yX11_states cX11_states 2 (some .int) :: ((wsX11_states_r1 ++ (wsX11_states_r2 ++ (wsX11_states_r3 ++ wsX11_states_r4))) ++ wsX110 ++ wsX70 ++ wsX80 ++ wsX20 ++ wsX10)
def wsX12_states_r1 : List Cond := [Cond.fieldLink RX12 101 "OnlyHalvesModel" "thrown" "I", Cond.fieldLink RX12 334 "OnlyHalvesModel" "states" "I", Cond.methodLink RX12 214 Lib.Math.max.name, Cond.static Lib.Math.max.name, Cond.initialized "java/lang/Math", Cond.code Lib.Math.max.name Lib.Math.max.code 2 (some .int), Cond.fieldLink RX12 77 "OnlyHalvesModel" "saved" "[I", Cond.fieldLink RX12 104 "OnlyHalvesModel" "rowMany" "I", Cond.methodLink RX12 379 yX12_findSwaps, Cond.instanceMethod yX12_findSwaps, Cond.selects RX12 yX12_findSwaps yX12_findSwaps, Cond.initialized RX12, Cond.code yX12_findSwaps cX12_findSwaps 5 (some .boolean), Cond.fieldLink RX12 114 "OnlyHalvesModel" "things" "I", Cond.methodLink RX12 343 yX12_clearStates, Cond.instanceMethod yX12_clearStates, Cond.selects RX12 yX12_clearStates yX12_clearStates, Cond.code yX12_clearStates cX12_clearStates 2 none, Cond.fieldLink RX12 74 "OnlyHalvesModel" "table" "[I", Cond.methodLink RX12 267 yX12_lay, Cond.instanceMethod yX12_lay, Cond.selects RX12 yX12_lay yX12_lay, Cond.code yX12_lay cX12_lay 4 none, Cond.fieldLink RX12 9 "OnlyHalvesModel" "coin" "[I", Cond.fieldLink RX12 26 "OnlyHalvesModel" "holder" "[I", Cond.methodLink RX12 337 yX12_stateNow, Cond.instanceMethod yX12_stateNow, Cond.selects RX12 yX12_stateNow yX12_stateNow, Cond.code yX12_stateNow cX12_stateNow 6 (some .int), Cond.fieldLink RX12 107 "OnlyHalvesModel" "people" "I", Cond.fieldLink RX12 59 "OnlyHalvesModel" "holderIn" "[I", Cond.fieldLink RX12 62 "OnlyHalvesModel" "coinIn" "[I", Cond.fieldLink RX12 68 "OnlyHalvesModel" "parent" "[I", Cond.fieldLink RX12 71 "OnlyHalvesModel" "act" "[I", Cond.fieldLink RX12 65 "OnlyHalvesModel" "depth" "[I", Cond.methodLink RX12 277 yX12_bring, Cond.instanceMethod yX12_bring, Cond.selects RX12 yX12_bring yX12_bring, Cond.code yX12_bring cX12_bring 4 none, Cond.methodLink RX12 346 yX12_load]
def wsX12_states_r2 : List Cond := [Cond.instanceMethod yX12_load, Cond.selects RX12 yX12_load yX12_load, Cond.code yX12_load cX12_load 3 none, Cond.methodLink RX12 376 yX12_findGood, Cond.instanceMethod yX12_findGood, Cond.selects RX12 yX12_findGood yX12_findGood, Cond.code yX12_findGood cX12_findGood 4 (some .int), Cond.fieldLink RX12 373 "OnlyHalvesModel" "goodFirst" "I", Cond.methodLink RX12 311 yX12_findDay, Cond.instanceMethod yX12_findDay, Cond.selects RX12 yX12_findDay yX12_findDay, Cond.code yX12_findDay cX12_findDay 10 (some .int), Cond.fieldLink RX12 299 "OnlyHalvesModel" "daySet" "I", Cond.methodLink RX12 264 yX12_tell, Cond.instanceMethod yX12_tell, Cond.selects RX12 yX12_tell yX12_tell, Cond.code yX12_tell cX12_tell 2 none, Cond.fieldLink RX12 40 "OnlyHalvesModel" "row" "[I"]
def wsX12_states : List Cond := .code yX12_states cX12_states 4 (some .int) :: ((wsX12_states_r1 ++ wsX12_states_r2) ++ wsX120)
def wsX11_estate : List Cond := .code yX11_estate cX11_estate 4 (some .int) :: ([Cond.fieldLink RX11 21 "OnlyHalves" "market" "LOnlyHalves$Market;", Cond.methodLink RX11 112 yX2_hasPerson, Cond.instanceMethod yX2_hasPerson, Cond.selects RX2 yX2_hasPerson yX2_hasPerson, Cond.initialized RX2, Cond.code yX2_hasPerson cX2_hasPerson 2 (some .boolean), Cond.fieldLink RX2 22 "OnlyHalves$Market" "people" "I"] ++ wsX110 ++ wsX20)
def wsX12_estate : List Cond := .code yX12_estate cX12_estate 10 (some .int) :: ([Cond.fieldLink RX12 101 "OnlyHalvesModel" "thrown" "I", Cond.methodLink RX12 223 yX12_isOne, Cond.instanceMethod yX12_isOne, Cond.selects RX12 yX12_isOne yX12_isOne, Cond.initialized RX12, Cond.code yX12_isOne cX12_isOne 2 (some .boolean), Cond.fieldLink RX12 107 "OnlyHalvesModel" "people" "I", Cond.methodLink RX12 110 yX12_in, Cond.static yX12_in, Cond.code yX12_in cX12_in 3 (some .boolean)] ++ wsX120)
def wsX11_greedy : List Cond := .code yX11_greedy cX11_greedy 5 (some .int) :: ([Cond.fieldLink RX11 21 "OnlyHalves" "market" "LOnlyHalves$Market;", Cond.methodLink RX11 112 yX2_hasPerson, Cond.instanceMethod yX2_hasPerson, Cond.selects RX2 yX2_hasPerson yX2_hasPerson, Cond.initialized RX2, Cond.code yX2_hasPerson cX2_hasPerson 2 (some .boolean), Cond.fieldLink RX2 22 "OnlyHalves$Market" "people" "I"] ++ wsX110 ++ wsX20)
def wsX12_greedy : List Cond := .code yX12_greedy cX12_greedy 6 (some .int) :: ([Cond.fieldLink RX12 101 "OnlyHalvesModel" "thrown" "I", Cond.methodLink RX12 223 yX12_isOne, Cond.instanceMethod yX12_isOne, Cond.selects RX12 yX12_isOne yX12_isOne, Cond.initialized RX12, Cond.code yX12_isOne cX12_isOne 2 (some .boolean), Cond.fieldLink RX12 107 "OnlyHalvesModel" "people" "I", Cond.methodLink RX12 110 yX12_in, Cond.static yX12_in, Cond.code yX12_in cX12_in 3 (some .boolean)] ++ wsX120)
def wsX11_told : List Cond := .code yX11_told cX11_told 4 (some .int) :: ([Cond.fieldLink RX11 21 "OnlyHalves" "market" "LOnlyHalves$Market;", Cond.methodLink RX11 141 yX2_hasThing, Cond.instanceMethod yX2_hasThing, Cond.selects RX2 yX2_hasThing yX2_hasThing, Cond.initialized RX2, Cond.code yX2_hasThing cX2_hasThing 2 (some .boolean), Cond.fieldLink RX2 25 "OnlyHalves$Market" "things" "I"] ++ wsX110 ++ wsX20)
def wsX12_told : List Cond := .code yX12_told cX12_told 4 (some .int) :: ([Cond.fieldLink RX12 101 "OnlyHalvesModel" "thrown" "I", Cond.methodLink RX12 239 yX12_isThing, Cond.instanceMethod yX12_isThing, Cond.selects RX12 yX12_isThing yX12_isThing, Cond.initialized RX12, Cond.code yX12_isThing cX12_isThing 2 (some .boolean), Cond.fieldLink RX12 114 "OnlyHalvesModel" "things" "I", Cond.methodLink RX12 110 yX12_in, Cond.static yX12_in, Cond.code yX12_in cX12_in 3 (some .boolean)] ++ wsX120)
def wsX11_explains : List Cond := .code yX11_explains cX11_explains 3 (some .int) :: ([Cond.fieldLink RX11 21 "OnlyHalves" "market" "LOnlyHalves$Market;", Cond.methodLink RX11 141 yX2_hasThing, Cond.instanceMethod yX2_hasThing, Cond.selects RX2 yX2_hasThing yX2_hasThing, Cond.initialized RX2, Cond.code yX2_hasThing cX2_hasThing 2 (some .boolean), Cond.fieldLink RX2 25 "OnlyHalves$Market" "things" "I"] ++ wsX110 ++ wsX20)
def wsX12_explains : List Cond := .code yX12_explains cX12_explains 9 (some .int) :: ([Cond.fieldLink RX12 101 "OnlyHalvesModel" "thrown" "I", Cond.methodLink RX12 239 yX12_isThing, Cond.instanceMethod yX12_isThing, Cond.selects RX12 yX12_isThing yX12_isThing, Cond.initialized RX12, Cond.code yX12_isThing cX12_isThing 2 (some .boolean), Cond.fieldLink RX12 114 "OnlyHalvesModel" "things" "I", Cond.methodLink RX12 110 yX12_in, Cond.static yX12_in, Cond.code yX12_in cX12_in 3 (some .boolean)] ++ wsX120)
def wsX11_steady : List Cond := .code yX11_steady cX11_steady 2 (some .int) :: ([Cond.fieldLink RX11 21 "OnlyHalves" "market" "LOnlyHalves$Market;", Cond.methodLink RX11 141 yX2_hasThing, Cond.instanceMethod yX2_hasThing, Cond.selects RX2 yX2_hasThing yX2_hasThing, Cond.initialized RX2, Cond.code yX2_hasThing cX2_hasThing 2 (some .boolean), Cond.fieldLink RX2 25 "OnlyHalves$Market" "things" "I"] ++ wsX110 ++ wsX20)
def wsX12_steady : List Cond := .code yX12_steady cX12_steady 4 (some .int) :: ([Cond.fieldLink RX12 101 "OnlyHalvesModel" "thrown" "I", Cond.methodLink RX12 239 yX12_isThing, Cond.instanceMethod yX12_isThing, Cond.selects RX12 yX12_isThing yX12_isThing, Cond.initialized RX12, Cond.code yX12_isThing cX12_isThing 2 (some .boolean), Cond.fieldLink RX12 114 "OnlyHalvesModel" "things" "I", Cond.methodLink RX12 110 yX12_in, Cond.static yX12_in, Cond.code yX12_in cX12_in 3 (some .boolean)] ++ wsX120)
def wsX11_bear : List Cond := .code yX11_bear cX11_bear 5 (some .int) :: ([Cond.fieldLink RX11 21 "OnlyHalves" "market" "LOnlyHalves$Market;", Cond.methodLink RX11 141 yX2_hasThing, Cond.instanceMethod yX2_hasThing, Cond.selects RX2 yX2_hasThing yX2_hasThing, Cond.initialized RX2, Cond.code yX2_hasThing cX2_hasThing 2 (some .boolean), Cond.fieldLink RX2 25 "OnlyHalves$Market" "things" "I"] ++ wsX110 ++ wsX20)
def wsX12_bear : List Cond := .code yX12_bear cX12_bear 2 (some .int) :: ([Cond.fieldLink RX12 101 "OnlyHalvesModel" "thrown" "I", Cond.methodLink RX12 239 yX12_isThing, Cond.instanceMethod yX12_isThing, Cond.selects RX12 yX12_isThing yX12_isThing, Cond.initialized RX12, Cond.code yX12_isThing cX12_isThing 2 (some .boolean), Cond.fieldLink RX12 114 "OnlyHalvesModel" "things" "I", Cond.methodLink RX12 110 yX12_in, Cond.static yX12_in, Cond.code yX12_in cX12_in 3 (some .boolean)] ++ wsX120)
def wsX11_today : List Cond := .code yX11_today cX11_today 1 (some .int) :: ([Cond.fieldLink RX11 21 "OnlyHalves" "market" "LOnlyHalves$Market;", Cond.fieldLink RX11 305 "OnlyHalves$Market" "today" "I"] ++ wsX110 ++ wsX20)
def wsX12_today : List Cond := .code yX12_today cX12_today 1 (some .int) :: ([Cond.fieldLink RX12 101 "OnlyHalvesModel" "thrown" "I", Cond.fieldLink RX12 325 "OnlyHalvesModel" "today" "I"] ++ wsX120)
def wsX11_seed : List Cond := .code yX11_seed cX11_seed 3 (some .int) :: ([Cond.fieldLink RX11 21 "OnlyHalves" "market" "LOnlyHalves$Market;", Cond.fieldLink RX11 411 "OnlyHalves$Market" "luck" "I"] ++ wsX110 ++ wsX20)
def wsX12_seed : List Cond := .code yX12_seed cX12_seed 3 (some .int) :: ([Cond.fieldLink RX12 101 "OnlyHalvesModel" "thrown" "I", Cond.fieldLink RX12 32 "OnlyHalvesModel" "random" "I"] ++ wsX120)
def wsX11_keep : List Cond := .code yX11_keep cX11_keep 2 (some .boolean) :: ([Cond.fieldLink RX11 28 "OnlyHalves" "kept" "[LOnlyHalves$Market;", Cond.fieldLink RX11 32 "OnlyHalves" "isKept" "[Z", Cond.fieldLink RX11 21 "OnlyHalves" "market" "LOnlyHalves$Market;", Cond.methodLink RX11 231 yX2_copy, Cond.instanceMethod yX2_copy, Cond.selects RX2 yX2_copy yX2_copy, Cond.initialized RX2, Cond.code yX2_copy cX2_copy 2 none, Cond.fieldLink RX2 22 "OnlyHalves$Market" "people" "I", Cond.fieldLink RX2 25 "OnlyHalves$Market" "things" "I", Cond.fieldLink RX2 28 "OnlyHalves$Market" "held" "J", Cond.fieldLink RX2 32 "OnlyHalves$Market" "lowCoin" "J", Cond.fieldLink RX2 35 "OnlyHalves$Market" "highCoin" "J", Cond.fieldLink RX2 38 "OnlyHalves$Market" "friends" "J", Cond.fieldLink RX2 41 "OnlyHalves$Market" "foes" "J", Cond.fieldLink RX2 44 "OnlyHalves$Market" "took" "I", Cond.fieldLink RX2 47 "OnlyHalves$Market" "today" "I", Cond.fieldLink RX2 9 "OnlyHalves$Market" "luck" "I"] ++ wsX110 ++ wsX20)
def wsX12_keep : List Cond := .code yX12_keep cX12_keep 4 (some .boolean) :: ([Cond.fieldLink RX12 101 "OnlyHalvesModel" "thrown" "I", Cond.fieldLink RX12 95 "OnlyHalvesModel" "isKept" "[Z", Cond.fieldLink RX12 98 "OnlyHalvesModel" "keptCame" "[I", Cond.fieldLink RX12 171 "OnlyHalvesModel" "came" "I", Cond.fieldLink RX12 92 "OnlyHalvesModel" "kept" "[I", Cond.fieldLink RX12 16 "OnlyHalvesModel" "tookPart" "[Z", Cond.fieldLink RX12 13 "OnlyHalvesModel" "is" "[I", Cond.fieldLink RX12 325 "OnlyHalvesModel" "today" "I", Cond.fieldLink RX12 32 "OnlyHalvesModel" "random" "I", Cond.methodLink RX12 110 yX12_in, Cond.static yX12_in, Cond.initialized RX12, Cond.code yX12_in cX12_in 3 (some .boolean), Cond.methodLink RX12 267 yX12_lay, Cond.instanceMethod yX12_lay, Cond.selects RX12 yX12_lay yX12_lay, Cond.code yX12_lay cX12_lay 4 none, Cond.fieldLink RX12 9 "OnlyHalvesModel" "coin" "[I", Cond.fieldLink RX12 26 "OnlyHalvesModel" "holder" "[I"] ++ wsX120)
def wsX11_again : List Cond := .code yX11_again cX11_again 2 (some .boolean) :: ([Cond.fieldLink RX11 28 "OnlyHalves" "kept" "[LOnlyHalves$Market;", Cond.fieldLink RX11 32 "OnlyHalves" "isKept" "[Z"] ++ wsX110)
def wsX12_again : List Cond := .code yX12_again cX12_again 4 (some .boolean) :: ([Cond.fieldLink RX12 101 "OnlyHalvesModel" "thrown" "I", Cond.fieldLink RX12 95 "OnlyHalvesModel" "isKept" "[Z", Cond.methodLink RX12 110 yX12_in, Cond.static yX12_in, Cond.initialized RX12, Cond.code yX12_in cX12_in 3 (some .boolean)] ++ wsX120)
def wsX4_size : List Cond := .code yX4_size cX4_size 1 (some .int) :: ([Cond.fieldLink RX4 19 "OnlyHalves$Past" "size" "I"] ++ wsX40)
def wsX0_size : List Cond := .code yX0_size cX0_size 1 (some .int) :: ([Cond.fieldLink RX0 18 "OnlyHalves$Book" "size" "I"] ++ wsX00)
def wsX2_coinOfAll : List Cond := .code yX2_coinOfAll cX2_coinOfAll 3 (some .int) :: ([Cond.fieldLink RX2 22 "OnlyHalves$Market" "people" "I"] ++ wsX20)
def wsX11_count : List Cond := .code yX11_count cX11_count 2 (some .int) :: ([Cond.fieldLink RX11 21 "OnlyHalves" "market" "LOnlyHalves$Market;", Cond.fieldLink RX11 268 "OnlyHalves$Market" "people" "I", Cond.fieldLink RX11 182 "OnlyHalves$Market" "things" "I", Cond.fieldLink RX11 69 "OnlyHalves" "past" "LOnlyHalves$Past;", Cond.fieldLink RX11 83 "OnlyHalves" "book" "LOnlyHalves$Book;", Cond.fieldLink RX11 420 "OnlyHalves" "numbersTold" "I", Cond.fieldLink RX11 12 "OnlyHalves" "text" "LOnlyHalves$Text;", Cond.methodLink RX11 414 yX2_togetherBits, Cond.instanceMethod yX2_togetherBits, Cond.selects RX2 yX2_togetherBits yX2_togetherBits, Cond.initialized RX2, Cond.code yX2_togetherBits cX2_togetherBits 3 (some .int), Cond.fieldLink RX2 25 "OnlyHalves$Market" "things" "I", Cond.methodLink RX11 228 yX4_size, Cond.instanceMethod yX4_size, Cond.selects RX4 yX4_size yX4_size, Cond.initialized RX4, Cond.code yX4_size cX4_size 1 (some .int), Cond.fieldLink RX4 19 "OnlyHalves$Past" "size" "I", Cond.methodLink RX11 391 yX0_size, Cond.instanceMethod yX0_size, Cond.selects RX0 yX0_size yX0_size, Cond.initialized RX0, Cond.code yX0_size cX0_size 1 (some .int), Cond.fieldLink RX0 18 "OnlyHalves$Book" "size" "I", Cond.methodLink RX11 417 yX2_coinOfAll, Cond.instanceMethod yX2_coinOfAll, Cond.selects RX2 yX2_coinOfAll yX2_coinOfAll, Cond.code yX2_coinOfAll cX2_coinOfAll 3 (some .int), Cond.fieldLink RX2 22 "OnlyHalves$Market" "people" "I", Cond.methodLink RX11 95 yX9_length, Cond.instanceMethod yX9_length, Cond.selects RX9 yX9_length yX9_length, Cond.initialized RX9, Cond.code yX9_length cX9_length 1 (some .int), Cond.fieldLink RX9 15 "OnlyHalves$Text" "length" "I"] ++ wsX110 ++ wsX20 ++ wsX40 ++ wsX00 ++ wsX90)
def wsX12_count : List Cond := .code yX12_count cX12_count 4 (some .int) :: ([Cond.fieldLink RX12 101 "OnlyHalvesModel" "thrown" "I", Cond.fieldLink RX12 107 "OnlyHalvesModel" "people" "I", Cond.fieldLink RX12 114 "OnlyHalvesModel" "things" "I", Cond.fieldLink RX12 174 "OnlyHalvesModel" "undoMany" "I", Cond.fieldLink RX12 391 "OnlyHalvesModel" "usesMany" "I", Cond.fieldLink RX12 104 "OnlyHalvesModel" "rowMany" "I", Cond.fieldLink RX12 117 "OnlyHalvesModel" "typed" "I", Cond.methodLink RX12 370 yX12_together, Cond.instanceMethod yX12_together, Cond.selects RX12 yX12_together yX12_together, Cond.initialized RX12, Cond.code yX12_together cX12_together 3 (some .int)] ++ wsX120)
def wsX12_row : List Cond := .code yX12_row cX12_row 2 (some .int) :: ([Cond.fieldLink RX12 101 "OnlyHalvesModel" "thrown" "I", Cond.fieldLink RX12 104 "OnlyHalvesModel" "rowMany" "I", Cond.methodLink RX12 110 yX12_in, Cond.static yX12_in, Cond.initialized RX12, Cond.code yX12_in cX12_in 3 (some .boolean), Cond.methodLink RX12 227 yX12_lost, Cond.instanceMethod yX12_lost, Cond.selects RX12 yX12_lost yX12_lost, Cond.code yX12_lost cX12_lost 1 (some .int)] ++ wsX120)
theorem dX0_init_0 : decode cX0_init 0 = .ok (.aload_n 0, 1) := by decide +kernel
theorem dX0_init_1 : decode cX0_init 1 = .ok (.invokespecial 3, 3) := by decide +kernel
theorem dX0_init_4 : decode cX0_init 4 = .ok (.aload_n 0, 1) := by decide +kernel
theorem dX0_init_5 : decode cX0_init 5 = .ok (.bipush 16, 2) := by decide +kernel
theorem dX0_init_7 : decode cX0_init 7 = .ok (.newarray .int, 2) := by decide +kernel
theorem dX0_init_9 : decode cX0_init 9 = .ok (.putfield 9, 3) := by decide +kernel
theorem dX0_init_12 : decode cX0_init 12 = .ok (.aload_n 0, 1) := by decide +kernel
theorem dX0_init_13 : decode cX0_init 13 = .ok (.bipush 16, 2) := by decide +kernel
theorem dX0_init_15 : decode cX0_init 15 = .ok (.newarray .int, 2) := by decide +kernel
theorem dX0_init_17 : decode cX0_init 17 = .ok (.putfield 15, 3) := by decide +kernel
theorem dX0_init_20 : decode cX0_init 20 = .ok (.return_, 1) := by decide +kernel
theorem dX0_size_0 : decode cX0_size 0 = .ok (.aload_n 0, 1) := by decide +kernel
theorem dX0_size_1 : decode cX0_size 1 = .ok (.getfield 18, 3) := by decide +kernel
theorem dX0_size_4 : decode cX0_size 4 = .ok (.ireturn, 1) := by decide +kernel
theorem dX1_init_0 : decode cX1_init 0 = .ok (.aload_n 0, 1) := by decide +kernel
theorem dX1_init_1 : decode cX1_init 1 = .ok (.invokespecial 1, 3) := by decide +kernel
theorem dX1_init_4 : decode cX1_init 4 = .ok (.return_, 1) := by decide +kernel
theorem dX1_mostOf_0 : decode cX1_mostOf 0 = .ok (.aload_n 0, 1) := by decide +kernel
theorem dX1_mostOf_1 : decode cX1_mostOf 1 = .ok (.aload_n 1, 1) := by decide +kernel
theorem dX1_mostOf_2 : decode cX1_mostOf 2 = .ok (.putfield 7, 3) := by decide +kernel
theorem dX1_mostOf_5 : decode cX1_mostOf 5 = .ok (.aload_n 0, 1) := by decide +kernel
theorem dX1_mostOf_6 : decode cX1_mostOf 6 = .ok (.aload_n 1, 1) := by decide +kernel
theorem dX1_mostOf_7 : decode cX1_mostOf 7 = .ok (.invokevirtual 13, 3) := by decide +kernel
theorem dX1_mostOf_10 : decode cX1_mostOf 10 = .ok (.aload_n 1, 1) := by decide +kernel
theorem dX1_mostOf_11 : decode cX1_mostOf 11 = .ok (.invokevirtual 19, 3) := by decide +kernel
theorem dX1_mostOf_14 : decode cX1_mostOf 14 = .ok (.iconst (-1), 1) := by decide +kernel
theorem dX1_mostOf_15 : decode cX1_mostOf 15 = .ok (.ixor, 1) := by decide +kernel
theorem dX1_mostOf_16 : decode cX1_mostOf 16 = .ok (.iand, 1) := by decide +kernel
theorem dX1_mostOf_17 : decode cX1_mostOf 17 = .ok (.iload_n 2, 1) := by decide +kernel
theorem dX1_mostOf_18 : decode cX1_mostOf 18 = .ok (.iconst (-1), 1) := by decide +kernel
theorem dX1_mostOf_19 : decode cX1_mostOf 19 = .ok (.ixor, 1) := by decide +kernel
theorem dX1_mostOf_20 : decode cX1_mostOf 20 = .ok (.iand, 1) := by decide +kernel
theorem dX1_mostOf_21 : decode cX1_mostOf 21 = .ok (.putfield 22, 3) := by decide +kernel
theorem dX1_mostOf_24 : decode cX1_mostOf 24 = .ok (.aload_n 0, 1) := by decide +kernel
theorem dX1_mostOf_25 : decode cX1_mostOf 25 = .ok (.iload 4, 2) := by decide +kernel
theorem dX1_mostOf_27 : decode cX1_mostOf 27 = .ok (.putfield 26, 3) := by decide +kernel
theorem dX1_mostOf_30 : decode cX1_mostOf 30 = .ok (.aload_n 0, 1) := by decide +kernel
theorem dX1_mostOf_31 : decode cX1_mostOf 31 = .ok (.iconst 0, 1) := by decide +kernel
theorem dX1_mostOf_32 : decode cX1_mostOf 32 = .ok (.putfield 29, 3) := by decide +kernel
theorem dX1_mostOf_35 : decode cX1_mostOf 35 = .ok (.iconst 0, 1) := by decide +kernel
theorem dX1_mostOf_36 : decode cX1_mostOf 36 = .ok (.istore 5, 2) := by decide +kernel
theorem dX1_mostOf_38 : decode cX1_mostOf 38 = .ok (.iconst 0, 1) := by decide +kernel
theorem dX1_mostOf_39 : decode cX1_mostOf 39 = .ok (.istore 6, 2) := by decide +kernel
theorem dX1_mostOf_41 : decode cX1_mostOf 41 = .ok (.iload 6, 2) := by decide +kernel
theorem dX1_mostOf_43 : decode cX1_mostOf 43 = .ok (.aload_n 1, 1) := by decide +kernel
theorem dX1_mostOf_44 : decode cX1_mostOf 44 = .ok (.getfield 32, 3) := by decide +kernel
theorem dX1_mostOf_47 : decode cX1_mostOf 47 = .ok (.if_icmp .ge 20, 3) := by decide +kernel
theorem dX1_mostOf_67 : decode cX1_mostOf 67 = .ok (.aload_n 0, 1) := by decide +kernel
theorem dX1_mostOf_68 : decode cX1_mostOf 68 = .ok (.aload_n 1, 1) := by decide +kernel
theorem dX1_mostOf_69 : decode cX1_mostOf 69 = .ok (.getfield 32, 3) := by decide +kernel
theorem dX1_mostOf_72 : decode cX1_mostOf 72 = .ok (.iconst 1, 1) := by decide +kernel
theorem dX1_mostOf_73 : decode cX1_mostOf 73 = .ok (.isub, 1) := by decide +kernel
theorem dX1_mostOf_74 : decode cX1_mostOf 74 = .ok (.iload_n 3, 1) := by decide +kernel
theorem dX1_mostOf_75 : decode cX1_mostOf 75 = .ok (.iconst 0, 1) := by decide +kernel
theorem dX1_mostOf_76 : decode cX1_mostOf 76 = .ok (.iconst 0, 1) := by decide +kernel
theorem dX1_mostOf_77 : decode cX1_mostOf 77 = .ok (.iload 5, 2) := by decide +kernel
theorem dX1_mostOf_79 : decode cX1_mostOf 79 = .ok (.invokevirtual 39, 3) := by decide +kernel
theorem dX1_mostOf_82 : decode cX1_mostOf 82 = .ok (.aload_n 0, 1) := by decide +kernel
theorem dX1_mostOf_83 : decode cX1_mostOf 83 = .ok (.getfield 26, 3) := by decide +kernel
theorem dX1_mostOf_86 : decode cX1_mostOf 86 = .ok (.ireturn, 1) := by decide +kernel
theorem dX1_choose_0 : decode cX1_choose 0 = .ok (.iload_n 3, 1) := by decide +kernel
theorem dX1_choose_1 : decode cX1_choose 1 = .ok (.iload 5, 2) := by decide +kernel
theorem dX1_choose_3 : decode cX1_choose 3 = .ok (.iadd, 1) := by decide +kernel
theorem dX1_choose_4 : decode cX1_choose 4 = .ok (.aload_n 0, 1) := by decide +kernel
theorem dX1_choose_5 : decode cX1_choose 5 = .ok (.getfield 26, 3) := by decide +kernel
theorem dX1_choose_8 : decode cX1_choose 8 = .ok (.if_icmp .le 10, 3) := by decide +kernel
theorem dX1_choose_11 : decode cX1_choose 11 = .ok (.aload_n 0, 1) := by decide +kernel
theorem dX1_choose_12 : decode cX1_choose 12 = .ok (.getfield 7, 3) := by decide +kernel
theorem dX1_choose_15 : decode cX1_choose 15 = .ok (.ifnonnull 4, 3) := by decide +kernel
theorem dX1_choose_19 : decode cX1_choose 19 = .ok (.iload_n 1, 1) := by decide +kernel
theorem dX1_choose_20 : decode cX1_choose 20 = .ok (.ifCond .ge 15, 3) := by decide +kernel
theorem dX1_choose_23 : decode cX1_choose 23 = .ok (.aload_n 0, 1) := by decide +kernel
theorem dX1_choose_24 : decode cX1_choose 24 = .ok (.iload_n 3, 1) := by decide +kernel
theorem dX1_choose_25 : decode cX1_choose 25 = .ok (.putfield 26, 3) := by decide +kernel
theorem dX1_choose_28 : decode cX1_choose 28 = .ok (.aload_n 0, 1) := by decide +kernel
theorem dX1_choose_29 : decode cX1_choose 29 = .ok (.iload 4, 2) := by decide +kernel
theorem dX1_choose_31 : decode cX1_choose 31 = .ok (.putfield 29, 3) := by decide +kernel
theorem dX1_choose_34 : decode cX1_choose 34 = .ok (.return_, 1) := by decide +kernel
theorem dX2_init_0 : decode cX2_init 0 = .ok (.aload_n 0, 1) := by decide +kernel
theorem dX2_init_1 : decode cX2_init 1 = .ok (.invokespecial 3, 3) := by decide +kernel
theorem dX2_init_4 : decode cX2_init 4 = .ok (.aload_n 0, 1) := by decide +kernel
theorem dX2_init_5 : decode cX2_init 5 = .ok (.iconst 1, 1) := by decide +kernel
theorem dX2_init_6 : decode cX2_init 6 = .ok (.putfield 9, 3) := by decide +kernel
theorem dX2_init_9 : decode cX2_init 9 = .ok (.aload_n 0, 1) := by decide +kernel
theorem dX2_init_10 : decode cX2_init 10 = .ok (.aload_n 1, 1) := by decide +kernel
theorem dX2_init_11 : decode cX2_init 11 = .ok (.putfield 15, 3) := by decide +kernel
theorem dX2_init_14 : decode cX2_init 14 = .ok (.aload_n 0, 1) := by decide +kernel
theorem dX2_init_15 : decode cX2_init 15 = .ok (.aload_n 2, 1) := by decide +kernel
theorem dX2_init_16 : decode cX2_init 16 = .ok (.putfield 19, 3) := by decide +kernel
theorem dX2_init_19 : decode cX2_init 19 = .ok (.return_, 1) := by decide +kernel
theorem dX2_copy_0 : decode cX2_copy 0 = .ok (.aload_n 0, 1) := by decide +kernel
theorem dX2_copy_1 : decode cX2_copy 1 = .ok (.aload_n 1, 1) := by decide +kernel
theorem dX2_copy_2 : decode cX2_copy 2 = .ok (.getfield 22, 3) := by decide +kernel
theorem dX2_copy_5 : decode cX2_copy 5 = .ok (.putfield 22, 3) := by decide +kernel
theorem dX2_copy_8 : decode cX2_copy 8 = .ok (.aload_n 0, 1) := by decide +kernel
theorem dX2_copy_9 : decode cX2_copy 9 = .ok (.aload_n 1, 1) := by decide +kernel
theorem dX2_copy_10 : decode cX2_copy 10 = .ok (.getfield 25, 3) := by decide +kernel
theorem dX2_copy_13 : decode cX2_copy 13 = .ok (.putfield 25, 3) := by decide +kernel
theorem dX2_copy_16 : decode cX2_copy 16 = .ok (.aload_n 0, 1) := by decide +kernel
theorem dX2_copy_17 : decode cX2_copy 17 = .ok (.aload_n 1, 1) := by decide +kernel
theorem dX2_copy_18 : decode cX2_copy 18 = .ok (.getfield 28, 3) := by decide +kernel
theorem dX2_copy_21 : decode cX2_copy 21 = .ok (.putfield 28, 3) := by decide +kernel
theorem dX2_copy_24 : decode cX2_copy 24 = .ok (.aload_n 0, 1) := by decide +kernel
theorem dX2_copy_25 : decode cX2_copy 25 = .ok (.aload_n 1, 1) := by decide +kernel
theorem dX2_copy_26 : decode cX2_copy 26 = .ok (.getfield 32, 3) := by decide +kernel
theorem dX2_copy_29 : decode cX2_copy 29 = .ok (.putfield 32, 3) := by decide +kernel
theorem dX2_copy_32 : decode cX2_copy 32 = .ok (.aload_n 0, 1) := by decide +kernel
theorem dX2_copy_33 : decode cX2_copy 33 = .ok (.aload_n 1, 1) := by decide +kernel
theorem dX2_copy_34 : decode cX2_copy 34 = .ok (.getfield 35, 3) := by decide +kernel
theorem dX2_copy_37 : decode cX2_copy 37 = .ok (.putfield 35, 3) := by decide +kernel
theorem dX2_copy_40 : decode cX2_copy 40 = .ok (.aload_n 0, 1) := by decide +kernel
theorem dX2_copy_41 : decode cX2_copy 41 = .ok (.aload_n 1, 1) := by decide +kernel
theorem dX2_copy_42 : decode cX2_copy 42 = .ok (.getfield 38, 3) := by decide +kernel
theorem dX2_copy_45 : decode cX2_copy 45 = .ok (.putfield 38, 3) := by decide +kernel
theorem dX2_copy_48 : decode cX2_copy 48 = .ok (.aload_n 0, 1) := by decide +kernel
theorem dX2_copy_49 : decode cX2_copy 49 = .ok (.aload_n 1, 1) := by decide +kernel
theorem dX2_copy_50 : decode cX2_copy 50 = .ok (.getfield 41, 3) := by decide +kernel
theorem dX2_copy_53 : decode cX2_copy 53 = .ok (.putfield 41, 3) := by decide +kernel
theorem dX2_copy_56 : decode cX2_copy 56 = .ok (.aload_n 0, 1) := by decide +kernel
theorem dX2_copy_57 : decode cX2_copy 57 = .ok (.aload_n 1, 1) := by decide +kernel
theorem dX2_copy_58 : decode cX2_copy 58 = .ok (.getfield 44, 3) := by decide +kernel
theorem dX2_copy_61 : decode cX2_copy 61 = .ok (.putfield 44, 3) := by decide +kernel
theorem dX2_copy_64 : decode cX2_copy 64 = .ok (.aload_n 0, 1) := by decide +kernel
theorem dX2_copy_65 : decode cX2_copy 65 = .ok (.aload_n 1, 1) := by decide +kernel
theorem dX2_copy_66 : decode cX2_copy 66 = .ok (.getfield 47, 3) := by decide +kernel
theorem dX2_copy_69 : decode cX2_copy 69 = .ok (.putfield 47, 3) := by decide +kernel
theorem dX2_copy_72 : decode cX2_copy 72 = .ok (.aload_n 0, 1) := by decide +kernel
theorem dX2_copy_73 : decode cX2_copy 73 = .ok (.aload_n 1, 1) := by decide +kernel
theorem dX2_copy_74 : decode cX2_copy 74 = .ok (.getfield 9, 3) := by decide +kernel
theorem dX2_copy_77 : decode cX2_copy 77 = .ok (.putfield 9, 3) := by decide +kernel
theorem dX2_copy_80 : decode cX2_copy 80 = .ok (.return_, 1) := by decide +kernel
theorem dX2_hasPerson_0 : decode cX2_hasPerson 0 = .ok (.iload_n 1, 1) := by decide +kernel
theorem dX2_hasPerson_1 : decode cX2_hasPerson 1 = .ok (.ifCond .lt 15, 3) := by decide +kernel
theorem dX2_hasPerson_4 : decode cX2_hasPerson 4 = .ok (.iload_n 1, 1) := by decide +kernel
theorem dX2_hasPerson_5 : decode cX2_hasPerson 5 = .ok (.aload_n 0, 1) := by decide +kernel
theorem dX2_hasPerson_6 : decode cX2_hasPerson 6 = .ok (.getfield 22, 3) := by decide +kernel
theorem dX2_hasPerson_9 : decode cX2_hasPerson 9 = .ok (.if_icmp .ge 7, 3) := by decide +kernel
theorem dX2_hasPerson_16 : decode cX2_hasPerson 16 = .ok (.iconst 0, 1) := by decide +kernel
theorem dX2_hasPerson_17 : decode cX2_hasPerson 17 = .ok (.ireturn, 1) := by decide +kernel
theorem dX2_hasThing_0 : decode cX2_hasThing 0 = .ok (.iload_n 1, 1) := by decide +kernel
theorem dX2_hasThing_1 : decode cX2_hasThing 1 = .ok (.ifCond .lt 15, 3) := by decide +kernel
theorem dX2_hasThing_4 : decode cX2_hasThing 4 = .ok (.iload_n 1, 1) := by decide +kernel
theorem dX2_hasThing_5 : decode cX2_hasThing 5 = .ok (.aload_n 0, 1) := by decide +kernel
theorem dX2_hasThing_6 : decode cX2_hasThing 6 = .ok (.getfield 25, 3) := by decide +kernel
theorem dX2_hasThing_9 : decode cX2_hasThing 9 = .ok (.if_icmp .ge 7, 3) := by decide +kernel
theorem dX2_hasThing_16 : decode cX2_hasThing 16 = .ok (.iconst 0, 1) := by decide +kernel
theorem dX2_hasThing_17 : decode cX2_hasThing 17 = .ok (.ireturn, 1) := by decide +kernel
theorem dX2_hasHalf_0 : decode cX2_hasHalf 0 = .ok (.iload_n 1, 1) := by decide +kernel
theorem dX2_hasHalf_1 : decode cX2_hasHalf 1 = .ok (.ifCond .lt 15, 3) := by decide +kernel
theorem dX2_hasHalf_4 : decode cX2_hasHalf 4 = .ok (.iload_n 1, 1) := by decide +kernel
theorem dX2_hasHalf_5 : decode cX2_hasHalf 5 = .ok (.aload_n 0, 1) := by decide +kernel
theorem dX2_hasHalf_6 : decode cX2_hasHalf 6 = .ok (.invokevirtual 50, 3) := by decide +kernel
theorem dX2_hasHalf_9 : decode cX2_hasHalf 9 = .ok (.if_icmp .ge 7, 3) := by decide +kernel
theorem dX2_hasHalf_16 : decode cX2_hasHalf 16 = .ok (.iconst 0, 1) := by decide +kernel
theorem dX2_hasHalf_17 : decode cX2_hasHalf 17 = .ok (.ireturn, 1) := by decide +kernel
theorem dX2_hasThings_0 : decode cX2_hasThings 0 = .ok (.iload_n 1, 1) := by decide +kernel
theorem dX2_hasThings_1 : decode cX2_hasThings 1 = .ok (.aload_n 0, 1) := by decide +kernel
theorem dX2_hasThings_2 : decode cX2_hasThings 2 = .ok (.invokevirtual 54, 3) := by decide +kernel
theorem dX2_hasThings_5 : decode cX2_hasThings 5 = .ok (.iconst (-1), 1) := by decide +kernel
theorem dX2_hasThings_6 : decode cX2_hasThings 6 = .ok (.ixor, 1) := by decide +kernel
theorem dX2_hasThings_7 : decode cX2_hasThings 7 = .ok (.iand, 1) := by decide +kernel
theorem dX2_hasThings_8 : decode cX2_hasThings 8 = .ok (.ifCond .ne 7, 3) := by decide +kernel
theorem dX2_hasThings_11 : decode cX2_hasThings 11 = .ok (.iconst 1, 1) := by decide +kernel
theorem dX2_hasThings_12 : decode cX2_hasThings 12 = .ok (.goto 4, 3) := by decide +kernel
theorem dX2_hasThings_15 : decode cX2_hasThings 15 = .ok (.iconst 0, 1) := by decide +kernel
theorem dX2_hasThings_16 : decode cX2_hasThings 16 = .ok (.ireturn, 1) := by decide +kernel
theorem dX2_allThings_0 : decode cX2_allThings 0 = .ok (.iconst 1, 1) := by decide +kernel
theorem dX2_allThings_1 : decode cX2_allThings 1 = .ok (.aload_n 0, 1) := by decide +kernel
theorem dX2_allThings_2 : decode cX2_allThings 2 = .ok (.getfield 25, 3) := by decide +kernel
theorem dX2_allThings_5 : decode cX2_allThings 5 = .ok (.ishl, 1) := by decide +kernel
theorem dX2_allThings_6 : decode cX2_allThings 6 = .ok (.iconst 1, 1) := by decide +kernel
theorem dX2_allThings_7 : decode cX2_allThings 7 = .ok (.isub, 1) := by decide +kernel
theorem dX2_allThings_8 : decode cX2_allThings 8 = .ok (.ireturn, 1) := by decide +kernel
theorem dX2_halves_0 : decode cX2_halves 0 = .ok (.iconst 2, 1) := by decide +kernel
theorem dX2_halves_1 : decode cX2_halves 1 = .ok (.aload_n 0, 1) := by decide +kernel
theorem dX2_halves_2 : decode cX2_halves 2 = .ok (.getfield 25, 3) := by decide +kernel
theorem dX2_halves_5 : decode cX2_halves 5 = .ok (.imul, 1) := by decide +kernel
theorem dX2_halves_6 : decode cX2_halves 6 = .ok (.ireturn, 1) := by decide +kernel
theorem dX2_setAllValues_0 : decode cX2_setAllValues 0 = .ok (.iconst 0, 1) := by decide +kernel
theorem dX2_setAllValues_1 : decode cX2_setAllValues 1 = .ok (.istore_n 2, 1) := by decide +kernel
theorem dX2_setAllValues_2 : decode cX2_setAllValues 2 = .ok (.iload_n 2, 1) := by decide +kernel
theorem dX2_setAllValues_3 : decode cX2_setAllValues 3 = .ok (.aload_n 0, 1) := by decide +kernel
theorem dX2_setAllValues_4 : decode cX2_setAllValues 4 = .ok (.getfield 25, 3) := by decide +kernel
theorem dX2_setAllValues_7 : decode cX2_setAllValues 7 = .ok (.if_icmp .ge 15, 3) := by decide +kernel
theorem dX2_setAllValues_22 : decode cX2_setAllValues 22 = .ok (.return_, 1) := by decide +kernel
theorem dX2_coinOfAll_0 : decode cX2_coinOfAll 0 = .ok (.iconst 0, 1) := by decide +kernel
theorem dX2_coinOfAll_1 : decode cX2_coinOfAll 1 = .ok (.istore_n 1, 1) := by decide +kernel
theorem dX2_coinOfAll_2 : decode cX2_coinOfAll 2 = .ok (.iconst 0, 1) := by decide +kernel
theorem dX2_coinOfAll_3 : decode cX2_coinOfAll 3 = .ok (.istore_n 2, 1) := by decide +kernel
theorem dX2_coinOfAll_4 : decode cX2_coinOfAll 4 = .ok (.iload_n 2, 1) := by decide +kernel
theorem dX2_coinOfAll_5 : decode cX2_coinOfAll 5 = .ok (.aload_n 0, 1) := by decide +kernel
theorem dX2_coinOfAll_6 : decode cX2_coinOfAll 6 = .ok (.getfield 22, 3) := by decide +kernel
theorem dX2_coinOfAll_9 : decode cX2_coinOfAll 9 = .ok (.if_icmp .ge 17, 3) := by decide +kernel
theorem dX2_coinOfAll_26 : decode cX2_coinOfAll 26 = .ok (.iload_n 1, 1) := by decide +kernel
theorem dX2_coinOfAll_27 : decode cX2_coinOfAll 27 = .ok (.ireturn, 1) := by decide +kernel
theorem dX2_togetherBits_0 : decode cX2_togetherBits 0 = .ok (.iconst 0, 1) := by decide +kernel
theorem dX2_togetherBits_1 : decode cX2_togetherBits 1 = .ok (.istore_n 1, 1) := by decide +kernel
theorem dX2_togetherBits_2 : decode cX2_togetherBits 2 = .ok (.iconst 0, 1) := by decide +kernel
theorem dX2_togetherBits_3 : decode cX2_togetherBits 3 = .ok (.istore_n 2, 1) := by decide +kernel
theorem dX2_togetherBits_4 : decode cX2_togetherBits 4 = .ok (.iload_n 2, 1) := by decide +kernel
theorem dX2_togetherBits_5 : decode cX2_togetherBits 5 = .ok (.aload_n 0, 1) := by decide +kernel
theorem dX2_togetherBits_6 : decode cX2_togetherBits 6 = .ok (.getfield 25, 3) := by decide +kernel
theorem dX2_togetherBits_9 : decode cX2_togetherBits 9 = .ok (.if_icmp .ge 23, 3) := by decide +kernel
theorem dX2_togetherBits_32 : decode cX2_togetherBits 32 = .ok (.iload_n 1, 1) := by decide +kernel
theorem dX2_togetherBits_33 : decode cX2_togetherBits 33 = .ok (.ireturn, 1) := by decide +kernel
theorem dX2_countTogether_0 : decode cX2_countTogether 0 = .ok (.aload_n 0, 1) := by decide +kernel
theorem dX2_countTogether_1 : decode cX2_countTogether 1 = .ok (.invokevirtual 103, 3) := by decide +kernel
theorem dX2_countTogether_4 : decode cX2_countTogether 4 = .ok (.invokestatic 106, 3) := by decide +kernel
theorem dX2_countTogether_7 : decode cX2_countTogether 7 = .ok (.ireturn, 1) := by decide +kernel
theorem dX2_barredBits_0 : decode cX2_barredBits 0 = .ok (.iconst 0, 1) := by decide +kernel
theorem dX2_barredBits_1 : decode cX2_barredBits 1 = .ok (.istore_n 1, 1) := by decide +kernel
theorem dX2_barredBits_2 : decode cX2_barredBits 2 = .ok (.iconst 0, 1) := by decide +kernel
theorem dX2_barredBits_3 : decode cX2_barredBits 3 = .ok (.istore_n 2, 1) := by decide +kernel
theorem dX2_barredBits_4 : decode cX2_barredBits 4 = .ok (.iload_n 2, 1) := by decide +kernel
theorem dX2_barredBits_5 : decode cX2_barredBits 5 = .ok (.aload_n 0, 1) := by decide +kernel
theorem dX2_barredBits_6 : decode cX2_barredBits 6 = .ok (.getfield 25, 3) := by decide +kernel
theorem dX2_barredBits_9 : decode cX2_barredBits 9 = .ok (.if_icmp .ge 23, 3) := by decide +kernel
theorem dX2_barredBits_32 : decode cX2_barredBits 32 = .ok (.iload_n 1, 1) := by decide +kernel
theorem dX2_barredBits_33 : decode cX2_barredBits 33 = .ok (.ireturn, 1) := by decide +kernel
theorem dX2_firstBarred_0 : decode cX2_firstBarred 0 = .ok (.iconst 0, 1) := by decide +kernel
theorem dX2_firstBarred_1 : decode cX2_firstBarred 1 = .ok (.istore_n 2, 1) := by decide +kernel
theorem dX2_firstBarred_2 : decode cX2_firstBarred 2 = .ok (.iload_n 2, 1) := by decide +kernel
theorem dX2_firstBarred_3 : decode cX2_firstBarred 3 = .ok (.aload_n 0, 1) := by decide +kernel
theorem dX2_firstBarred_4 : decode cX2_firstBarred 4 = .ok (.getfield 25, 3) := by decide +kernel
theorem dX2_firstBarred_7 : decode cX2_firstBarred 7 = .ok (.if_icmp .ge 28, 3) := by decide +kernel
theorem dX2_firstBarred_35 : decode cX2_firstBarred 35 = .ok (.iconst (-1), 1) := by decide +kernel
theorem dX2_firstBarred_36 : decode cX2_firstBarred 36 = .ok (.ireturn, 1) := by decide +kernel
theorem dX2_firstClash_0 : decode cX2_firstClash 0 = .ok (.iconst 0, 1) := by decide +kernel
theorem dX2_firstClash_1 : decode cX2_firstClash 1 = .ok (.istore_n 2, 1) := by decide +kernel
theorem dX2_firstClash_2 : decode cX2_firstClash 2 = .ok (.iload_n 2, 1) := by decide +kernel
theorem dX2_firstClash_3 : decode cX2_firstClash 3 = .ok (.aload_n 0, 1) := by decide +kernel
theorem dX2_firstClash_4 : decode cX2_firstClash 4 = .ok (.getfield 25, 3) := by decide +kernel
theorem dX2_firstClash_7 : decode cX2_firstClash 7 = .ok (.if_icmp .ge 73, 3) := by decide +kernel
theorem dX2_firstClash_80 : decode cX2_firstClash 80 = .ok (.iconst (-1), 1) := by decide +kernel
theorem dX2_firstClash_81 : decode cX2_firstClash 81 = .ok (.ireturn, 1) := by decide +kernel
theorem dX3_init_0 : decode cX3_init 0 = .ok (.aload_n 0, 1) := by decide +kernel
theorem dX3_init_1 : decode cX3_init 1 = .ok (.invokespecial 3, 3) := by decide +kernel
theorem dX3_init_4 : decode cX3_init 4 = .ok (.return_, 1) := by decide +kernel
theorem dX3_read_0 : decode cX3_read 0 = .ok (.aload_n 1, 1) := by decide +kernel
theorem dX3_read_1 : decode cX3_read 1 = .ok (.invokevirtual 9, 3) := by decide +kernel
theorem dX3_read_4 : decode cX3_read 4 = .ok (.ifCond .ne 5, 3) := by decide +kernel
theorem dX3_read_7 : decode cX3_read 7 = .ok (.iconst 0, 1) := by decide +kernel
theorem dX3_read_8 : decode cX3_read 8 = .ok (.ireturn, 1) := by decide +kernel
theorem dX4_init_0 : decode cX4_init 0 = .ok (.aload_n 0, 1) := by decide +kernel
theorem dX4_init_1 : decode cX4_init 1 = .ok (.invokespecial 1, 3) := by decide +kernel
theorem dX4_init_4 : decode cX4_init 4 = .ok (.aload_n 0, 1) := by decide +kernel
theorem dX4_init_5 : decode cX4_init 5 = .ok (.bipush 30, 2) := by decide +kernel
theorem dX4_init_7 : decode cX4_init 7 = .ok (.newarray .long, 2) := by decide +kernel
theorem dX4_init_9 : decode cX4_init 9 = .ok (.putfield 9, 3) := by decide +kernel
theorem dX4_init_12 : decode cX4_init 12 = .ok (.aload_n 0, 1) := by decide +kernel
theorem dX4_init_13 : decode cX4_init 13 = .ok (.bipush 30, 2) := by decide +kernel
theorem dX4_init_15 : decode cX4_init 15 = .ok (.newarray .long, 2) := by decide +kernel
theorem dX4_init_17 : decode cX4_init 17 = .ok (.putfield 13, 3) := by decide +kernel
theorem dX4_init_20 : decode cX4_init 20 = .ok (.aload_n 0, 1) := by decide +kernel
theorem dX4_init_21 : decode cX4_init 21 = .ok (.bipush 30, 2) := by decide +kernel
theorem dX4_init_23 : decode cX4_init 23 = .ok (.newarray .long, 2) := by decide +kernel
theorem dX4_init_25 : decode cX4_init 25 = .ok (.putfield 16, 3) := by decide +kernel
theorem dX4_init_28 : decode cX4_init 28 = .ok (.return_, 1) := by decide +kernel
theorem dX4_size_0 : decode cX4_size 0 = .ok (.aload_n 0, 1) := by decide +kernel
theorem dX4_size_1 : decode cX4_size 1 = .ok (.getfield 19, 3) := by decide +kernel
theorem dX4_size_4 : decode cX4_size 4 = .ok (.ireturn, 1) := by decide +kernel
theorem dX4_forget_0 : decode cX4_forget 0 = .ok (.aload_n 0, 1) := by decide +kernel
theorem dX4_forget_1 : decode cX4_forget 1 = .ok (.iconst 0, 1) := by decide +kernel
theorem dX4_forget_2 : decode cX4_forget 2 = .ok (.putfield 19, 3) := by decide +kernel
theorem dX4_forget_5 : decode cX4_forget 5 = .ok (.return_, 1) := by decide +kernel
theorem dX4_takeBack_0 : decode cX4_takeBack 0 = .ok (.aload_n 0, 1) := by decide +kernel
theorem dX4_takeBack_1 : decode cX4_takeBack 1 = .ok (.getfield 23, 3) := by decide +kernel
theorem dX4_takeBack_4 : decode cX4_takeBack 4 = .ok (.bipush 30, 2) := by decide +kernel
theorem dX4_takeBack_6 : decode cX4_takeBack 6 = .ok (.iadd, 1) := by decide +kernel
theorem dX4_takeBack_7 : decode cX4_takeBack 7 = .ok (.iconst 1, 1) := by decide +kernel
theorem dX4_takeBack_8 : decode cX4_takeBack 8 = .ok (.isub, 1) := by decide +kernel
theorem dX4_takeBack_9 : decode cX4_takeBack 9 = .ok (.bipush 30, 2) := by decide +kernel
theorem dX4_takeBack_11 : decode cX4_takeBack 11 = .ok (.irem, 1) := by decide +kernel
theorem dX4_takeBack_12 : decode cX4_takeBack 12 = .ok (.istore_n 2, 1) := by decide +kernel
theorem dX4_takeBack_13 : decode cX4_takeBack 13 = .ok (.aload_n 0, 1) := by decide +kernel
theorem dX4_takeBack_14 : decode cX4_takeBack 14 = .ok (.getfield 19, 3) := by decide +kernel
theorem dX4_takeBack_17 : decode cX4_takeBack 17 = .ok (.ifCond .le 7, 3) := by decide +kernel
theorem dX4_takeBack_24 : decode cX4_takeBack 24 = .ok (.iconst 0, 1) := by decide +kernel
theorem dX4_takeBack_25 : decode cX4_takeBack 25 = .ok (.ireturn, 1) := by decide +kernel
theorem dX5_init_0 : decode cX5_init 0 = .ok (.aload_n 0, 1) := by decide +kernel
theorem dX5_init_1 : decode cX5_init 1 = .ok (.invokespecial 3, 3) := by decide +kernel
theorem dX5_init_4 : decode cX5_init 4 = .ok (.aload_n 0, 1) := by decide +kernel
theorem dX5_init_5 : decode cX5_init 5 = .ok (.bipush 40, 2) := by decide +kernel
theorem dX5_init_7 : decode cX5_init 7 = .ok (.newarray .int, 2) := by decide +kernel
theorem dX5_init_9 : decode cX5_init 9 = .ok (.putfield 11, 3) := by decide +kernel
theorem dX5_init_12 : decode cX5_init 12 = .ok (.aload_n 0, 1) := by decide +kernel
theorem dX5_init_13 : decode cX5_init 13 = .ok (.bipush 40, 2) := by decide +kernel
theorem dX5_init_15 : decode cX5_init 15 = .ok (.newarray .int, 2) := by decide +kernel
theorem dX5_init_17 : decode cX5_init 17 = .ok (.putfield 15, 3) := by decide +kernel
theorem dX5_init_20 : decode cX5_init 20 = .ok (.return_, 1) := by decide +kernel
theorem dX5_take_0 : decode cX5_take 0 = .ok (.aload_n 0, 1) := by decide +kernel
theorem dX5_take_1 : decode cX5_take 1 = .ok (.iconst 0, 1) := by decide +kernel
theorem dX5_take_2 : decode cX5_take 2 = .ok (.putfield 18, 3) := by decide +kernel
theorem dX5_take_5 : decode cX5_take 5 = .ok (.iconst 0, 1) := by decide +kernel
theorem dX5_take_6 : decode cX5_take 6 = .ok (.istore_n 3, 1) := by decide +kernel
theorem dX5_take_7 : decode cX5_take 7 = .ok (.iload_n 3, 1) := by decide +kernel
theorem dX5_take_8 : decode cX5_take 8 = .ok (.iload_n 2, 1) := by decide +kernel
theorem dX5_take_9 : decode cX5_take 9 = .ok (.if_icmp .ge 43, 3) := by decide +kernel
theorem dX5_take_52 : decode cX5_take 52 = .ok (.return_, 1) := by decide +kernel
theorem dX6_init_0 : decode cX6_init 0 = .ok (.aload_n 0, 1) := by decide +kernel
theorem dX6_init_1 : decode cX6_init 1 = .ok (.invokespecial 3, 3) := by decide +kernel
theorem dX6_init_4 : decode cX6_init 4 = .ok (.aload_n 0, 1) := by decide +kernel
theorem dX6_init_5 : decode cX6_init 5 = .ok (.bipush 40, 2) := by decide +kernel
theorem dX6_init_7 : decode cX6_init 7 = .ok (.newarray .int, 2) := by decide +kernel
theorem dX6_init_9 : decode cX6_init 9 = .ok (.putfield 11, 3) := by decide +kernel
theorem dX6_init_12 : decode cX6_init 12 = .ok (.return_, 1) := by decide +kernel
theorem dX6_read_0 : decode cX6_read 0 = .ok (.aload_n 0, 1) := by decide +kernel
theorem dX6_read_1 : decode cX6_read 1 = .ok (.iconst 0, 1) := by decide +kernel
theorem dX6_read_2 : decode cX6_read 2 = .ok (.putfield 17, 3) := by decide +kernel
theorem dX6_read_5 : decode cX6_read 5 = .ok (.aload_n 1, 1) := by decide +kernel
theorem dX6_read_6 : decode cX6_read 6 = .ok (.bipush 40, 2) := by decide +kernel
theorem dX6_read_8 : decode cX6_read 8 = .ok (.invokevirtual 21, 3) := by decide +kernel
theorem dX6_read_11 : decode cX6_read 11 = .ok (.aload_n 1, 1) := by decide +kernel
theorem dX6_read_12 : decode cX6_read 12 = .ok (.invokevirtual 27, 3) := by decide +kernel
theorem dX6_read_15 : decode cX6_read 15 = .ok (.ifCond .le 43, 3) := by decide +kernel
theorem dX6_read_58 : decode cX6_read 58 = .ok (.aload_n 2, 1) := by decide +kernel
theorem dX6_read_59 : decode cX6_read 59 = .ok (.aload_n 0, 1) := by decide +kernel
theorem dX6_read_60 : decode cX6_read 60 = .ok (.getfield 11, 3) := by decide +kernel
theorem dX6_read_63 : decode cX6_read 63 = .ok (.aload_n 0, 1) := by decide +kernel
theorem dX6_read_64 : decode cX6_read 64 = .ok (.getfield 17, 3) := by decide +kernel
theorem dX6_read_67 : decode cX6_read 67 = .ok (.invokevirtual 45, 3) := by decide +kernel
theorem dX6_read_70 : decode cX6_read 70 = .ok (.iconst 0, 1) := by decide +kernel
theorem dX6_read_71 : decode cX6_read 71 = .ok (.ireturn, 1) := by decide +kernel
theorem dX7_init_0 : decode cX7_init 0 = .ok (.aload_n 0, 1) := by decide +kernel
theorem dX7_init_1 : decode cX7_init 1 = .ok (.invokespecial 3, 3) := by decide +kernel
theorem dX7_init_4 : decode cX7_init 4 = .ok (.aload_n 0, 1) := by decide +kernel
theorem dX7_init_5 : decode cX7_init 5 = .ok (.new 9, 3) := by decide +kernel
theorem dX7_init_8 : decode cX7_init 8 = .ok (.dup, 1) := by decide +kernel
theorem dX7_init_9 : decode cX7_init 9 = .ok (.invokespecial 11, 3) := by decide +kernel
theorem dX7_init_12 : decode cX7_init 12 = .ok (.putfield 12, 3) := by decide +kernel
theorem dX7_init_15 : decode cX7_init 15 = .ok (.aload_n 0, 1) := by decide +kernel
theorem dX7_init_16 : decode cX7_init 16 = .ok (.bipush 10, 2) := by decide +kernel
theorem dX7_init_18 : decode cX7_init 18 = .ok (.newarray .int, 2) := by decide +kernel
theorem dX7_init_20 : decode cX7_init 20 = .ok (.putfield 18, 3) := by decide +kernel
theorem dX7_init_23 : decode cX7_init 23 = .ok (.aload_n 0, 1) := by decide +kernel
theorem dX7_init_24 : decode cX7_init 24 = .ok (.sipush 3000, 3) := by decide +kernel
theorem dX7_init_27 : decode cX7_init 27 = .ok (.newarray .int, 2) := by decide +kernel
theorem dX7_init_29 : decode cX7_init 29 = .ok (.putfield 22, 3) := by decide +kernel
theorem dX7_init_32 : decode cX7_init 32 = .ok (.aload_n 0, 1) := by decide +kernel
theorem dX7_init_33 : decode cX7_init 33 = .ok (.sipush 3000, 3) := by decide +kernel
theorem dX7_init_36 : decode cX7_init 36 = .ok (.newarray .int, 2) := by decide +kernel
theorem dX7_init_38 : decode cX7_init 38 = .ok (.putfield 25, 3) := by decide +kernel
theorem dX7_init_41 : decode cX7_init 41 = .ok (.aload_n 0, 1) := by decide +kernel
theorem dX7_init_42 : decode cX7_init 42 = .ok (.sipush 3000, 3) := by decide +kernel
theorem dX7_init_45 : decode cX7_init 45 = .ok (.newarray .int, 2) := by decide +kernel
theorem dX7_init_47 : decode cX7_init 47 = .ok (.putfield 28, 3) := by decide +kernel
theorem dX7_init_50 : decode cX7_init 50 = .ok (.aload_n 0, 1) := by decide +kernel
theorem dX7_init_51 : decode cX7_init 51 = .ok (.sipush 3000, 3) := by decide +kernel
theorem dX7_init_54 : decode cX7_init 54 = .ok (.newarray .int, 2) := by decide +kernel
theorem dX7_init_56 : decode cX7_init 56 = .ok (.putfield 31, 3) := by decide +kernel
theorem dX7_init_59 : decode cX7_init 59 = .ok (.aload_n 0, 1) := by decide +kernel
theorem dX7_init_60 : decode cX7_init 60 = .ok (.aload_n 1, 1) := by decide +kernel
theorem dX7_init_61 : decode cX7_init 61 = .ok (.putfield 34, 3) := by decide +kernel
theorem dX7_init_64 : decode cX7_init 64 = .ok (.aload_n 0, 1) := by decide +kernel
theorem dX7_init_65 : decode cX7_init 65 = .ok (.aload_n 2, 1) := by decide +kernel
theorem dX7_init_66 : decode cX7_init 66 = .ok (.putfield 38, 3) := by decide +kernel
theorem dX7_init_69 : decode cX7_init 69 = .ok (.return_, 1) := by decide +kernel
theorem dX7_size_0 : decode cX7_size 0 = .ok (.aload_n 0, 1) := by decide +kernel
theorem dX7_size_1 : decode cX7_size 1 = .ok (.getfield 12, 3) := by decide +kernel
theorem dX7_size_4 : decode cX7_size 4 = .ok (.invokevirtual 42, 3) := by decide +kernel
theorem dX7_size_7 : decode cX7_size 7 = .ok (.ireturn, 1) := by decide +kernel
theorem dX7_begin_0 : decode cX7_begin 0 = .ok (.aload_n 0, 1) := by decide +kernel
theorem dX7_begin_1 : decode cX7_begin 1 = .ok (.getfield 38, 3) := by decide +kernel
theorem dX7_begin_4 : decode cX7_begin 4 = .ok (.aload_n 1, 1) := by decide +kernel
theorem dX7_begin_5 : decode cX7_begin 5 = .ok (.invokevirtual 46, 3) := by decide +kernel
theorem dX7_begin_8 : decode cX7_begin 8 = .ok (.aload_n 0, 1) := by decide +kernel
theorem dX7_begin_9 : decode cX7_begin 9 = .ok (.getfield 12, 3) := by decide +kernel
theorem dX7_begin_12 : decode cX7_begin 12 = .ok (.invokevirtual 52, 3) := by decide +kernel
theorem dX7_begin_15 : decode cX7_begin 15 = .ok (.aload_n 0, 1) := by decide +kernel
theorem dX7_begin_16 : decode cX7_begin 16 = .ok (.getfield 12, 3) := by decide +kernel
theorem dX7_begin_19 : decode cX7_begin 19 = .ok (.aload_n 0, 1) := by decide +kernel
theorem dX7_begin_20 : decode cX7_begin 20 = .ok (.getfield 38, 3) := by decide +kernel
theorem dX7_begin_23 : decode cX7_begin 23 = .ok (.iconst (-1), 1) := by decide +kernel
theorem dX7_begin_24 : decode cX7_begin 24 = .ok (.iconst (-1), 1) := by decide +kernel
theorem dX7_begin_25 : decode cX7_begin 25 = .ok (.invokevirtual 55, 3) := by decide +kernel
theorem dX7_begin_28 : decode cX7_begin 28 = .ok (.return_, 1) := by decide +kernel
theorem dX7_spreadSwaps_0 : decode cX7_spreadSwaps 0 = .ok (.aload_n 0, 1) := by decide +kernel
theorem dX7_spreadSwaps_1 : decode cX7_spreadSwaps 1 = .ok (.aload_n 1, 1) := by decide +kernel
theorem dX7_spreadSwaps_2 : decode cX7_spreadSwaps 2 = .ok (.invokevirtual 59, 3) := by decide +kernel
theorem dX7_spreadSwaps_5 : decode cX7_spreadSwaps 5 = .ok (.iconst 0, 1) := by decide +kernel
theorem dX7_spreadSwaps_6 : decode cX7_spreadSwaps 6 = .ok (.istore_n 2, 1) := by decide +kernel
theorem dX7_spreadSwaps_7 : decode cX7_spreadSwaps 7 = .ok (.iload_n 2, 1) := by decide +kernel
theorem dX7_spreadSwaps_8 : decode cX7_spreadSwaps 8 = .ok (.sipush 3000, 3) := by decide +kernel
theorem dX7_spreadSwaps_11 : decode cX7_spreadSwaps 11 = .ok (.if_icmp .ge 47, 3) := by decide +kernel
theorem dX7_spreadSwaps_14 : decode cX7_spreadSwaps 14 = .ok (.iload_n 2, 1) := by decide +kernel
theorem dX7_spreadSwaps_15 : decode cX7_spreadSwaps 15 = .ok (.aload_n 0, 1) := by decide +kernel
theorem dX7_spreadSwaps_16 : decode cX7_spreadSwaps 16 = .ok (.getfield 12, 3) := by decide +kernel
theorem dX7_spreadSwaps_19 : decode cX7_spreadSwaps 19 = .ok (.invokevirtual 42, 3) := by decide +kernel
theorem dX7_spreadSwaps_22 : decode cX7_spreadSwaps 22 = .ok (.if_icmp .ge 36, 3) := by decide +kernel
theorem dX7_spreadSwaps_25 : decode cX7_spreadSwaps 25 = .ok (.aload_n 0, 1) := by decide +kernel
theorem dX7_spreadSwaps_26 : decode cX7_spreadSwaps 26 = .ok (.getfield 12, 3) := by decide +kernel
theorem dX7_spreadSwaps_29 : decode cX7_spreadSwaps 29 = .ok (.invokevirtual 62, 3) := by decide +kernel
theorem dX7_spreadSwaps_32 : decode cX7_spreadSwaps 32 = .ok (.ifCond .ne 26, 3) := by decide +kernel
theorem dX7_spreadSwaps_35 : decode cX7_spreadSwaps 35 = .ok (.aload_n 0, 1) := by decide +kernel
theorem dX7_spreadSwaps_36 : decode cX7_spreadSwaps 36 = .ok (.getfield 12, 3) := by decide +kernel
theorem dX7_spreadSwaps_39 : decode cX7_spreadSwaps 39 = .ok (.iload_n 2, 1) := by decide +kernel
theorem dX7_spreadSwaps_40 : decode cX7_spreadSwaps 40 = .ok (.aload_n 0, 1) := by decide +kernel
theorem dX7_spreadSwaps_41 : decode cX7_spreadSwaps 41 = .ok (.getfield 38, 3) := by decide +kernel
theorem dX7_spreadSwaps_44 : decode cX7_spreadSwaps 44 = .ok (.invokevirtual 66, 3) := by decide +kernel
theorem dX7_spreadSwaps_47 : decode cX7_spreadSwaps 47 = .ok (.aload_n 0, 1) := by decide +kernel
theorem dX7_spreadSwaps_48 : decode cX7_spreadSwaps 48 = .ok (.iload_n 2, 1) := by decide +kernel
theorem dX7_spreadSwaps_49 : decode cX7_spreadSwaps 49 = .ok (.invokevirtual 70, 3) := by decide +kernel
theorem dX7_spreadSwaps_52 : decode cX7_spreadSwaps 52 = .ok (.iinc 2 1, 3) := by decide +kernel
theorem dX7_spreadSwaps_55 : decode cX7_spreadSwaps 55 = .ok (.goto (-48), 3) := by decide +kernel
theorem dX7_spreadSwaps_58 : decode cX7_spreadSwaps 58 = .ok (.aload_n 0, 1) := by decide +kernel
theorem dX7_spreadSwaps_59 : decode cX7_spreadSwaps 59 = .ok (.getfield 12, 3) := by decide +kernel
theorem dX7_spreadSwaps_62 : decode cX7_spreadSwaps 62 = .ok (.invokevirtual 62, 3) := by decide +kernel
theorem dX7_spreadSwaps_65 : decode cX7_spreadSwaps 65 = .ok (.ifCond .ne 7, 3) := by decide +kernel
theorem dX7_spreadSwaps_68 : decode cX7_spreadSwaps 68 = .ok (.iconst 1, 1) := by decide +kernel
theorem dX7_spreadSwaps_69 : decode cX7_spreadSwaps 69 = .ok (.goto 4, 3) := by decide +kernel
theorem dX7_spreadSwaps_73 : decode cX7_spreadSwaps 73 = .ok (.ireturn, 1) := by decide +kernel
theorem dX7_addSwaps_0 : decode cX7_addSwaps 0 = .ok (.iconst 0, 1) := by decide +kernel
theorem dX7_addSwaps_1 : decode cX7_addSwaps 1 = .ok (.istore_n 2, 1) := by decide +kernel
theorem dX7_addSwaps_2 : decode cX7_addSwaps 2 = .ok (.iload_n 2, 1) := by decide +kernel
theorem dX7_addSwaps_3 : decode cX7_addSwaps 3 = .ok (.aload_n 0, 1) := by decide +kernel
theorem dX7_addSwaps_4 : decode cX7_addSwaps 4 = .ok (.getfield 38, 3) := by decide +kernel
theorem dX7_addSwaps_7 : decode cX7_addSwaps 7 = .ok (.invokevirtual 74, 3) := by decide +kernel
theorem dX7_addSwaps_10 : decode cX7_addSwaps 10 = .ok (.if_icmp .ge 82, 3) := by decide +kernel
theorem dX7_addSwaps_92 : decode cX7_addSwaps 92 = .ok (.return_, 1) := by decide +kernel
theorem dX7_spreadGifts_0 : decode cX7_spreadGifts 0 = .ok (.aload_n 0, 1) := by decide +kernel
theorem dX7_spreadGifts_1 : decode cX7_spreadGifts 1 = .ok (.aload_n 1, 1) := by decide +kernel
theorem dX7_spreadGifts_2 : decode cX7_spreadGifts 2 = .ok (.invokevirtual 59, 3) := by decide +kernel
theorem dX7_spreadGifts_5 : decode cX7_spreadGifts 5 = .ok (.iconst 0, 1) := by decide +kernel
theorem dX7_spreadGifts_6 : decode cX7_spreadGifts 6 = .ok (.istore_n 3, 1) := by decide +kernel
theorem dX7_spreadGifts_7 : decode cX7_spreadGifts 7 = .ok (.iload_n 3, 1) := by decide +kernel
theorem dX7_spreadGifts_8 : decode cX7_spreadGifts 8 = .ok (.sipush 3000, 3) := by decide +kernel
theorem dX7_spreadGifts_11 : decode cX7_spreadGifts 11 = .ok (.if_icmp .ge 48, 3) := by decide +kernel
theorem dX7_spreadGifts_14 : decode cX7_spreadGifts 14 = .ok (.iload_n 3, 1) := by decide +kernel
theorem dX7_spreadGifts_15 : decode cX7_spreadGifts 15 = .ok (.aload_n 0, 1) := by decide +kernel
theorem dX7_spreadGifts_16 : decode cX7_spreadGifts 16 = .ok (.getfield 12, 3) := by decide +kernel
theorem dX7_spreadGifts_19 : decode cX7_spreadGifts 19 = .ok (.invokevirtual 42, 3) := by decide +kernel
theorem dX7_spreadGifts_22 : decode cX7_spreadGifts 22 = .ok (.if_icmp .ge 37, 3) := by decide +kernel
theorem dX7_spreadGifts_25 : decode cX7_spreadGifts 25 = .ok (.aload_n 0, 1) := by decide +kernel
theorem dX7_spreadGifts_26 : decode cX7_spreadGifts 26 = .ok (.getfield 12, 3) := by decide +kernel
theorem dX7_spreadGifts_29 : decode cX7_spreadGifts 29 = .ok (.invokevirtual 62, 3) := by decide +kernel
theorem dX7_spreadGifts_32 : decode cX7_spreadGifts 32 = .ok (.ifCond .ne 27, 3) := by decide +kernel
theorem dX7_spreadGifts_35 : decode cX7_spreadGifts 35 = .ok (.aload_n 0, 1) := by decide +kernel
theorem dX7_spreadGifts_36 : decode cX7_spreadGifts 36 = .ok (.getfield 12, 3) := by decide +kernel
theorem dX7_spreadGifts_39 : decode cX7_spreadGifts 39 = .ok (.iload_n 3, 1) := by decide +kernel
theorem dX7_spreadGifts_40 : decode cX7_spreadGifts 40 = .ok (.aload_n 0, 1) := by decide +kernel
theorem dX7_spreadGifts_41 : decode cX7_spreadGifts 41 = .ok (.getfield 38, 3) := by decide +kernel
theorem dX7_spreadGifts_44 : decode cX7_spreadGifts 44 = .ok (.invokevirtual 66, 3) := by decide +kernel
theorem dX7_spreadGifts_47 : decode cX7_spreadGifts 47 = .ok (.aload_n 0, 1) := by decide +kernel
theorem dX7_spreadGifts_48 : decode cX7_spreadGifts 48 = .ok (.iload_n 3, 1) := by decide +kernel
theorem dX7_spreadGifts_49 : decode cX7_spreadGifts 49 = .ok (.iload_n 2, 1) := by decide +kernel
theorem dX7_spreadGifts_50 : decode cX7_spreadGifts 50 = .ok (.invokevirtual 87, 3) := by decide +kernel
theorem dX7_spreadGifts_53 : decode cX7_spreadGifts 53 = .ok (.iinc 3 1, 3) := by decide +kernel
theorem dX7_spreadGifts_56 : decode cX7_spreadGifts 56 = .ok (.goto (-49), 3) := by decide +kernel
theorem dX7_spreadGifts_59 : decode cX7_spreadGifts 59 = .ok (.aload_n 0, 1) := by decide +kernel
theorem dX7_spreadGifts_60 : decode cX7_spreadGifts 60 = .ok (.getfield 12, 3) := by decide +kernel
theorem dX7_spreadGifts_63 : decode cX7_spreadGifts 63 = .ok (.invokevirtual 62, 3) := by decide +kernel
theorem dX7_spreadGifts_66 : decode cX7_spreadGifts 66 = .ok (.ifCond .ne 7, 3) := by decide +kernel
theorem dX7_spreadGifts_69 : decode cX7_spreadGifts 69 = .ok (.iconst 1, 1) := by decide +kernel
theorem dX7_spreadGifts_70 : decode cX7_spreadGifts 70 = .ok (.goto 4, 3) := by decide +kernel
theorem dX7_spreadGifts_74 : decode cX7_spreadGifts 74 = .ok (.ireturn, 1) := by decide +kernel
theorem dX7_addGifts_0 : decode cX7_addGifts 0 = .ok (.iconst 0, 1) := by decide +kernel
theorem dX7_addGifts_1 : decode cX7_addGifts 1 = .ok (.istore_n 3, 1) := by decide +kernel
theorem dX7_addGifts_2 : decode cX7_addGifts 2 = .ok (.iload_n 3, 1) := by decide +kernel
theorem dX7_addGifts_3 : decode cX7_addGifts 3 = .ok (.aload_n 0, 1) := by decide +kernel
theorem dX7_addGifts_4 : decode cX7_addGifts 4 = .ok (.getfield 38, 3) := by decide +kernel
theorem dX7_addGifts_7 : decode cX7_addGifts 7 = .ok (.invokevirtual 74, 3) := by decide +kernel
theorem dX7_addGifts_10 : decode cX7_addGifts 10 = .ok (.if_icmp .ge 105, 3) := by decide +kernel
theorem dX7_addGifts_115 : decode cX7_addGifts 115 = .ok (.return_, 1) := by decide +kernel
theorem dX7_firstFeast_0 : decode cX7_firstFeast 0 = .ok (.iconst 0, 1) := by decide +kernel
theorem dX7_firstFeast_1 : decode cX7_firstFeast 1 = .ok (.istore_n 2, 1) := by decide +kernel
theorem dX7_firstFeast_2 : decode cX7_firstFeast 2 = .ok (.iload_n 2, 1) := by decide +kernel
theorem dX7_firstFeast_3 : decode cX7_firstFeast 3 = .ok (.aload_n 0, 1) := by decide +kernel
theorem dX7_firstFeast_4 : decode cX7_firstFeast 4 = .ok (.getfield 12, 3) := by decide +kernel
theorem dX7_firstFeast_7 : decode cX7_firstFeast 7 = .ok (.invokevirtual 42, 3) := by decide +kernel
theorem dX7_firstFeast_10 : decode cX7_firstFeast 10 = .ok (.if_icmp .ge 47, 3) := by decide +kernel
theorem dX7_firstFeast_13 : decode cX7_firstFeast 13 = .ok (.aload_n 0, 1) := by decide +kernel
theorem dX7_firstFeast_14 : decode cX7_firstFeast 14 = .ok (.getfield 12, 3) := by decide +kernel
theorem dX7_firstFeast_17 : decode cX7_firstFeast 17 = .ok (.iload_n 2, 1) := by decide +kernel
theorem dX7_firstFeast_18 : decode cX7_firstFeast 18 = .ok (.aload_n 0, 1) := by decide +kernel
theorem dX7_firstFeast_19 : decode cX7_firstFeast 19 = .ok (.getfield 38, 3) := by decide +kernel
theorem dX7_firstFeast_22 : decode cX7_firstFeast 22 = .ok (.invokevirtual 66, 3) := by decide +kernel
theorem dX7_firstFeast_25 : decode cX7_firstFeast 25 = .ok (.aload_n 0, 1) := by decide +kernel
theorem dX7_firstFeast_26 : decode cX7_firstFeast 26 = .ok (.getfield 38, 3) := by decide +kernel
theorem dX7_firstFeast_29 : decode cX7_firstFeast 29 = .ok (.iload_n 1, 1) := by decide +kernel
theorem dX7_firstFeast_30 : decode cX7_firstFeast 30 = .ok (.invokevirtual 105, 3) := by decide +kernel
theorem dX7_firstFeast_33 : decode cX7_firstFeast 33 = .ok (.iconst (-1), 1) := by decide +kernel
theorem dX7_firstFeast_34 : decode cX7_firstFeast 34 = .ok (.if_icmp .ne 17, 3) := by decide +kernel
theorem dX7_firstFeast_37 : decode cX7_firstFeast 37 = .ok (.aload_n 0, 1) := by decide +kernel
theorem dX7_firstFeast_38 : decode cX7_firstFeast 38 = .ok (.getfield 38, 3) := by decide +kernel
theorem dX7_firstFeast_41 : decode cX7_firstFeast 41 = .ok (.iload_n 1, 1) := by decide +kernel
theorem dX7_firstFeast_42 : decode cX7_firstFeast 42 = .ok (.invokevirtual 108, 3) := by decide +kernel
theorem dX7_firstFeast_45 : decode cX7_firstFeast 45 = .ok (.iconst (-1), 1) := by decide +kernel
theorem dX7_firstFeast_46 : decode cX7_firstFeast 46 = .ok (.if_icmp .ne 5, 3) := by decide +kernel
theorem dX7_firstFeast_49 : decode cX7_firstFeast 49 = .ok (.iload_n 2, 1) := by decide +kernel
theorem dX7_firstFeast_50 : decode cX7_firstFeast 50 = .ok (.ireturn, 1) := by decide +kernel
theorem dX7_firstFriendliest_0 : decode cX7_firstFriendliest 0 = .ok (.iconst (-1), 1) := by decide +kernel
theorem dX7_firstFriendliest_1 : decode cX7_firstFriendliest 1 = .ok (.istore_n 1, 1) := by decide +kernel
theorem dX7_firstFriendliest_2 : decode cX7_firstFriendliest 2 = .ok (.aload_n 0, 1) := by decide +kernel
theorem dX7_firstFriendliest_3 : decode cX7_firstFriendliest 3 = .ok (.iconst (-1), 1) := by decide +kernel
theorem dX7_firstFriendliest_4 : decode cX7_firstFriendliest 4 = .ok (.putfield 111, 3) := by decide +kernel
theorem dX7_firstFriendliest_7 : decode cX7_firstFriendliest 7 = .ok (.iconst 0, 1) := by decide +kernel
theorem dX7_firstFriendliest_8 : decode cX7_firstFriendliest 8 = .ok (.istore_n 2, 1) := by decide +kernel
theorem dX7_firstFriendliest_9 : decode cX7_firstFriendliest 9 = .ok (.iload_n 2, 1) := by decide +kernel
theorem dX7_firstFriendliest_10 : decode cX7_firstFriendliest 10 = .ok (.aload_n 0, 1) := by decide +kernel
theorem dX7_firstFriendliest_11 : decode cX7_firstFriendliest 11 = .ok (.getfield 12, 3) := by decide +kernel
theorem dX7_firstFriendliest_14 : decode cX7_firstFriendliest 14 = .ok (.invokevirtual 42, 3) := by decide +kernel
theorem dX7_firstFriendliest_17 : decode cX7_firstFriendliest 17 = .ok (.if_icmp .ge 48, 3) := by decide +kernel
theorem dX7_firstFriendliest_20 : decode cX7_firstFriendliest 20 = .ok (.aload_n 0, 1) := by decide +kernel
theorem dX7_firstFriendliest_21 : decode cX7_firstFriendliest 21 = .ok (.getfield 12, 3) := by decide +kernel
theorem dX7_firstFriendliest_24 : decode cX7_firstFriendliest 24 = .ok (.iload_n 2, 1) := by decide +kernel
theorem dX7_firstFriendliest_25 : decode cX7_firstFriendliest 25 = .ok (.aload_n 0, 1) := by decide +kernel
theorem dX7_firstFriendliest_26 : decode cX7_firstFriendliest 26 = .ok (.getfield 38, 3) := by decide +kernel
theorem dX7_firstFriendliest_29 : decode cX7_firstFriendliest 29 = .ok (.invokevirtual 66, 3) := by decide +kernel
theorem dX7_firstFriendliest_32 : decode cX7_firstFriendliest 32 = .ok (.aload_n 0, 1) := by decide +kernel
theorem dX7_firstFriendliest_33 : decode cX7_firstFriendliest 33 = .ok (.getfield 38, 3) := by decide +kernel
theorem dX7_firstFriendliest_36 : decode cX7_firstFriendliest 36 = .ok (.invokevirtual 114, 3) := by decide +kernel
theorem dX7_firstFriendliest_39 : decode cX7_firstFriendliest 39 = .ok (.aload_n 0, 1) := by decide +kernel
theorem dX7_firstFriendliest_40 : decode cX7_firstFriendliest 40 = .ok (.getfield 111, 3) := by decide +kernel
theorem dX7_firstFriendliest_43 : decode cX7_firstFriendliest 43 = .ok (.if_icmp .le 16, 3) := by decide +kernel
theorem dX7_firstFriendliest_46 : decode cX7_firstFriendliest 46 = .ok (.aload_n 0, 1) := by decide +kernel
theorem dX7_firstFriendliest_47 : decode cX7_firstFriendliest 47 = .ok (.aload_n 0, 1) := by decide +kernel
theorem dX7_firstFriendliest_48 : decode cX7_firstFriendliest 48 = .ok (.getfield 38, 3) := by decide +kernel
theorem dX7_firstFriendliest_51 : decode cX7_firstFriendliest 51 = .ok (.invokevirtual 114, 3) := by decide +kernel
theorem dX7_firstFriendliest_54 : decode cX7_firstFriendliest 54 = .ok (.putfield 111, 3) := by decide +kernel
theorem dX7_firstFriendliest_57 : decode cX7_firstFriendliest 57 = .ok (.iload_n 2, 1) := by decide +kernel
theorem dX7_firstFriendliest_58 : decode cX7_firstFriendliest 58 = .ok (.istore_n 1, 1) := by decide +kernel
theorem dX7_firstFriendliest_59 : decode cX7_firstFriendliest 59 = .ok (.iinc 2 1, 3) := by decide +kernel
theorem dX7_firstFriendliest_62 : decode cX7_firstFriendliest 62 = .ok (.goto (-53), 3) := by decide +kernel
theorem dX7_firstFriendliest_65 : decode cX7_firstFriendliest 65 = .ok (.iload_n 1, 1) := by decide +kernel
theorem dX7_firstFriendliest_66 : decode cX7_firstFriendliest 66 = .ok (.ireturn, 1) := by decide +kernel
theorem dX7_countResting_0 : decode cX7_countResting 0 = .ok (.iconst 0, 1) := by decide +kernel
theorem dX7_countResting_1 : decode cX7_countResting 1 = .ok (.istore_n 1, 1) := by decide +kernel
theorem dX7_countResting_2 : decode cX7_countResting 2 = .ok (.iconst 0, 1) := by decide +kernel
theorem dX7_countResting_3 : decode cX7_countResting 3 = .ok (.istore_n 2, 1) := by decide +kernel
theorem dX7_countResting_4 : decode cX7_countResting 4 = .ok (.iload_n 2, 1) := by decide +kernel
theorem dX7_countResting_5 : decode cX7_countResting 5 = .ok (.aload_n 0, 1) := by decide +kernel
theorem dX7_countResting_6 : decode cX7_countResting 6 = .ok (.getfield 12, 3) := by decide +kernel
theorem dX7_countResting_9 : decode cX7_countResting 9 = .ok (.invokevirtual 42, 3) := by decide +kernel
theorem dX7_countResting_12 : decode cX7_countResting 12 = .ok (.if_icmp .ge 39, 3) := by decide +kernel
theorem dX7_countResting_15 : decode cX7_countResting 15 = .ok (.aload_n 0, 1) := by decide +kernel
theorem dX7_countResting_16 : decode cX7_countResting 16 = .ok (.getfield 12, 3) := by decide +kernel
theorem dX7_countResting_19 : decode cX7_countResting 19 = .ok (.iload_n 2, 1) := by decide +kernel
theorem dX7_countResting_20 : decode cX7_countResting 20 = .ok (.aload_n 0, 1) := by decide +kernel
theorem dX7_countResting_21 : decode cX7_countResting 21 = .ok (.getfield 38, 3) := by decide +kernel
theorem dX7_countResting_24 : decode cX7_countResting 24 = .ok (.invokevirtual 66, 3) := by decide +kernel
theorem dX7_countResting_27 : decode cX7_countResting 27 = .ok (.aload_n 0, 1) := by decide +kernel
theorem dX7_countResting_28 : decode cX7_countResting 28 = .ok (.getfield 34, 3) := by decide +kernel
theorem dX7_countResting_31 : decode cX7_countResting 31 = .ok (.aload_n 0, 1) := by decide +kernel
theorem dX7_countResting_32 : decode cX7_countResting 32 = .ok (.getfield 38, 3) := by decide +kernel
theorem dX7_countResting_35 : decode cX7_countResting 35 = .ok (.invokevirtual 117, 3) := by decide +kernel
theorem dX7_countResting_38 : decode cX7_countResting 38 = .ok (.iconst (-1), 1) := by decide +kernel
theorem dX7_countResting_39 : decode cX7_countResting 39 = .ok (.if_icmp .ne 6, 3) := by decide +kernel
theorem dX7_countResting_42 : decode cX7_countResting 42 = .ok (.iinc 1 1, 3) := by decide +kernel
theorem dX7_countResting_45 : decode cX7_countResting 45 = .ok (.iinc 2 1, 3) := by decide +kernel
theorem dX7_countResting_48 : decode cX7_countResting 48 = .ok (.goto (-44), 3) := by decide +kernel
theorem dX7_countResting_51 : decode cX7_countResting 51 = .ok (.iload_n 1, 1) := by decide +kernel
theorem dX7_countResting_52 : decode cX7_countResting 52 = .ok (.ireturn, 1) := by decide +kernel
theorem dX7_mostOfAny_0 : decode cX7_mostOfAny 0 = .ok (.iconst (-1), 1) := by decide +kernel
theorem dX7_mostOfAny_1 : decode cX7_mostOfAny 1 = .ok (.istore_n 2, 1) := by decide +kernel
theorem dX7_mostOfAny_2 : decode cX7_mostOfAny 2 = .ok (.iconst 0, 1) := by decide +kernel
theorem dX7_mostOfAny_3 : decode cX7_mostOfAny 3 = .ok (.istore_n 3, 1) := by decide +kernel
theorem dX7_mostOfAny_4 : decode cX7_mostOfAny 4 = .ok (.iload_n 3, 1) := by decide +kernel
theorem dX7_mostOfAny_5 : decode cX7_mostOfAny 5 = .ok (.aload_n 0, 1) := by decide +kernel
theorem dX7_mostOfAny_6 : decode cX7_mostOfAny 6 = .ok (.getfield 12, 3) := by decide +kernel
theorem dX7_mostOfAny_9 : decode cX7_mostOfAny 9 = .ok (.invokevirtual 42, 3) := by decide +kernel
theorem dX7_mostOfAny_12 : decode cX7_mostOfAny 12 = .ok (.if_icmp .ge 33, 3) := by decide +kernel
theorem dX7_mostOfAny_15 : decode cX7_mostOfAny 15 = .ok (.aload_n 0, 1) := by decide +kernel
theorem dX7_mostOfAny_16 : decode cX7_mostOfAny 16 = .ok (.getfield 12, 3) := by decide +kernel
theorem dX7_mostOfAny_19 : decode cX7_mostOfAny 19 = .ok (.iload_n 3, 1) := by decide +kernel
theorem dX7_mostOfAny_20 : decode cX7_mostOfAny 20 = .ok (.aload_n 0, 1) := by decide +kernel
theorem dX7_mostOfAny_21 : decode cX7_mostOfAny 21 = .ok (.getfield 38, 3) := by decide +kernel
theorem dX7_mostOfAny_24 : decode cX7_mostOfAny 24 = .ok (.invokevirtual 66, 3) := by decide +kernel
theorem dX7_mostOfAny_27 : decode cX7_mostOfAny 27 = .ok (.aload_n 1, 1) := by decide +kernel
theorem dX7_mostOfAny_28 : decode cX7_mostOfAny 28 = .ok (.aload_n 0, 1) := by decide +kernel
theorem dX7_mostOfAny_29 : decode cX7_mostOfAny 29 = .ok (.getfield 38, 3) := by decide +kernel
theorem dX7_mostOfAny_32 : decode cX7_mostOfAny 32 = .ok (.iconst 0, 1) := by decide +kernel
theorem dX7_mostOfAny_33 : decode cX7_mostOfAny 33 = .ok (.iconst 0, 1) := by decide +kernel
theorem dX7_mostOfAny_34 : decode cX7_mostOfAny 34 = .ok (.iload_n 2, 1) := by decide +kernel
theorem dX7_mostOfAny_35 : decode cX7_mostOfAny 35 = .ok (.invokevirtual 121, 3) := by decide +kernel
theorem dX7_mostOfAny_38 : decode cX7_mostOfAny 38 = .ok (.istore_n 2, 1) := by decide +kernel
theorem dX7_mostOfAny_39 : decode cX7_mostOfAny 39 = .ok (.iinc 3 1, 3) := by decide +kernel
theorem dX7_mostOfAny_42 : decode cX7_mostOfAny 42 = .ok (.goto (-38), 3) := by decide +kernel
theorem dX7_mostOfAny_45 : decode cX7_mostOfAny 45 = .ok (.iload_n 2, 1) := by decide +kernel
theorem dX7_mostOfAny_46 : decode cX7_mostOfAny 46 = .ok (.ireturn, 1) := by decide +kernel
theorem dX7_tracePath_0 : decode cX7_tracePath 0 = .ok (.iconst 0, 1) := by decide +kernel
theorem dX7_tracePath_1 : decode cX7_tracePath 1 = .ok (.istore_n 2, 1) := by decide +kernel
theorem dX7_tracePath_2 : decode cX7_tracePath 2 = .ok (.iload_n 1, 1) := by decide +kernel
theorem dX7_tracePath_3 : decode cX7_tracePath 3 = .ok (.istore_n 3, 1) := by decide +kernel
theorem dX7_tracePath_4 : decode cX7_tracePath 4 = .ok (.iconst 0, 1) := by decide +kernel
theorem dX7_tracePath_5 : decode cX7_tracePath 5 = .ok (.istore 4, 2) := by decide +kernel
theorem dX7_tracePath_7 : decode cX7_tracePath 7 = .ok (.iload 4, 2) := by decide +kernel
theorem dX7_tracePath_9 : decode cX7_tracePath 9 = .ok (.sipush 3000, 3) := by decide +kernel
theorem dX7_tracePath_12 : decode cX7_tracePath 12 = .ok (.if_icmp .ge 25, 3) := by decide +kernel
theorem dX7_tracePath_15 : decode cX7_tracePath 15 = .ok (.iload_n 3, 1) := by decide +kernel
theorem dX7_tracePath_16 : decode cX7_tracePath 16 = .ok (.ifCond .le 21, 3) := by decide +kernel
theorem dX7_tracePath_37 : decode cX7_tracePath 37 = .ok (.iload_n 1, 1) := by decide +kernel
theorem dX7_tracePath_38 : decode cX7_tracePath 38 = .ok (.istore_n 3, 1) := by decide +kernel
theorem dX7_tracePath_39 : decode cX7_tracePath 39 = .ok (.iload_n 2, 1) := by decide +kernel
theorem dX7_tracePath_40 : decode cX7_tracePath 40 = .ok (.iconst 1, 1) := by decide +kernel
theorem dX7_tracePath_41 : decode cX7_tracePath 41 = .ok (.isub, 1) := by decide +kernel
theorem dX7_tracePath_42 : decode cX7_tracePath 42 = .ok (.istore 4, 2) := by decide +kernel
theorem dX7_tracePath_44 : decode cX7_tracePath 44 = .ok (.iload 4, 2) := by decide +kernel
theorem dX7_tracePath_46 : decode cX7_tracePath 46 = .ok (.ifCond .lt 43, 3) := by decide +kernel
theorem dX7_tracePath_89 : decode cX7_tracePath 89 = .ok (.iload_n 2, 1) := by decide +kernel
theorem dX7_tracePath_90 : decode cX7_tracePath 90 = .ok (.ireturn, 1) := by decide +kernel
theorem dX8_init_0 : decode cX8_init 0 = .ok (.aload_n 0, 1) := by decide +kernel
theorem dX8_init_1 : decode cX8_init 1 = .ok (.invokespecial 3, 3) := by decide +kernel
theorem dX8_init_4 : decode cX8_init 4 = .ok (.aload_n 0, 1) := by decide +kernel
theorem dX8_init_5 : decode cX8_init 5 = .ok (.sipush 3000, 3) := by decide +kernel
theorem dX8_init_8 : decode cX8_init 8 = .ok (.newarray .long, 2) := by decide +kernel
theorem dX8_init_10 : decode cX8_init 10 = .ok (.putfield 9, 3) := by decide +kernel
theorem dX8_init_13 : decode cX8_init 13 = .ok (.aload_n 0, 1) := by decide +kernel
theorem dX8_init_14 : decode cX8_init 14 = .ok (.sipush 3000, 3) := by decide +kernel
theorem dX8_init_17 : decode cX8_init 17 = .ok (.newarray .long, 2) := by decide +kernel
theorem dX8_init_19 : decode cX8_init 19 = .ok (.putfield 15, 3) := by decide +kernel
theorem dX8_init_22 : decode cX8_init 22 = .ok (.aload_n 0, 1) := by decide +kernel
theorem dX8_init_23 : decode cX8_init 23 = .ok (.sipush 3000, 3) := by decide +kernel
theorem dX8_init_26 : decode cX8_init 26 = .ok (.newarray .long, 2) := by decide +kernel
theorem dX8_init_28 : decode cX8_init 28 = .ok (.putfield 18, 3) := by decide +kernel
theorem dX8_init_31 : decode cX8_init 31 = .ok (.aload_n 0, 1) := by decide +kernel
theorem dX8_init_32 : decode cX8_init 32 = .ok (.sipush 3000, 3) := by decide +kernel
theorem dX8_init_35 : decode cX8_init 35 = .ok (.newarray .int, 2) := by decide +kernel
theorem dX8_init_37 : decode cX8_init 37 = .ok (.putfield 21, 3) := by decide +kernel
theorem dX8_init_40 : decode cX8_init 40 = .ok (.aload_n 0, 1) := by decide +kernel
theorem dX8_init_41 : decode cX8_init 41 = .ok (.sipush 3000, 3) := by decide +kernel
theorem dX8_init_44 : decode cX8_init 44 = .ok (.newarray .int, 2) := by decide +kernel
theorem dX8_init_46 : decode cX8_init 46 = .ok (.putfield 25, 3) := by decide +kernel
theorem dX8_init_49 : decode cX8_init 49 = .ok (.aload_n 0, 1) := by decide +kernel
theorem dX8_init_50 : decode cX8_init 50 = .ok (.sipush 8192, 3) := by decide +kernel
theorem dX8_init_53 : decode cX8_init 53 = .ok (.newarray .int, 2) := by decide +kernel
theorem dX8_init_55 : decode cX8_init 55 = .ok (.putfield 28, 3) := by decide +kernel
theorem dX8_init_58 : decode cX8_init 58 = .ok (.return_, 1) := by decide +kernel
theorem dX8_size_0 : decode cX8_size 0 = .ok (.aload_n 0, 1) := by decide +kernel
theorem dX8_size_1 : decode cX8_size 1 = .ok (.getfield 31, 3) := by decide +kernel
theorem dX8_size_4 : decode cX8_size 4 = .ok (.ireturn, 1) := by decide +kernel
theorem dX8_isOver_0 : decode cX8_isOver 0 = .ok (.aload_n 0, 1) := by decide +kernel
theorem dX8_isOver_1 : decode cX8_isOver 1 = .ok (.getfield 35, 3) := by decide +kernel
theorem dX8_isOver_4 : decode cX8_isOver 4 = .ok (.ireturn, 1) := by decide +kernel
theorem dX8_clear_0 : decode cX8_clear 0 = .ok (.aload_n 0, 1) := by decide +kernel
theorem dX8_clear_1 : decode cX8_clear 1 = .ok (.getfield 28, 3) := by decide +kernel
theorem dX8_clear_4 : decode cX8_clear 4 = .ok (.iconst 0, 1) := by decide +kernel
theorem dX8_clear_5 : decode cX8_clear 5 = .ok (.invokestatic 39, 3) := by decide +kernel
theorem dX8_clear_8 : decode cX8_clear 8 = .ok (.aload_n 0, 1) := by decide +kernel
theorem dX8_clear_9 : decode cX8_clear 9 = .ok (.iconst 0, 1) := by decide +kernel
theorem dX8_clear_10 : decode cX8_clear 10 = .ok (.putfield 31, 3) := by decide +kernel
theorem dX8_clear_13 : decode cX8_clear 13 = .ok (.aload_n 0, 1) := by decide +kernel
theorem dX8_clear_14 : decode cX8_clear 14 = .ok (.iconst 0, 1) := by decide +kernel
theorem dX8_clear_15 : decode cX8_clear 15 = .ok (.putfield 35, 3) := by decide +kernel
theorem dX8_clear_18 : decode cX8_clear 18 = .ok (.return_, 1) := by decide +kernel
theorem dX8_load_0 : decode cX8_load 0 = .ok (.iload_n 1, 1) := by decide +kernel
theorem dX8_load_1 : decode cX8_load 1 = .ok (.ifCond .lt 48, 3) := by decide +kernel
theorem dX8_load_4 : decode cX8_load 4 = .ok (.iload_n 1, 1) := by decide +kernel
theorem dX8_load_5 : decode cX8_load 5 = .ok (.aload_n 0, 1) := by decide +kernel
theorem dX8_load_6 : decode cX8_load 6 = .ok (.getfield 31, 3) := by decide +kernel
theorem dX8_load_9 : decode cX8_load 9 = .ok (.if_icmp .ge 40, 3) := by decide +kernel
theorem dX8_load_12 : decode cX8_load 12 = .ok (.iload_n 1, 1) := by decide +kernel
theorem dX8_load_13 : decode cX8_load 13 = .ok (.sipush 3000, 3) := by decide +kernel
theorem dX8_load_16 : decode cX8_load 16 = .ok (.if_icmp .ge 33, 3) := by decide +kernel
theorem dX8_load_19 : decode cX8_load 19 = .ok (.aload_n 2, 1) := by decide +kernel
theorem dX8_load_20 : decode cX8_load 20 = .ok (.aload_n 0, 1) := by decide +kernel
theorem dX8_load_21 : decode cX8_load 21 = .ok (.getfield 9, 3) := by decide +kernel
theorem dX8_load_24 : decode cX8_load 24 = .ok (.iload_n 1, 1) := by decide +kernel
theorem dX8_load_25 : decode cX8_load 25 = .ok (.laload, 1) := by decide +kernel
theorem dX8_load_26 : decode cX8_load 26 = .ok (.putfield 45, 3) := by decide +kernel
theorem dX8_load_29 : decode cX8_load 29 = .ok (.aload_n 2, 1) := by decide +kernel
theorem dX8_load_30 : decode cX8_load 30 = .ok (.aload_n 0, 1) := by decide +kernel
theorem dX8_load_31 : decode cX8_load 31 = .ok (.getfield 15, 3) := by decide +kernel
theorem dX8_load_34 : decode cX8_load 34 = .ok (.iload_n 1, 1) := by decide +kernel
theorem dX8_load_35 : decode cX8_load 35 = .ok (.laload, 1) := by decide +kernel
theorem dX8_load_36 : decode cX8_load 36 = .ok (.putfield 50, 3) := by decide +kernel
theorem dX8_load_39 : decode cX8_load 39 = .ok (.aload_n 2, 1) := by decide +kernel
theorem dX8_load_40 : decode cX8_load 40 = .ok (.aload_n 0, 1) := by decide +kernel
theorem dX8_load_41 : decode cX8_load 41 = .ok (.getfield 18, 3) := by decide +kernel
theorem dX8_load_44 : decode cX8_load 44 = .ok (.iload_n 1, 1) := by decide +kernel
theorem dX8_load_45 : decode cX8_load 45 = .ok (.laload, 1) := by decide +kernel
theorem dX8_load_46 : decode cX8_load 46 = .ok (.putfield 52, 3) := by decide +kernel
theorem dX8_load_49 : decode cX8_load 49 = .ok (.return_, 1) := by decide +kernel
theorem dX8_add_0 : decode cX8_add 0 = .ok (.aload_n 0, 1) := by decide +kernel
theorem dX8_add_1 : decode cX8_add 1 = .ok (.aload_n 1, 1) := by decide +kernel
theorem dX8_add_2 : decode cX8_add 2 = .ok (.invokevirtual 54, 3) := by decide +kernel
theorem dX8_add_5 : decode cX8_add 5 = .ok (.istore 4, 2) := by decide +kernel
theorem dX8_add_7 : decode cX8_add 7 = .ok (.iload 4, 2) := by decide +kernel
theorem dX8_add_9 : decode cX8_add 9 = .ok (.ifCond .lt 21, 3) := by decide +kernel
theorem dX8_add_12 : decode cX8_add 12 = .ok (.iload 4, 2) := by decide +kernel
theorem dX8_add_14 : decode cX8_add 14 = .ok (.sipush 8192, 3) := by decide +kernel
theorem dX8_add_17 : decode cX8_add 17 = .ok (.if_icmp .ge 13, 3) := by decide +kernel
theorem dX8_add_20 : decode cX8_add 20 = .ok (.aload_n 0, 1) := by decide +kernel
theorem dX8_add_21 : decode cX8_add 21 = .ok (.getfield 28, 3) := by decide +kernel
theorem dX8_add_24 : decode cX8_add 24 = .ok (.iload 4, 2) := by decide +kernel
theorem dX8_add_26 : decode cX8_add 26 = .ok (.iaload, 1) := by decide +kernel
theorem dX8_add_27 : decode cX8_add 27 = .ok (.ifCond .eq 4, 3) := by decide +kernel
theorem dX8_add_31 : decode cX8_add 31 = .ok (.aload_n 0, 1) := by decide +kernel
theorem dX8_add_32 : decode cX8_add 32 = .ok (.getfield 31, 3) := by decide +kernel
theorem dX8_add_35 : decode cX8_add 35 = .ok (.ifCond .lt 13, 3) := by decide +kernel
theorem dX8_add_38 : decode cX8_add 38 = .ok (.aload_n 0, 1) := by decide +kernel
theorem dX8_add_39 : decode cX8_add 39 = .ok (.getfield 31, 3) := by decide +kernel
theorem dX8_add_42 : decode cX8_add 42 = .ok (.sipush 3000, 3) := by decide +kernel
theorem dX8_add_45 : decode cX8_add 45 = .ok (.if_icmp .lt 9, 3) := by decide +kernel
theorem dX8_add_54 : decode cX8_add 54 = .ok (.aload_n 0, 1) := by decide +kernel
theorem dX8_add_55 : decode cX8_add 55 = .ok (.getfield 9, 3) := by decide +kernel
theorem dX8_add_58 : decode cX8_add 58 = .ok (.aload_n 0, 1) := by decide +kernel
theorem dX8_add_59 : decode cX8_add 59 = .ok (.getfield 31, 3) := by decide +kernel
theorem dX8_add_62 : decode cX8_add 62 = .ok (.aload_n 1, 1) := by decide +kernel
theorem dX8_add_63 : decode cX8_add 63 = .ok (.getfield 45, 3) := by decide +kernel
theorem dX8_add_66 : decode cX8_add 66 = .ok (.lastore, 1) := by decide +kernel
theorem dX8_add_67 : decode cX8_add 67 = .ok (.aload_n 0, 1) := by decide +kernel
theorem dX8_add_68 : decode cX8_add 68 = .ok (.getfield 15, 3) := by decide +kernel
theorem dX8_add_71 : decode cX8_add 71 = .ok (.aload_n 0, 1) := by decide +kernel
theorem dX8_add_72 : decode cX8_add 72 = .ok (.getfield 31, 3) := by decide +kernel
theorem dX8_add_75 : decode cX8_add 75 = .ok (.aload_n 1, 1) := by decide +kernel
theorem dX8_add_76 : decode cX8_add 76 = .ok (.getfield 50, 3) := by decide +kernel
theorem dX8_add_79 : decode cX8_add 79 = .ok (.lastore, 1) := by decide +kernel
theorem dX8_add_80 : decode cX8_add 80 = .ok (.aload_n 0, 1) := by decide +kernel
theorem dX8_add_81 : decode cX8_add 81 = .ok (.getfield 18, 3) := by decide +kernel
theorem dX8_add_84 : decode cX8_add 84 = .ok (.aload_n 0, 1) := by decide +kernel
theorem dX8_add_85 : decode cX8_add 85 = .ok (.getfield 31, 3) := by decide +kernel
theorem dX8_add_88 : decode cX8_add 88 = .ok (.aload_n 1, 1) := by decide +kernel
theorem dX8_add_89 : decode cX8_add 89 = .ok (.getfield 52, 3) := by decide +kernel
theorem dX8_add_92 : decode cX8_add 92 = .ok (.lastore, 1) := by decide +kernel
theorem dX8_add_93 : decode cX8_add 93 = .ok (.aload_n 0, 1) := by decide +kernel
theorem dX8_add_94 : decode cX8_add 94 = .ok (.getfield 21, 3) := by decide +kernel
theorem dX8_add_97 : decode cX8_add 97 = .ok (.aload_n 0, 1) := by decide +kernel
theorem dX8_add_98 : decode cX8_add 98 = .ok (.getfield 31, 3) := by decide +kernel
theorem dX8_add_101 : decode cX8_add 101 = .ok (.iload_n 2, 1) := by decide +kernel
theorem dX8_add_102 : decode cX8_add 102 = .ok (.iastore, 1) := by decide +kernel
theorem dX8_add_103 : decode cX8_add 103 = .ok (.aload_n 0, 1) := by decide +kernel
theorem dX8_add_104 : decode cX8_add 104 = .ok (.getfield 25, 3) := by decide +kernel
theorem dX8_add_107 : decode cX8_add 107 = .ok (.aload_n 0, 1) := by decide +kernel
theorem dX8_add_108 : decode cX8_add 108 = .ok (.getfield 31, 3) := by decide +kernel
theorem dX8_add_111 : decode cX8_add 111 = .ok (.iload_n 3, 1) := by decide +kernel
theorem dX8_add_112 : decode cX8_add 112 = .ok (.iastore, 1) := by decide +kernel
theorem dX8_add_113 : decode cX8_add 113 = .ok (.aload_n 0, 1) := by decide +kernel
theorem dX8_add_114 : decode cX8_add 114 = .ok (.dup, 1) := by decide +kernel
theorem dX8_add_115 : decode cX8_add 115 = .ok (.getfield 31, 3) := by decide +kernel
theorem dX8_add_118 : decode cX8_add 118 = .ok (.iconst 1, 1) := by decide +kernel
theorem dX8_add_119 : decode cX8_add 119 = .ok (.iadd, 1) := by decide +kernel
theorem dX8_add_120 : decode cX8_add 120 = .ok (.putfield 31, 3) := by decide +kernel
theorem dX8_add_123 : decode cX8_add 123 = .ok (.aload_n 0, 1) := by decide +kernel
theorem dX8_add_124 : decode cX8_add 124 = .ok (.getfield 28, 3) := by decide +kernel
theorem dX8_add_127 : decode cX8_add 127 = .ok (.iload 4, 2) := by decide +kernel
theorem dX8_add_129 : decode cX8_add 129 = .ok (.aload_n 0, 1) := by decide +kernel
theorem dX8_add_130 : decode cX8_add 130 = .ok (.getfield 31, 3) := by decide +kernel
theorem dX8_add_133 : decode cX8_add 133 = .ok (.iastore, 1) := by decide +kernel
theorem dX8_add_134 : decode cX8_add 134 = .ok (.return_, 1) := by decide +kernel
theorem dX8_slotOf_0 : decode cX8_slotOf 0 = .ok (.aload_n 1, 1) := by decide +kernel
theorem dX8_slotOf_1 : decode cX8_slotOf 1 = .ok (.getfield 45, 3) := by decide +kernel
theorem dX8_slotOf_4 : decode cX8_slotOf 4 = .ok (.ldc2_w 58, 3) := by decide +kernel
theorem dX8_slotOf_7 : decode cX8_slotOf 7 = .ok (.lmul, 1) := by decide +kernel
theorem dX8_slotOf_8 : decode cX8_slotOf 8 = .ok (.aload_n 1, 1) := by decide +kernel
theorem dX8_slotOf_9 : decode cX8_slotOf 9 = .ok (.getfield 50, 3) := by decide +kernel
theorem dX8_slotOf_12 : decode cX8_slotOf 12 = .ok (.ladd, 1) := by decide +kernel
theorem dX8_slotOf_13 : decode cX8_slotOf 13 = .ok (.lstore_n 2, 1) := by decide +kernel
theorem dX8_slotOf_14 : decode cX8_slotOf 14 = .ok (.lload_n 2, 1) := by decide +kernel
theorem dX8_slotOf_15 : decode cX8_slotOf 15 = .ok (.ldc2_w 58, 3) := by decide +kernel
theorem dX8_slotOf_18 : decode cX8_slotOf 18 = .ok (.lmul, 1) := by decide +kernel
theorem dX8_slotOf_19 : decode cX8_slotOf 19 = .ok (.aload_n 1, 1) := by decide +kernel
theorem dX8_slotOf_20 : decode cX8_slotOf 20 = .ok (.getfield 52, 3) := by decide +kernel
theorem dX8_slotOf_23 : decode cX8_slotOf 23 = .ok (.ladd, 1) := by decide +kernel
theorem dX8_slotOf_24 : decode cX8_slotOf 24 = .ok (.lstore_n 2, 1) := by decide +kernel
theorem dX8_slotOf_25 : decode cX8_slotOf 25 = .ok (.lload_n 2, 1) := by decide +kernel
theorem dX8_slotOf_26 : decode cX8_slotOf 26 = .ok (.ldc2_w 58, 3) := by decide +kernel
theorem dX8_slotOf_29 : decode cX8_slotOf 29 = .ok (.lmul, 1) := by decide +kernel
theorem dX8_slotOf_30 : decode cX8_slotOf 30 = .ok (.lstore_n 2, 1) := by decide +kernel
theorem dX8_slotOf_31 : decode cX8_slotOf 31 = .ok (.lload_n 2, 1) := by decide +kernel
theorem dX8_slotOf_32 : decode cX8_slotOf 32 = .ok (.bipush 51, 2) := by decide +kernel
theorem dX8_slotOf_34 : decode cX8_slotOf 34 = .ok (.lushr, 1) := by decide +kernel
theorem dX8_slotOf_35 : decode cX8_slotOf 35 = .ok (.l2i, 1) := by decide +kernel
theorem dX8_slotOf_36 : decode cX8_slotOf 36 = .ok (.istore 4, 2) := by decide +kernel
theorem dX8_slotOf_38 : decode cX8_slotOf 38 = .ok (.iconst 0, 1) := by decide +kernel
theorem dX8_slotOf_39 : decode cX8_slotOf 39 = .ok (.istore 5, 2) := by decide +kernel
theorem dX8_slotOf_41 : decode cX8_slotOf 41 = .ok (.iload 5, 2) := by decide +kernel
theorem dX8_slotOf_43 : decode cX8_slotOf 43 = .ok (.sipush 8192, 3) := by decide +kernel
theorem dX8_slotOf_46 : decode cX8_slotOf 46 = .ok (.if_icmp .ge 50, 3) := by decide +kernel
theorem dX8_slotOf_49 : decode cX8_slotOf 49 = .ok (.iload 4, 2) := by decide +kernel
theorem dX8_slotOf_51 : decode cX8_slotOf 51 = .ok (.sipush 8191, 3) := by decide +kernel
theorem dX8_slotOf_54 : decode cX8_slotOf 54 = .ok (.iand, 1) := by decide +kernel
theorem dX8_slotOf_55 : decode cX8_slotOf 55 = .ok (.istore 4, 2) := by decide +kernel
theorem dX8_slotOf_57 : decode cX8_slotOf 57 = .ok (.aload_n 0, 1) := by decide +kernel
theorem dX8_slotOf_58 : decode cX8_slotOf 58 = .ok (.getfield 28, 3) := by decide +kernel
theorem dX8_slotOf_61 : decode cX8_slotOf 61 = .ok (.iload 4, 2) := by decide +kernel
theorem dX8_slotOf_63 : decode cX8_slotOf 63 = .ok (.iaload, 1) := by decide +kernel
theorem dX8_slotOf_64 : decode cX8_slotOf 64 = .ok (.ifCond .eq 20, 3) := by decide +kernel
theorem dX8_slotOf_84 : decode cX8_slotOf 84 = .ok (.iload 4, 2) := by decide +kernel
theorem dX8_slotOf_86 : decode cX8_slotOf 86 = .ok (.ireturn, 1) := by decide +kernel
theorem dX9_init_0 : decode cX9_init 0 = .ok (.aload_n 0, 1) := by decide +kernel
theorem dX9_init_1 : decode cX9_init 1 = .ok (.invokespecial 3, 3) := by decide +kernel
theorem dX9_init_4 : decode cX9_init 4 = .ok (.aload_n 0, 1) := by decide +kernel
theorem dX9_init_5 : decode cX9_init 5 = .ok (.bipush 80, 2) := by decide +kernel
theorem dX9_init_7 : decode cX9_init 7 = .ok (.newarray .int, 2) := by decide +kernel
theorem dX9_init_9 : decode cX9_init 9 = .ok (.putfield 11, 3) := by decide +kernel
theorem dX9_init_12 : decode cX9_init 12 = .ok (.return_, 1) := by decide +kernel
theorem dX9_length_0 : decode cX9_length 0 = .ok (.aload_n 0, 1) := by decide +kernel
theorem dX9_length_1 : decode cX9_length 1 = .ok (.getfield 15, 3) := by decide +kernel
theorem dX9_length_4 : decode cX9_length 4 = .ok (.ireturn, 1) := by decide +kernel
theorem dX9_addFour_0 : decode cX9_addFour 0 = .ok (.aload_n 0, 1) := by decide +kernel
theorem dX9_addFour_1 : decode cX9_addFour 1 = .ok (.getfield 15, 3) := by decide +kernel
theorem dX9_addFour_4 : decode cX9_addFour 4 = .ok (.ifCond .lt 17, 3) := by decide +kernel
theorem dX9_addFour_7 : decode cX9_addFour 7 = .ok (.aload_n 0, 1) := by decide +kernel
theorem dX9_addFour_8 : decode cX9_addFour 8 = .ok (.getfield 15, 3) := by decide +kernel
theorem dX9_addFour_11 : decode cX9_addFour 11 = .ok (.aload_n 0, 1) := by decide +kernel
theorem dX9_addFour_12 : decode cX9_addFour 12 = .ok (.getfield 11, 3) := by decide +kernel
theorem dX9_addFour_15 : decode cX9_addFour 15 = .ok (.arraylength, 1) := by decide +kernel
theorem dX9_addFour_16 : decode cX9_addFour 16 = .ok (.iconst 4, 1) := by decide +kernel
theorem dX9_addFour_17 : decode cX9_addFour 17 = .ok (.isub, 1) := by decide +kernel
theorem dX9_addFour_18 : decode cX9_addFour 18 = .ok (.if_icmp .le 5, 3) := by decide +kernel
theorem dX9_addFour_23 : decode cX9_addFour 23 = .ok (.iconst 0, 1) := by decide +kernel
theorem dX9_addFour_24 : decode cX9_addFour 24 = .ok (.istore_n 2, 1) := by decide +kernel
theorem dX9_addFour_25 : decode cX9_addFour 25 = .ok (.iload_n 2, 1) := by decide +kernel
theorem dX9_addFour_26 : decode cX9_addFour 26 = .ok (.iconst 4, 1) := by decide +kernel
theorem dX9_addFour_27 : decode cX9_addFour 27 = .ok (.if_icmp .ge 33, 3) := by decide +kernel
theorem dX9_addFour_30 : decode cX9_addFour 30 = .ok (.aload_n 0, 1) := by decide +kernel
theorem dX9_addFour_31 : decode cX9_addFour 31 = .ok (.getfield 11, 3) := by decide +kernel
theorem dX9_addFour_34 : decode cX9_addFour 34 = .ok (.aload_n 0, 1) := by decide +kernel
theorem dX9_addFour_35 : decode cX9_addFour 35 = .ok (.getfield 15, 3) := by decide +kernel
theorem dX9_addFour_38 : decode cX9_addFour 38 = .ok (.iload_n 2, 1) := by decide +kernel
theorem dX9_addFour_39 : decode cX9_addFour 39 = .ok (.iadd, 1) := by decide +kernel
theorem dX9_addFour_40 : decode cX9_addFour 40 = .ok (.iload_n 1, 1) := by decide +kernel
theorem dX9_addFour_41 : decode cX9_addFour 41 = .ok (.bipush 24, 2) := by decide +kernel
theorem dX9_addFour_43 : decode cX9_addFour 43 = .ok (.bipush 8, 2) := by decide +kernel
theorem dX9_addFour_45 : decode cX9_addFour 45 = .ok (.iload_n 2, 1) := by decide +kernel
theorem dX9_addFour_46 : decode cX9_addFour 46 = .ok (.imul, 1) := by decide +kernel
theorem dX9_addFour_47 : decode cX9_addFour 47 = .ok (.isub, 1) := by decide +kernel
theorem dX9_addFour_48 : decode cX9_addFour 48 = .ok (.iushr, 1) := by decide +kernel
theorem dX9_addFour_49 : decode cX9_addFour 49 = .ok (.sipush 255, 3) := by decide +kernel
theorem dX9_addFour_52 : decode cX9_addFour 52 = .ok (.iand, 1) := by decide +kernel
theorem dX9_addFour_53 : decode cX9_addFour 53 = .ok (.iastore, 1) := by decide +kernel
theorem dX9_addFour_54 : decode cX9_addFour 54 = .ok (.iinc 2 1, 3) := by decide +kernel
theorem dX9_addFour_57 : decode cX9_addFour 57 = .ok (.goto (-32), 3) := by decide +kernel
theorem dX9_addFour_60 : decode cX9_addFour 60 = .ok (.aload_n 0, 1) := by decide +kernel
theorem dX9_addFour_61 : decode cX9_addFour 61 = .ok (.dup, 1) := by decide +kernel
theorem dX9_addFour_62 : decode cX9_addFour 62 = .ok (.getfield 15, 3) := by decide +kernel
theorem dX9_addFour_65 : decode cX9_addFour 65 = .ok (.iconst 4, 1) := by decide +kernel
theorem dX9_addFour_66 : decode cX9_addFour 66 = .ok (.iadd, 1) := by decide +kernel
theorem dX9_addFour_67 : decode cX9_addFour 67 = .ok (.putfield 15, 3) := by decide +kernel
theorem dX9_addFour_70 : decode cX9_addFour 70 = .ok (.iconst 1, 1) := by decide +kernel
theorem dX9_addFour_71 : decode cX9_addFour 71 = .ok (.ireturn, 1) := by decide +kernel
theorem dX9_cut_0 : decode cX9_cut 0 = .ok (.iload_n 1, 1) := by decide +kernel
theorem dX9_cut_1 : decode cX9_cut 1 = .ok (.ifCond .lt 11, 3) := by decide +kernel
theorem dX9_cut_4 : decode cX9_cut 4 = .ok (.iload_n 1, 1) := by decide +kernel
theorem dX9_cut_5 : decode cX9_cut 5 = .ok (.aload_n 0, 1) := by decide +kernel
theorem dX9_cut_6 : decode cX9_cut 6 = .ok (.getfield 15, 3) := by decide +kernel
theorem dX9_cut_9 : decode cX9_cut 9 = .ok (.if_icmp .le 5, 3) := by decide +kernel
theorem dX9_cut_12 : decode cX9_cut 12 = .ok (.iconst 0, 1) := by decide +kernel
theorem dX9_cut_13 : decode cX9_cut 13 = .ok (.ireturn, 1) := by decide +kernel
theorem dX9_cut_14 : decode cX9_cut 14 = .ok (.aload_n 0, 1) := by decide +kernel
theorem dX9_cut_15 : decode cX9_cut 15 = .ok (.iload_n 1, 1) := by decide +kernel
theorem dX9_cut_16 : decode cX9_cut 16 = .ok (.putfield 15, 3) := by decide +kernel
theorem dX9_cut_19 : decode cX9_cut 19 = .ok (.iconst 1, 1) := by decide +kernel
theorem dX9_cut_20 : decode cX9_cut 20 = .ok (.ireturn, 1) := by decide +kernel
theorem dX9_startReading_0 : decode cX9_startReading 0 = .ok (.aload_n 0, 1) := by decide +kernel
theorem dX9_startReading_1 : decode cX9_startReading 1 = .ok (.iconst 0, 1) := by decide +kernel
theorem dX9_startReading_2 : decode cX9_startReading 2 = .ok (.putfield 19, 3) := by decide +kernel
theorem dX9_startReading_5 : decode cX9_startReading 5 = .ok (.aload_n 0, 1) := by decide +kernel
theorem dX9_startReading_6 : decode cX9_startReading 6 = .ok (.aload_n 0, 1) := by decide +kernel
theorem dX9_startReading_7 : decode cX9_startReading 7 = .ok (.getfield 15, 3) := by decide +kernel
theorem dX9_startReading_10 : decode cX9_startReading 10 = .ok (.iload_n 1, 1) := by decide +kernel
theorem dX9_startReading_11 : decode cX9_startReading 11 = .ok (.invokestatic 22, 3) := by decide +kernel
theorem dX9_startReading_14 : decode cX9_startReading 14 = .ok (.putfield 28, 3) := by decide +kernel
theorem dX9_startReading_17 : decode cX9_startReading 17 = .ok (.return_, 1) := by decide +kernel
theorem dX10_init_0 : decode cX10_init 0 = .ok (.aload_n 0, 1) := by decide +kernel
theorem dX10_init_1 : decode cX10_init 1 = .ok (.invokespecial 3, 3) := by decide +kernel
theorem dX10_init_4 : decode cX10_init 4 = .ok (.aload_n 0, 1) := by decide +kernel
theorem dX10_init_5 : decode cX10_init 5 = .ok (.aload_n 1, 1) := by decide +kernel
theorem dX10_init_6 : decode cX10_init 6 = .ok (.putfield 9, 3) := by decide +kernel
theorem dX10_init_9 : decode cX10_init 9 = .ok (.return_, 1) := by decide +kernel
theorem dX10_makeTold_0 : decode cX10_makeTold 0 = .ok (.iload_n 2, 1) := by decide +kernel
theorem dX10_makeTold_1 : decode cX10_makeTold 1 = .ok (.bipush 10, 2) := by decide +kernel
theorem dX10_makeTold_3 : decode cX10_makeTold 3 = .ok (.idiv, 1) := by decide +kernel
theorem dX10_makeTold_4 : decode cX10_makeTold 4 = .ok (.istore_n 3, 1) := by decide +kernel
theorem dX10_makeTold_5 : decode cX10_makeTold 5 = .ok (.iload_n 2, 1) := by decide +kernel
theorem dX10_makeTold_6 : decode cX10_makeTold 6 = .ok (.bipush 10, 2) := by decide +kernel
theorem dX10_makeTold_8 : decode cX10_makeTold 8 = .ok (.irem, 1) := by decide +kernel
theorem dX10_makeTold_9 : decode cX10_makeTold 9 = .ok (.istore 4, 2) := by decide +kernel
theorem dX10_makeTold_11 : decode cX10_makeTold 11 = .ok (.aload_n 1, 1) := by decide +kernel
theorem dX10_makeTold_12 : decode cX10_makeTold 12 = .ok (.iload_n 3, 1) := by decide +kernel
theorem dX10_makeTold_13 : decode cX10_makeTold 13 = .ok (.invokevirtual 53, 3) := by decide +kernel
theorem dX10_makeTold_16 : decode cX10_makeTold 16 = .ok (.ifCond .eq 12, 3) := by decide +kernel
theorem dX10_makeTold_28 : decode cX10_makeTold 28 = .ok (.iconst 0, 1) := by decide +kernel
theorem dX10_makeTold_29 : decode cX10_makeTold 29 = .ok (.ireturn, 1) := by decide +kernel
theorem dX10_survey_0 : decode cX10_survey 0 = .ok (.aload_n 0, 1) := by decide +kernel
theorem dX10_survey_1 : decode cX10_survey 1 = .ok (.iconst 0, 1) := by decide +kernel
theorem dX10_survey_2 : decode cX10_survey 2 = .ok (.putfield 72, 3) := by decide +kernel
theorem dX10_survey_5 : decode cX10_survey 5 = .ok (.aload_n 0, 1) := by decide +kernel
theorem dX10_survey_6 : decode cX10_survey 6 = .ok (.iconst (-1), 1) := by decide +kernel
theorem dX10_survey_7 : decode cX10_survey 7 = .ok (.putfield 75, 3) := by decide +kernel
theorem dX10_survey_10 : decode cX10_survey 10 = .ok (.aload_n 0, 1) := by decide +kernel
theorem dX10_survey_11 : decode cX10_survey 11 = .ok (.iconst 0, 1) := by decide +kernel
theorem dX10_survey_12 : decode cX10_survey 12 = .ok (.putfield 78, 3) := by decide +kernel
theorem dX10_survey_15 : decode cX10_survey 15 = .ok (.iconst 0, 1) := by decide +kernel
theorem dX10_survey_16 : decode cX10_survey 16 = .ok (.istore_n 2, 1) := by decide +kernel
theorem dX10_survey_17 : decode cX10_survey 17 = .ok (.iload_n 2, 1) := by decide +kernel
theorem dX10_survey_18 : decode cX10_survey 18 = .ok (.aload_n 1, 1) := by decide +kernel
theorem dX10_survey_19 : decode cX10_survey 19 = .ok (.invokevirtual 81, 3) := by decide +kernel
theorem dX10_survey_22 : decode cX10_survey 22 = .ok (.if_icmp .ge 96, 3) := by decide +kernel
theorem dX10_survey_118 : decode cX10_survey 118 = .ok (.return_, 1) := by decide +kernel
theorem dX10_countGood_0 : decode cX10_countGood 0 = .ok (.iconst 0, 1) := by decide +kernel
theorem dX10_countGood_1 : decode cX10_countGood 1 = .ok (.istore_n 2, 1) := by decide +kernel
theorem dX10_countGood_2 : decode cX10_countGood 2 = .ok (.iconst 0, 1) := by decide +kernel
theorem dX10_countGood_3 : decode cX10_countGood 3 = .ok (.istore_n 3, 1) := by decide +kernel
theorem dX10_countGood_4 : decode cX10_countGood 4 = .ok (.iload_n 3, 1) := by decide +kernel
theorem dX10_countGood_5 : decode cX10_countGood 5 = .ok (.aload_n 1, 1) := by decide +kernel
theorem dX10_countGood_6 : decode cX10_countGood 6 = .ok (.invokevirtual 81, 3) := by decide +kernel
theorem dX10_countGood_9 : decode cX10_countGood 9 = .ok (.if_icmp .ge 43, 3) := by decide +kernel
theorem dX10_countGood_52 : decode cX10_countGood 52 = .ok (.iload_n 2, 1) := by decide +kernel
theorem dX10_countGood_53 : decode cX10_countGood 53 = .ok (.ireturn, 1) := by decide +kernel
theorem dX10_firstGood_0 : decode cX10_firstGood 0 = .ok (.iconst 0, 1) := by decide +kernel
theorem dX10_firstGood_1 : decode cX10_firstGood 1 = .ok (.istore_n 2, 1) := by decide +kernel
theorem dX10_firstGood_2 : decode cX10_firstGood 2 = .ok (.iload_n 2, 1) := by decide +kernel
theorem dX10_firstGood_3 : decode cX10_firstGood 3 = .ok (.aload_n 1, 1) := by decide +kernel
theorem dX10_firstGood_4 : decode cX10_firstGood 4 = .ok (.invokevirtual 81, 3) := by decide +kernel
theorem dX10_firstGood_7 : decode cX10_firstGood 7 = .ok (.if_icmp .ge 44, 3) := by decide +kernel
theorem dX10_firstGood_51 : decode cX10_firstGood 51 = .ok (.iconst (-1), 1) := by decide +kernel
theorem dX10_firstGood_52 : decode cX10_firstGood 52 = .ok (.ireturn, 1) := by decide +kernel
theorem dX11_init_0 : decode cX11_init 0 = .ok (.aload_n 0, 1) := by decide +kernel
theorem dX11_init_1 : decode cX11_init 1 = .ok (.invokespecial 1, 3) := by decide +kernel
theorem dX11_init_4 : decode cX11_init 4 = .ok (.bipush 10, 2) := by decide +kernel
theorem dX11_init_6 : decode cX11_init 6 = .ok (.newarray .int, 2) := by decide +kernel
theorem dX11_init_8 : decode cX11_init 8 = .ok (.astore_n 1, 1) := by decide +kernel
theorem dX11_init_9 : decode cX11_init 9 = .ok (.bipush 10, 2) := by decide +kernel
theorem dX11_init_11 : decode cX11_init 11 = .ok (.newarray .int, 2) := by decide +kernel
theorem dX11_init_13 : decode cX11_init 13 = .ok (.astore_n 2, 1) := by decide +kernel
theorem dX11_init_14 : decode cX11_init 14 = .ok (.aload_n 0, 1) := by decide +kernel
theorem dX11_init_15 : decode cX11_init 15 = .ok (.new 9, 3) := by decide +kernel
theorem dX11_init_18 : decode cX11_init 18 = .ok (.dup, 1) := by decide +kernel
theorem dX11_init_19 : decode cX11_init 19 = .ok (.invokespecial 11, 3) := by decide +kernel
theorem dX11_init_22 : decode cX11_init 22 = .ok (.putfield 12, 3) := by decide +kernel
theorem dX11_init_25 : decode cX11_init 25 = .ok (.aload_n 0, 1) := by decide +kernel
theorem dX11_init_26 : decode cX11_init 26 = .ok (.new 16, 3) := by decide +kernel
theorem dX11_init_29 : decode cX11_init 29 = .ok (.dup, 1) := by decide +kernel
theorem dX11_init_30 : decode cX11_init 30 = .ok (.aload_n 1, 1) := by decide +kernel
theorem dX11_init_31 : decode cX11_init 31 = .ok (.aload_n 2, 1) := by decide +kernel
theorem dX11_init_32 : decode cX11_init 32 = .ok (.invokespecial 18, 3) := by decide +kernel
theorem dX11_init_35 : decode cX11_init 35 = .ok (.putfield 21, 3) := by decide +kernel
theorem dX11_init_38 : decode cX11_init 38 = .ok (.aload_n 0, 1) := by decide +kernel
theorem dX11_init_39 : decode cX11_init 39 = .ok (.new 16, 3) := by decide +kernel
theorem dX11_init_42 : decode cX11_init 42 = .ok (.dup, 1) := by decide +kernel
theorem dX11_init_43 : decode cX11_init 43 = .ok (.aload_n 1, 1) := by decide +kernel
theorem dX11_init_44 : decode cX11_init 44 = .ok (.aload_n 2, 1) := by decide +kernel
theorem dX11_init_45 : decode cX11_init 45 = .ok (.invokespecial 18, 3) := by decide +kernel
theorem dX11_init_48 : decode cX11_init 48 = .ok (.putfield 25, 3) := by decide +kernel
theorem dX11_init_51 : decode cX11_init 51 = .ok (.aload_n 0, 1) := by decide +kernel
theorem dX11_init_52 : decode cX11_init 52 = .ok (.iconst 2, 1) := by decide +kernel
theorem dX11_init_53 : decode cX11_init 53 = .ok (.anewarray 16, 3) := by decide +kernel
theorem dX11_init_56 : decode cX11_init 56 = .ok (.putfield 28, 3) := by decide +kernel
theorem dX11_init_59 : decode cX11_init 59 = .ok (.iconst 0, 1) := by decide +kernel
theorem dX11_init_60 : decode cX11_init 60 = .ok (.istore_n 3, 1) := by decide +kernel
theorem dX11_init_61 : decode cX11_init 61 = .ok (.iload_n 3, 1) := by decide +kernel
theorem dX11_init_62 : decode cX11_init 62 = .ok (.iconst 2, 1) := by decide +kernel
theorem dX11_init_63 : decode cX11_init 63 = .ok (.if_icmp .ge 24, 3) := by decide +kernel
theorem dX11_init_66 : decode cX11_init 66 = .ok (.aload_n 0, 1) := by decide +kernel
theorem dX11_init_67 : decode cX11_init 67 = .ok (.getfield 28, 3) := by decide +kernel
theorem dX11_init_70 : decode cX11_init 70 = .ok (.iload_n 3, 1) := by decide +kernel
theorem dX11_init_71 : decode cX11_init 71 = .ok (.new 16, 3) := by decide +kernel
theorem dX11_init_74 : decode cX11_init 74 = .ok (.dup, 1) := by decide +kernel
theorem dX11_init_75 : decode cX11_init 75 = .ok (.aload_n 1, 1) := by decide +kernel
theorem dX11_init_76 : decode cX11_init 76 = .ok (.aload_n 2, 1) := by decide +kernel
theorem dX11_init_77 : decode cX11_init 77 = .ok (.invokespecial 18, 3) := by decide +kernel
theorem dX11_init_80 : decode cX11_init 80 = .ok (.aastore, 1) := by decide +kernel
theorem dX11_init_81 : decode cX11_init 81 = .ok (.iinc 3 1, 3) := by decide +kernel
theorem dX11_init_84 : decode cX11_init 84 = .ok (.goto (-23), 3) := by decide +kernel
theorem dX11_init_87 : decode cX11_init 87 = .ok (.aload_n 0, 1) := by decide +kernel
theorem dX11_init_88 : decode cX11_init 88 = .ok (.iconst 2, 1) := by decide +kernel
theorem dX11_init_89 : decode cX11_init 89 = .ok (.newarray .boolean, 2) := by decide +kernel
theorem dX11_init_91 : decode cX11_init 91 = .ok (.putfield 32, 3) := by decide +kernel
theorem dX11_init_94 : decode cX11_init 94 = .ok (.new 36, 3) := by decide +kernel
theorem dX11_init_97 : decode cX11_init 97 = .ok (.dup, 1) := by decide +kernel
theorem dX11_init_98 : decode cX11_init 98 = .ok (.invokespecial 38, 3) := by decide +kernel
theorem dX11_init_101 : decode cX11_init 101 = .ok (.astore_n 3, 1) := by decide +kernel
theorem dX11_init_102 : decode cX11_init 102 = .ok (.aload_n 0, 1) := by decide +kernel
theorem dX11_init_103 : decode cX11_init 103 = .ok (.aload_n 3, 1) := by decide +kernel
theorem dX11_init_104 : decode cX11_init 104 = .ok (.putfield 39, 3) := by decide +kernel
theorem dX11_init_107 : decode cX11_init 107 = .ok (.aload_n 0, 1) := by decide +kernel
theorem dX11_init_108 : decode cX11_init 108 = .ok (.new 43, 3) := by decide +kernel
theorem dX11_init_111 : decode cX11_init 111 = .ok (.dup, 1) := by decide +kernel
theorem dX11_init_112 : decode cX11_init 112 = .ok (.aload_n 3, 1) := by decide +kernel
theorem dX11_init_113 : decode cX11_init 113 = .ok (.invokespecial 45, 3) := by decide +kernel
theorem dX11_init_116 : decode cX11_init 116 = .ok (.putfield 48, 3) := by decide +kernel
theorem dX11_init_119 : decode cX11_init 119 = .ok (.aload_n 0, 1) := by decide +kernel
theorem dX11_init_120 : decode cX11_init 120 = .ok (.new 52, 3) := by decide +kernel
theorem dX11_init_123 : decode cX11_init 123 = .ok (.dup, 1) := by decide +kernel
theorem dX11_init_124 : decode cX11_init 124 = .ok (.invokespecial 54, 3) := by decide +kernel
theorem dX11_init_127 : decode cX11_init 127 = .ok (.putfield 55, 3) := by decide +kernel
theorem dX11_init_130 : decode cX11_init 130 = .ok (.aload_n 0, 1) := by decide +kernel
theorem dX11_init_131 : decode cX11_init 131 = .ok (.new 59, 3) := by decide +kernel
theorem dX11_init_134 : decode cX11_init 134 = .ok (.dup, 1) := by decide +kernel
theorem dX11_init_135 : decode cX11_init 135 = .ok (.invokespecial 61, 3) := by decide +kernel
theorem dX11_init_138 : decode cX11_init 138 = .ok (.putfield 62, 3) := by decide +kernel
theorem dX11_init_141 : decode cX11_init 141 = .ok (.aload_n 0, 1) := by decide +kernel
theorem dX11_init_142 : decode cX11_init 142 = .ok (.new 66, 3) := by decide +kernel
theorem dX11_init_145 : decode cX11_init 145 = .ok (.dup, 1) := by decide +kernel
theorem dX11_init_146 : decode cX11_init 146 = .ok (.invokespecial 68, 3) := by decide +kernel
theorem dX11_init_149 : decode cX11_init 149 = .ok (.putfield 69, 3) := by decide +kernel
theorem dX11_init_152 : decode cX11_init 152 = .ok (.aload_n 0, 1) := by decide +kernel
theorem dX11_init_153 : decode cX11_init 153 = .ok (.new 73, 3) := by decide +kernel
theorem dX11_init_156 : decode cX11_init 156 = .ok (.dup, 1) := by decide +kernel
theorem dX11_init_157 : decode cX11_init 157 = .ok (.invokespecial 75, 3) := by decide +kernel
theorem dX11_init_160 : decode cX11_init 160 = .ok (.putfield 76, 3) := by decide +kernel
theorem dX11_init_163 : decode cX11_init 163 = .ok (.aload_n 0, 1) := by decide +kernel
theorem dX11_init_164 : decode cX11_init 164 = .ok (.new 80, 3) := by decide +kernel
theorem dX11_init_167 : decode cX11_init 167 = .ok (.dup, 1) := by decide +kernel
theorem dX11_init_168 : decode cX11_init 168 = .ok (.invokespecial 82, 3) := by decide +kernel
theorem dX11_init_171 : decode cX11_init 171 = .ok (.putfield 83, 3) := by decide +kernel
theorem dX11_init_174 : decode cX11_init 174 = .ok (.aload_n 0, 1) := by decide +kernel
theorem dX11_init_175 : decode cX11_init 175 = .ok (.bipush 11, 2) := by decide +kernel
theorem dX11_init_177 : decode cX11_init 177 = .ok (.newarray .int, 2) := by decide +kernel
theorem dX11_init_179 : decode cX11_init 179 = .ok (.putfield 87, 3) := by decide +kernel
theorem dX11_init_182 : decode cX11_init 182 = .ok (.return_, 1) := by decide +kernel
theorem dX11_sign_0 : decode cX11_sign 0 = .ok (.aload_n 0, 1) := by decide +kernel
theorem dX11_sign_1 : decode cX11_sign 1 = .ok (.getfield 12, 3) := by decide +kernel
theorem dX11_sign_4 : decode cX11_sign 4 = .ok (.iload_n 1, 1) := by decide +kernel
theorem dX11_sign_5 : decode cX11_sign 5 = .ok (.invokevirtual 91, 3) := by decide +kernel
theorem dX11_sign_8 : decode cX11_sign 8 = .ok (.ifCond .eq 13, 3) := by decide +kernel
theorem dX11_sign_11 : decode cX11_sign 11 = .ok (.aload_n 0, 1) := by decide +kernel
theorem dX11_sign_12 : decode cX11_sign 12 = .ok (.getfield 12, 3) := by decide +kernel
theorem dX11_sign_15 : decode cX11_sign 15 = .ok (.invokevirtual 95, 3) := by decide +kernel
theorem dX11_sign_18 : decode cX11_sign 18 = .ok (.goto 4, 3) := by decide +kernel
theorem dX11_sign_22 : decode cX11_sign 22 = .ok (.ireturn, 1) := by decide +kernel
theorem dX11_end_0 : decode cX11_end 0 = .ok (.aload_n 0, 1) := by decide +kernel
theorem dX11_end_1 : decode cX11_end 1 = .ok (.getfield 12, 3) := by decide +kernel
theorem dX11_end_4 : decode cX11_end 4 = .ok (.iload_n 1, 1) := by decide +kernel
theorem dX11_end_5 : decode cX11_end 5 = .ok (.invokevirtual 99, 3) := by decide +kernel
theorem dX11_end_8 : decode cX11_end 8 = .ok (.ireturn, 1) := by decide +kernel
theorem dX11_market_0 : decode cX11_market 0 = .ok (.aload_n 0, 1) := by decide +kernel
theorem dX11_market_1 : decode cX11_market 1 = .ok (.getfield 62, 3) := by decide +kernel
theorem dX11_market_4 : decode cX11_market 4 = .ok (.aload_n 0, 1) := by decide +kernel
theorem dX11_market_5 : decode cX11_market 5 = .ok (.getfield 12, 3) := by decide +kernel
theorem dX11_market_8 : decode cX11_market 8 = .ok (.aload_n 0, 1) := by decide +kernel
theorem dX11_market_9 : decode cX11_market 9 = .ok (.getfield 21, 3) := by decide +kernel
theorem dX11_market_12 : decode cX11_market 12 = .ok (.invokevirtual 102, 3) := by decide +kernel
theorem dX11_market_15 : decode cX11_market 15 = .ok (.istore_n 1, 1) := by decide +kernel
theorem dX11_market_16 : decode cX11_market 16 = .ok (.aload_n 0, 1) := by decide +kernel
theorem dX11_market_17 : decode cX11_market 17 = .ok (.getfield 12, 3) := by decide +kernel
theorem dX11_market_20 : decode cX11_market 20 = .ok (.iconst 0, 1) := by decide +kernel
theorem dX11_market_21 : decode cX11_market 21 = .ok (.invokevirtual 99, 3) := by decide +kernel
theorem dX11_market_24 : decode cX11_market 24 = .ok (.pop, 1) := by decide +kernel
theorem dX11_market_25 : decode cX11_market 25 = .ok (.iload_n 1, 1) := by decide +kernel
theorem dX11_market_26 : decode cX11_market 26 = .ok (.ifCond .le 10, 3) := by decide +kernel
theorem dX11_market_36 : decode cX11_market 36 = .ok (.iload_n 1, 1) := by decide +kernel
theorem dX11_market_37 : decode cX11_market 37 = .ok (.ireturn, 1) := by decide +kernel
theorem dX11_rule_0 : decode cX11_rule 0 = .ok (.aload_n 0, 1) := by decide +kernel
theorem dX11_rule_1 : decode cX11_rule 1 = .ok (.getfield 55, 3) := by decide +kernel
theorem dX11_rule_4 : decode cX11_rule 4 = .ok (.aload_n 0, 1) := by decide +kernel
theorem dX11_rule_5 : decode cX11_rule 5 = .ok (.getfield 12, 3) := by decide +kernel
theorem dX11_rule_8 : decode cX11_rule 8 = .ok (.aload_n 0, 1) := by decide +kernel
theorem dX11_rule_9 : decode cX11_rule 9 = .ok (.getfield 39, 3) := by decide +kernel
theorem dX11_rule_12 : decode cX11_rule 12 = .ok (.invokevirtual 109, 3) := by decide +kernel
theorem dX11_rule_15 : decode cX11_rule 15 = .ok (.istore_n 1, 1) := by decide +kernel
theorem dX11_rule_16 : decode cX11_rule 16 = .ok (.aload_n 0, 1) := by decide +kernel
theorem dX11_rule_17 : decode cX11_rule 17 = .ok (.getfield 12, 3) := by decide +kernel
theorem dX11_rule_20 : decode cX11_rule 20 = .ok (.iconst 0, 1) := by decide +kernel
theorem dX11_rule_21 : decode cX11_rule 21 = .ok (.invokevirtual 99, 3) := by decide +kernel
theorem dX11_rule_24 : decode cX11_rule 24 = .ok (.pop, 1) := by decide +kernel
theorem dX11_rule_25 : decode cX11_rule 25 = .ok (.iload_n 1, 1) := by decide +kernel
theorem dX11_rule_26 : decode cX11_rule 26 = .ok (.ireturn, 1) := by decide +kernel
theorem dX11_of_0 : decode cX11_of 0 = .ok (.aload_n 0, 1) := by decide +kernel
theorem dX11_of_1 : decode cX11_of 1 = .ok (.getfield 21, 3) := by decide +kernel
theorem dX11_of_4 : decode cX11_of 4 = .ok (.iload_n 1, 1) := by decide +kernel
theorem dX11_of_5 : decode cX11_of 5 = .ok (.invokevirtual 112, 3) := by decide +kernel
theorem dX11_of_8 : decode cX11_of 8 = .ok (.ifCond .ne 13, 3) := by decide +kernel
theorem dX11_of_11 : decode cX11_of 11 = .ok (.new 115, 3) := by decide +kernel
theorem dX11_of_14 : decode cX11_of 14 = .ok (.dup, 1) := by decide +kernel
theorem dX11_of_15 : decode cX11_of 15 = .ok (.ldc 117, 2) := by decide +kernel
theorem dX11_of_17 : decode cX11_of 17 = .ok (.invokespecial 119, 3) := by decide +kernel
theorem dX11_of_20 : decode cX11_of 20 = .ok (.athrow, 1) := by decide +kernel
theorem dX11_thing_0 : decode cX11_thing 0 = .ok (.aload_n 0, 1) := by decide +kernel
theorem dX11_thing_1 : decode cX11_thing 1 = .ok (.getfield 21, 3) := by decide +kernel
theorem dX11_thing_4 : decode cX11_thing 4 = .ok (.iload_n 1, 1) := by decide +kernel
theorem dX11_thing_5 : decode cX11_thing 5 = .ok (.invokevirtual 141, 3) := by decide +kernel
theorem dX11_thing_8 : decode cX11_thing 8 = .ok (.ifCond .ne 13, 3) := by decide +kernel
theorem dX11_thing_11 : decode cX11_thing 11 = .ok (.new 115, 3) := by decide +kernel
theorem dX11_thing_14 : decode cX11_thing 14 = .ok (.dup, 1) := by decide +kernel
theorem dX11_thing_15 : decode cX11_thing 15 = .ok (.ldc 144, 2) := by decide +kernel
theorem dX11_thing_17 : decode cX11_thing 17 = .ok (.invokespecial 119, 3) := by decide +kernel
theorem dX11_thing_20 : decode cX11_thing 20 = .ok (.athrow, 1) := by decide +kernel
theorem dX11_between_0 : decode cX11_between 0 = .ok (.aload_n 0, 1) := by decide +kernel
theorem dX11_between_1 : decode cX11_between 1 = .ok (.iload_n 1, 1) := by decide +kernel
theorem dX11_between_2 : decode cX11_between 2 = .ok (.iload_n 2, 1) := by decide +kernel
theorem dX11_between_3 : decode cX11_between 3 = .ok (.invokevirtual 160, 3) := by decide +kernel
theorem dX11_between_6 : decode cX11_between 6 = .ok (.ifCond .eq 12, 3) := by decide +kernel
theorem dX11_between_18 : decode cX11_between 18 = .ok (.iconst (-1), 1) := by decide +kernel
theorem dX11_between_19 : decode cX11_between 19 = .ok (.ireturn, 1) := by decide +kernel
theorem dX11_law_0 : decode cX11_law 0 = .ok (.iload_n 1, 1) := by decide +kernel
theorem dX11_law_1 : decode cX11_law 1 = .ok (.ifCond .ne 30, 3) := by decide +kernel
theorem dX11_law_4 : decode cX11_law 4 = .ok (.iload_n 2, 1) := by decide +kernel
theorem dX11_law_5 : decode cX11_law 5 = .ok (.ifCond .lt 26, 3) := by decide +kernel
theorem dX11_law_8 : decode cX11_law 8 = .ok (.iload_n 2, 1) := by decide +kernel
theorem dX11_law_9 : decode cX11_law 9 = .ok (.iconst 2, 1) := by decide +kernel
theorem dX11_law_10 : decode cX11_law 10 = .ok (.if_icmp .gt 21, 3) := by decide +kernel
theorem dX11_law_13 : decode cX11_law 13 = .ok (.aload_n 0, 1) := by decide +kernel
theorem dX11_law_14 : decode cX11_law 14 = .ok (.getfield 48, 3) := by decide +kernel
theorem dX11_law_17 : decode cX11_law 17 = .ok (.getfield 172, 3) := by decide +kernel
theorem dX11_law_20 : decode cX11_law 20 = .ok (.istore_n 3, 1) := by decide +kernel
theorem dX11_law_21 : decode cX11_law 21 = .ok (.aload_n 0, 1) := by decide +kernel
theorem dX11_law_22 : decode cX11_law 22 = .ok (.getfield 48, 3) := by decide +kernel
theorem dX11_law_25 : decode cX11_law 25 = .ok (.iload_n 2, 1) := by decide +kernel
theorem dX11_law_26 : decode cX11_law 26 = .ok (.putfield 172, 3) := by decide +kernel
theorem dX11_law_29 : decode cX11_law 29 = .ok (.iload_n 3, 1) := by decide +kernel
theorem dX11_law_30 : decode cX11_law 30 = .ok (.ireturn, 1) := by decide +kernel
theorem dX11_law_31 : decode cX11_law 31 = .ok (.iload_n 1, 1) := by decide +kernel
theorem dX11_law_32 : decode cX11_law 32 = .ok (.iconst 1, 1) := by decide +kernel
theorem dX11_law_33 : decode cX11_law 33 = .ok (.if_icmp .ne 31, 3) := by decide +kernel
theorem dX11_law_36 : decode cX11_law 36 = .ok (.iload_n 2, 1) := by decide +kernel
theorem dX11_law_37 : decode cX11_law 37 = .ok (.ifCond .lt 27, 3) := by decide +kernel
theorem dX11_law_40 : decode cX11_law 40 = .ok (.iload_n 2, 1) := by decide +kernel
theorem dX11_law_41 : decode cX11_law 41 = .ok (.bipush 99, 2) := by decide +kernel
theorem dX11_law_43 : decode cX11_law 43 = .ok (.if_icmp .gt 21, 3) := by decide +kernel
theorem dX11_law_46 : decode cX11_law 46 = .ok (.aload_n 0, 1) := by decide +kernel
theorem dX11_law_47 : decode cX11_law 47 = .ok (.getfield 48, 3) := by decide +kernel
theorem dX11_law_50 : decode cX11_law 50 = .ok (.getfield 175, 3) := by decide +kernel
theorem dX11_law_53 : decode cX11_law 53 = .ok (.istore_n 3, 1) := by decide +kernel
theorem dX11_law_54 : decode cX11_law 54 = .ok (.aload_n 0, 1) := by decide +kernel
theorem dX11_law_55 : decode cX11_law 55 = .ok (.getfield 48, 3) := by decide +kernel
theorem dX11_law_58 : decode cX11_law 58 = .ok (.iload_n 2, 1) := by decide +kernel
theorem dX11_law_59 : decode cX11_law 59 = .ok (.putfield 175, 3) := by decide +kernel
theorem dX11_law_62 : decode cX11_law 62 = .ok (.iload_n 3, 1) := by decide +kernel
theorem dX11_law_63 : decode cX11_law 63 = .ok (.ireturn, 1) := by decide +kernel
theorem dX11_law_64 : decode cX11_law 64 = .ok (.iconst (-1), 1) := by decide +kernel
theorem dX11_law_65 : decode cX11_law 65 = .ok (.ireturn, 1) := by decide +kernel
theorem dX11_sheet_0 : decode cX11_sheet 0 = .ok (.iload_n 1, 1) := by decide +kernel
theorem dX11_sheet_1 : decode cX11_sheet 1 = .ok (.ifCond .lt 14, 3) := by decide +kernel
theorem dX11_sheet_4 : decode cX11_sheet 4 = .ok (.iload_n 1, 1) := by decide +kernel
theorem dX11_sheet_5 : decode cX11_sheet 5 = .ok (.iconst 3, 1) := by decide +kernel
theorem dX11_sheet_6 : decode cX11_sheet 6 = .ok (.if_icmp .gt 9, 3) := by decide +kernel
theorem dX11_sheet_9 : decode cX11_sheet 9 = .ok (.iload_n 2, 1) := by decide +kernel
theorem dX11_sheet_10 : decode cX11_sheet 10 = .ok (.bipush 10, 2) := by decide +kernel
theorem dX11_sheet_12 : decode cX11_sheet 12 = .ok (.if_icmp .le 5, 3) := by decide +kernel
theorem dX11_sheet_15 : decode cX11_sheet 15 = .ok (.iconst (-1), 1) := by decide +kernel
theorem dX11_sheet_16 : decode cX11_sheet 16 = .ok (.ireturn, 1) := by decide +kernel
theorem dX11_sheet_17 : decode cX11_sheet 17 = .ok (.iload_n 1, 1) := by decide +kernel
theorem dX11_sheet_18 : decode cX11_sheet 18 = .ok (.iconst 3, 1) := by decide +kernel
theorem dX11_sheet_19 : decode cX11_sheet 19 = .ok (.if_icmp .ne 14, 3) := by decide +kernel
theorem dX11_sheet_22 : decode cX11_sheet 22 = .ok (.aload_n 0, 1) := by decide +kernel
theorem dX11_sheet_23 : decode cX11_sheet 23 = .ok (.getfield 21, 3) := by decide +kernel
theorem dX11_sheet_26 : decode cX11_sheet 26 = .ok (.iconst 1, 1) := by decide +kernel
theorem dX11_sheet_27 : decode cX11_sheet 27 = .ok (.invokevirtual 178, 3) := by decide +kernel
theorem dX11_sheet_30 : decode cX11_sheet 30 = .ok (.bipush (-3), 2) := by decide +kernel
theorem dX11_sheet_32 : decode cX11_sheet 32 = .ok (.ireturn, 1) := by decide +kernel
theorem dX11_sheet_33 : decode cX11_sheet 33 = .ok (.iload_n 2, 1) := by decide +kernel
theorem dX11_sheet_34 : decode cX11_sheet 34 = .ok (.ifCond .ge 6, 3) := by decide +kernel
theorem dX11_sheet_37 : decode cX11_sheet 37 = .ok (.bipush (-2), 2) := by decide +kernel
theorem dX11_sheet_39 : decode cX11_sheet 39 = .ok (.ireturn, 1) := by decide +kernel
theorem dX11_sheet_40 : decode cX11_sheet 40 = .ok (.iconst 0, 1) := by decide +kernel
theorem dX11_sheet_41 : decode cX11_sheet 41 = .ok (.istore 5, 2) := by decide +kernel
theorem dX11_sheet_43 : decode cX11_sheet 43 = .ok (.iconst 0, 1) := by decide +kernel
theorem dX11_sheet_44 : decode cX11_sheet 44 = .ok (.istore 6, 2) := by decide +kernel
theorem dX11_sheet_46 : decode cX11_sheet 46 = .ok (.iload 6, 2) := by decide +kernel
theorem dX11_sheet_48 : decode cX11_sheet 48 = .ok (.aload_n 0, 1) := by decide +kernel
theorem dX11_sheet_49 : decode cX11_sheet 49 = .ok (.getfield 21, 3) := by decide +kernel
theorem dX11_sheet_52 : decode cX11_sheet 52 = .ok (.getfield 182, 3) := by decide +kernel
theorem dX11_sheet_55 : decode cX11_sheet 55 = .ok (.if_icmp .ge 57, 3) := by decide +kernel
theorem dX11_sheet_112 : decode cX11_sheet 112 = .ok (.iload 5, 2) := by decide +kernel
theorem dX11_sheet_114 : decode cX11_sheet 114 = .ok (.ireturn, 1) := by decide +kernel
theorem dX11_worth_0 : decode cX11_worth 0 = .ok (.aload_n 0, 1) := by decide +kernel
theorem dX11_worth_1 : decode cX11_worth 1 = .ok (.iload_n 1, 1) := by decide +kernel
theorem dX11_worth_2 : decode cX11_worth 2 = .ok (.iload_n 2, 1) := by decide +kernel
theorem dX11_worth_3 : decode cX11_worth 3 = .ok (.invokevirtual 192, 3) := by decide +kernel
theorem dX11_worth_6 : decode cX11_worth 6 = .ok (.ifCond .ne 5, 3) := by decide +kernel
theorem dX11_worth_9 : decode cX11_worth 9 = .ok (.iconst (-1), 1) := by decide +kernel
theorem dX11_worth_10 : decode cX11_worth 10 = .ok (.ireturn, 1) := by decide +kernel
theorem dX11_can_0 : decode cX11_can 0 = .ok (.aload_n 0, 1) := by decide +kernel
theorem dX11_can_1 : decode cX11_can 1 = .ok (.iload_n 1, 1) := by decide +kernel
theorem dX11_can_2 : decode cX11_can 2 = .ok (.iload_n 2, 1) := by decide +kernel
theorem dX11_can_3 : decode cX11_can 3 = .ok (.invokevirtual 192, 3) := by decide +kernel
theorem dX11_can_6 : decode cX11_can 6 = .ok (.ifCond .ne 5, 3) := by decide +kernel
theorem dX11_can_9 : decode cX11_can 9 = .ok (.iconst (-1), 1) := by decide +kernel
theorem dX11_can_10 : decode cX11_can 10 = .ok (.ireturn, 1) := by decide +kernel
theorem dX11_sell_0 : decode cX11_sell 0 = .ok (.aload_n 0, 1) := by decide +kernel
theorem dX11_sell_1 : decode cX11_sell 1 = .ok (.iload_n 1, 1) := by decide +kernel
theorem dX11_sell_2 : decode cX11_sell 2 = .ok (.iload_n 2, 1) := by decide +kernel
theorem dX11_sell_3 : decode cX11_sell 3 = .ok (.invokevirtual 192, 3) := by decide +kernel
theorem dX11_sell_6 : decode cX11_sell 6 = .ok (.ifCond .ne 5, 3) := by decide +kernel
theorem dX11_sell_9 : decode cX11_sell 9 = .ok (.iconst (-1), 1) := by decide +kernel
theorem dX11_sell_10 : decode cX11_sell 10 = .ok (.ireturn, 1) := by decide +kernel
theorem dX11_undo_0 : decode cX11_undo 0 = .ok (.aload_n 0, 1) := by decide +kernel
theorem dX11_undo_1 : decode cX11_undo 1 = .ok (.getfield 69, 3) := by decide +kernel
theorem dX11_undo_4 : decode cX11_undo 4 = .ok (.aload_n 0, 1) := by decide +kernel
theorem dX11_undo_5 : decode cX11_undo 5 = .ok (.getfield 21, 3) := by decide +kernel
theorem dX11_undo_8 : decode cX11_undo 8 = .ok (.invokevirtual 224, 3) := by decide +kernel
theorem dX11_undo_11 : decode cX11_undo 11 = .ok (.ifCond .eq 13, 3) := by decide +kernel
theorem dX11_undo_24 : decode cX11_undo 24 = .ok (.iconst (-1), 1) := by decide +kernel
theorem dX11_undo_25 : decode cX11_undo 25 = .ok (.ireturn, 1) := by decide +kernel
theorem dX11_judge_0 : decode cX11_judge 0 = .ok (.iload_n 1, 1) := by decide +kernel
theorem dX11_judge_1 : decode cX11_judge 1 = .ok (.ifCond .lt 8, 3) := by decide +kernel
theorem dX11_judge_4 : decode cX11_judge 4 = .ok (.iload_n 1, 1) := by decide +kernel
theorem dX11_judge_5 : decode cX11_judge 5 = .ok (.iconst 3, 1) := by decide +kernel
theorem dX11_judge_6 : decode cX11_judge 6 = .ok (.if_icmp .le 5, 3) := by decide +kernel
theorem dX11_judge_9 : decode cX11_judge 9 = .ok (.iconst (-1), 1) := by decide +kernel
theorem dX11_judge_10 : decode cX11_judge 10 = .ok (.ireturn, 1) := by decide +kernel
theorem dX11_judge_11 : decode cX11_judge 11 = .ok (.aload_n 0, 1) := by decide +kernel
theorem dX11_judge_12 : decode cX11_judge 12 = .ok (.getfield 25, 3) := by decide +kernel
theorem dX11_judge_15 : decode cX11_judge 15 = .ok (.aload_n 0, 1) := by decide +kernel
theorem dX11_judge_16 : decode cX11_judge 16 = .ok (.getfield 21, 3) := by decide +kernel
theorem dX11_judge_19 : decode cX11_judge 19 = .ok (.invokevirtual 231, 3) := by decide +kernel
theorem dX11_judge_22 : decode cX11_judge 22 = .ok (.iconst 0, 1) := by decide +kernel
theorem dX11_judge_23 : decode cX11_judge 23 = .ok (.istore_n 3, 1) := by decide +kernel
theorem dX11_judge_24 : decode cX11_judge 24 = .ok (.bipush (-2), 2) := by decide +kernel
theorem dX11_judge_26 : decode cX11_judge 26 = .ok (.istore 4, 2) := by decide +kernel
theorem dX11_judge_28 : decode cX11_judge 28 = .ok (.iconst 0, 1) := by decide +kernel
theorem dX11_judge_29 : decode cX11_judge 29 = .ok (.istore 5, 2) := by decide +kernel
theorem dX11_judge_31 : decode cX11_judge 31 = .ok (.iload 5, 2) := by decide +kernel
theorem dX11_judge_33 : decode cX11_judge 33 = .ok (.iload_n 1, 1) := by decide +kernel
theorem dX11_judge_34 : decode cX11_judge 34 = .ok (.if_icmp .ge 58, 3) := by decide +kernel
theorem dX11_judge_37 : decode cX11_judge 37 = .ok (.iload 4, 2) := by decide +kernel
theorem dX11_judge_39 : decode cX11_judge 39 = .ok (.bipush (-2), 2) := by decide +kernel
theorem dX11_judge_41 : decode cX11_judge 41 = .ok (.if_icmp .ne 51, 3) := by decide +kernel
theorem dX11_judge_44 : decode cX11_judge 44 = .ok (.aload_n 0, 1) := by decide +kernel
theorem dX11_judge_45 : decode cX11_judge 45 = .ok (.getfield 48, 3) := by decide +kernel
theorem dX11_judge_48 : decode cX11_judge 48 = .ok (.aload_n 0, 1) := by decide +kernel
theorem dX11_judge_49 : decode cX11_judge 49 = .ok (.getfield 25, 3) := by decide +kernel
theorem dX11_judge_52 : decode cX11_judge 52 = .ok (.iload_n 2, 1) := by decide +kernel
theorem dX11_judge_53 : decode cX11_judge 53 = .ok (.bipush 10, 2) := by decide +kernel
theorem dX11_judge_55 : decode cX11_judge 55 = .ok (.iload 5, 2) := by decide +kernel
theorem dX11_judge_57 : decode cX11_judge 57 = .ok (.imul, 1) := by decide +kernel
theorem dX11_judge_58 : decode cX11_judge 58 = .ok (.iushr, 1) := by decide +kernel
theorem dX11_judge_59 : decode cX11_judge 59 = .ok (.sipush 1023, 3) := by decide +kernel
theorem dX11_judge_62 : decode cX11_judge 62 = .ok (.iand, 1) := by decide +kernel
theorem dX11_judge_63 : decode cX11_judge 63 = .ok (.invokevirtual 235, 3) := by decide +kernel
theorem dX11_judge_66 : decode cX11_judge 66 = .ok (.ifCond .eq 16, 3) := by decide +kernel
theorem dX11_judge_82 : decode cX11_judge 82 = .ok (.iload 5, 2) := by decide +kernel
theorem dX11_judge_84 : decode cX11_judge 84 = .ok (.istore 4, 2) := by decide +kernel
theorem dX11_judge_86 : decode cX11_judge 86 = .ok (.iinc 5 1, 3) := by decide +kernel
theorem dX11_judge_89 : decode cX11_judge 89 = .ok (.goto (-58), 3) := by decide +kernel
theorem dX11_judge_92 : decode cX11_judge 92 = .ok (.aload_n 0, 1) := by decide +kernel
theorem dX11_judge_93 : decode cX11_judge 93 = .ok (.invokevirtual 206, 3) := by decide +kernel
theorem dX11_judge_96 : decode cX11_judge 96 = .ok (.aload_n 0, 1) := by decide +kernel
theorem dX11_judge_97 : decode cX11_judge 97 = .ok (.iload_n 3, 1) := by decide +kernel
theorem dX11_judge_98 : decode cX11_judge 98 = .ok (.invokevirtual 212, 3) := by decide +kernel
theorem dX11_judge_101 : decode cX11_judge 101 = .ok (.iload 4, 2) := by decide +kernel
theorem dX11_judge_103 : decode cX11_judge 103 = .ok (.ireturn, 1) := by decide +kernel
theorem dX11_open_0 : decode cX11_open 0 = .ok (.aload_n 0, 1) := by decide +kernel
theorem dX11_open_1 : decode cX11_open 1 = .ok (.getfield 48, 3) := by decide +kernel
theorem dX11_open_4 : decode cX11_open 4 = .ok (.aload_n 0, 1) := by decide +kernel
theorem dX11_open_5 : decode cX11_open 5 = .ok (.getfield 21, 3) := by decide +kernel
theorem dX11_open_8 : decode cX11_open 8 = .ok (.invokevirtual 239, 3) := by decide +kernel
theorem dX11_open_11 : decode cX11_open 11 = .ok (.aload_n 0, 1) := by decide +kernel
theorem dX11_open_12 : decode cX11_open 12 = .ok (.invokevirtual 206, 3) := by decide +kernel
theorem dX11_open_15 : decode cX11_open 15 = .ok (.aload_n 0, 1) := by decide +kernel
theorem dX11_open_16 : decode cX11_open 16 = .ok (.getfield 48, 3) := by decide +kernel
theorem dX11_open_19 : decode cX11_open 19 = .ok (.getfield 242, 3) := by decide +kernel
theorem dX11_open_22 : decode cX11_open 22 = .ok (.ifCond .le 25, 3) := by decide +kernel
theorem dX11_open_47 : decode cX11_open 47 = .ok (.aload_n 0, 1) := by decide +kernel
theorem dX11_open_48 : decode cX11_open 48 = .ok (.getfield 48, 3) := by decide +kernel
theorem dX11_open_51 : decode cX11_open 51 = .ok (.getfield 242, 3) := by decide +kernel
theorem dX11_open_54 : decode cX11_open 54 = .ok (.ireturn, 1) := by decide +kernel
theorem dX11_run_0 : decode cX11_run 0 = .ok (.iload_n 1, 1) := by decide +kernel
theorem dX11_run_1 : decode cX11_run 1 = .ok (.ifCond .lt 18, 3) := by decide +kernel
theorem dX11_run_4 : decode cX11_run 4 = .ok (.iload_n 1, 1) := by decide +kernel
theorem dX11_run_5 : decode cX11_run 5 = .ok (.iconst 2, 1) := by decide +kernel
theorem dX11_run_6 : decode cX11_run 6 = .ok (.if_icmp .gt 13, 3) := by decide +kernel
theorem dX11_run_9 : decode cX11_run 9 = .ok (.iload_n 2, 1) := by decide +kernel
theorem dX11_run_10 : decode cX11_run 10 = .ok (.ifCond .lt 9, 3) := by decide +kernel
theorem dX11_run_13 : decode cX11_run 13 = .ok (.iload_n 2, 1) := by decide +kernel
theorem dX11_run_14 : decode cX11_run 14 = .ok (.bipush 100, 2) := by decide +kernel
theorem dX11_run_16 : decode cX11_run 16 = .ok (.if_icmp .le 5, 3) := by decide +kernel
theorem dX11_run_19 : decode cX11_run 19 = .ok (.iconst (-1), 1) := by decide +kernel
theorem dX11_run_20 : decode cX11_run 20 = .ok (.ireturn, 1) := by decide +kernel
theorem dX11_run_21 : decode cX11_run 21 = .ok (.iconst 0, 1) := by decide +kernel
theorem dX11_run_22 : decode cX11_run 22 = .ok (.istore_n 3, 1) := by decide +kernel
theorem dX11_run_23 : decode cX11_run 23 = .ok (.iconst 0, 1) := by decide +kernel
theorem dX11_run_24 : decode cX11_run 24 = .ok (.istore 4, 2) := by decide +kernel
theorem dX11_run_26 : decode cX11_run 26 = .ok (.aload_n 0, 1) := by decide +kernel
theorem dX11_run_27 : decode cX11_run 27 = .ok (.getfield 48, 3) := by decide +kernel
theorem dX11_run_30 : decode cX11_run 30 = .ok (.aload_n 0, 1) := by decide +kernel
theorem dX11_run_31 : decode cX11_run 31 = .ok (.getfield 21, 3) := by decide +kernel
theorem dX11_run_34 : decode cX11_run 34 = .ok (.invokevirtual 239, 3) := by decide +kernel
theorem dX11_run_37 : decode cX11_run 37 = .ok (.iload 4, 2) := by decide +kernel
theorem dX11_run_39 : decode cX11_run 39 = .ok (.iload_n 2, 1) := by decide +kernel
theorem dX11_run_40 : decode cX11_run 40 = .ok (.if_icmp .ge 67, 3) := by decide +kernel
theorem dX11_run_43 : decode cX11_run 43 = .ok (.aload_n 0, 1) := by decide +kernel
theorem dX11_run_44 : decode cX11_run 44 = .ok (.getfield 48, 3) := by decide +kernel
theorem dX11_run_47 : decode cX11_run 47 = .ok (.getfield 242, 3) := by decide +kernel
theorem dX11_run_50 : decode cX11_run 50 = .ok (.ifCond .le 57, 3) := by decide +kernel
theorem dX11_run_107 : decode cX11_run 107 = .ok (.aload_n 0, 1) := by decide +kernel
theorem dX11_run_108 : decode cX11_run 108 = .ok (.invokevirtual 206, 3) := by decide +kernel
theorem dX11_run_111 : decode cX11_run 111 = .ok (.aload_n 0, 1) := by decide +kernel
theorem dX11_run_112 : decode cX11_run 112 = .ok (.aload_n 0, 1) := by decide +kernel
theorem dX11_run_113 : decode cX11_run 113 = .ok (.getfield 48, 3) := by decide +kernel
theorem dX11_run_116 : decode cX11_run 116 = .ok (.getfield 242, 3) := by decide +kernel
theorem dX11_run_119 : decode cX11_run 119 = .ok (.ifCond .ne 7, 3) := by decide +kernel
theorem dX11_run_122 : decode cX11_run 122 = .ok (.iconst 1, 1) := by decide +kernel
theorem dX11_run_123 : decode cX11_run 123 = .ok (.goto 4, 3) := by decide +kernel
theorem dX11_run_127 : decode cX11_run 127 = .ok (.invokevirtual 212, 3) := by decide +kernel
theorem dX11_run_130 : decode cX11_run 130 = .ok (.aload_n 0, 1) := by decide +kernel
theorem dX11_run_131 : decode cX11_run 131 = .ok (.iload_n 3, 1) := by decide +kernel
theorem dX11_run_132 : decode cX11_run 132 = .ok (.invokevirtual 212, 3) := by decide +kernel
theorem dX11_run_135 : decode cX11_run 135 = .ok (.iload 4, 2) := by decide +kernel
theorem dX11_run_137 : decode cX11_run 137 = .ok (.ireturn, 1) := by decide +kernel
theorem dX11_partner_0 : decode cX11_partner 0 = .ok (.aload_n 0, 1) := by decide +kernel
theorem dX11_partner_1 : decode cX11_partner 1 = .ok (.iload_n 1, 1) := by decide +kernel
theorem dX11_partner_2 : decode cX11_partner 2 = .ok (.iload_n 2, 1) := by decide +kernel
theorem dX11_partner_3 : decode cX11_partner 3 = .ok (.invokevirtual 192, 3) := by decide +kernel
theorem dX11_partner_6 : decode cX11_partner 6 = .ok (.ifCond .eq 14, 3) := by decide +kernel
theorem dX11_partner_20 : decode cX11_partner 20 = .ok (.iconst (-1), 1) := by decide +kernel
theorem dX11_partner_21 : decode cX11_partner 21 = .ok (.ireturn, 1) := by decide +kernel
theorem dX11_day_0 : decode cX11_day 0 = .ok (.aload_n 0, 1) := by decide +kernel
theorem dX11_day_1 : decode cX11_day 1 = .ok (.getfield 76, 3) := by decide +kernel
theorem dX11_day_4 : decode cX11_day 4 = .ok (.aload_n 0, 1) := by decide +kernel
theorem dX11_day_5 : decode cX11_day 5 = .ok (.getfield 21, 3) := by decide +kernel
theorem dX11_day_8 : decode cX11_day 8 = .ok (.iconst 0, 1) := by decide +kernel
theorem dX11_day_9 : decode cX11_day 9 = .ok (.iconst 0, 1) := by decide +kernel
theorem dX11_day_10 : decode cX11_day 10 = .ok (.iconst (-1), 1) := by decide +kernel
theorem dX11_day_11 : decode cX11_day 11 = .ok (.invokevirtual 271, 3) := by decide +kernel
theorem dX11_day_14 : decode cX11_day 14 = .ok (.istore_n 1, 1) := by decide +kernel
theorem dX11_day_15 : decode cX11_day 15 = .ok (.aload_n 0, 1) := by decide +kernel
theorem dX11_day_16 : decode cX11_day 16 = .ok (.invokevirtual 206, 3) := by decide +kernel
theorem dX11_day_19 : decode cX11_day 19 = .ok (.aload_n 0, 1) := by decide +kernel
theorem dX11_day_20 : decode cX11_day 20 = .ok (.aload_n 0, 1) := by decide +kernel
theorem dX11_day_21 : decode cX11_day 21 = .ok (.getfield 76, 3) := by decide +kernel
theorem dX11_day_24 : decode cX11_day 24 = .ok (.getfield 274, 3) := by decide +kernel
theorem dX11_day_27 : decode cX11_day 27 = .ok (.invokevirtual 212, 3) := by decide +kernel
theorem dX11_day_30 : decode cX11_day 30 = .ok (.iload_n 1, 1) := by decide +kernel
theorem dX11_day_31 : decode cX11_day 31 = .ok (.ireturn, 1) := by decide +kernel
theorem dX11_quarrel_0 : decode cX11_quarrel 0 = .ok (.aload_n 0, 1) := by decide +kernel
theorem dX11_quarrel_1 : decode cX11_quarrel 1 = .ok (.iload_n 1, 1) := by decide +kernel
theorem dX11_quarrel_2 : decode cX11_quarrel 2 = .ok (.iload_n 2, 1) := by decide +kernel
theorem dX11_quarrel_3 : decode cX11_quarrel 3 = .ok (.invokevirtual 160, 3) := by decide +kernel
theorem dX11_quarrel_6 : decode cX11_quarrel 6 = .ok (.ifCond .eq 16, 3) := by decide +kernel
theorem dX11_quarrel_22 : decode cX11_quarrel 22 = .ok (.iconst (-1), 1) := by decide +kernel
theorem dX11_quarrel_23 : decode cX11_quarrel 23 = .ok (.ireturn, 1) := by decide +kernel
theorem dX11_bars_0 : decode cX11_bars 0 = .ok (.aload_n 0, 1) := by decide +kernel
theorem dX11_bars_1 : decode cX11_bars 1 = .ok (.getfield 21, 3) := by decide +kernel
theorem dX11_bars_4 : decode cX11_bars 4 = .ok (.iload_n 1, 1) := by decide +kernel
theorem dX11_bars_5 : decode cX11_bars 5 = .ok (.invokevirtual 141, 3) := by decide +kernel
theorem dX11_bars_8 : decode cX11_bars 8 = .ok (.ifCond .ne 5, 3) := by decide +kernel
theorem dX11_bars_11 : decode cX11_bars 11 = .ok (.iconst (-1), 1) := by decide +kernel
theorem dX11_bars_12 : decode cX11_bars 12 = .ok (.ireturn, 1) := by decide +kernel
theorem dX11_without_0 : decode cX11_without 0 = .ok (.aload_n 0, 1) := by decide +kernel
theorem dX11_without_1 : decode cX11_without 1 = .ok (.getfield 21, 3) := by decide +kernel
theorem dX11_without_4 : decode cX11_without 4 = .ok (.iload_n 1, 1) := by decide +kernel
theorem dX11_without_5 : decode cX11_without 5 = .ok (.invokevirtual 112, 3) := by decide +kernel
theorem dX11_without_8 : decode cX11_without 8 = .ok (.ifCond .ne 5, 3) := by decide +kernel
theorem dX11_without_11 : decode cX11_without 11 = .ok (.iconst (-1), 1) := by decide +kernel
theorem dX11_without_12 : decode cX11_without 12 = .ok (.ireturn, 1) := by decide +kernel
theorem dX11_pair_0 : decode cX11_pair 0 = .ok (.aload_n 0, 1) := by decide +kernel
theorem dX11_pair_1 : decode cX11_pair 1 = .ok (.getfield 21, 3) := by decide +kernel
theorem dX11_pair_4 : decode cX11_pair 4 = .ok (.getfield 268, 3) := by decide +kernel
theorem dX11_pair_7 : decode cX11_pair 7 = .ok (.iconst 2, 1) := by decide +kernel
theorem dX11_pair_8 : decode cX11_pair 8 = .ok (.if_icmp .ge 6, 3) := by decide +kernel
theorem dX11_pair_11 : decode cX11_pair 11 = .ok (.bipush (-2), 2) := by decide +kernel
theorem dX11_pair_13 : decode cX11_pair 13 = .ok (.ireturn, 1) := by decide +kernel
theorem dX11_wealth_0 : decode cX11_wealth 0 = .ok (.aload_n 0, 1) := by decide +kernel
theorem dX11_wealth_1 : decode cX11_wealth 1 = .ok (.getfield 21, 3) := by decide +kernel
theorem dX11_wealth_4 : decode cX11_wealth 4 = .ok (.iload_n 1, 1) := by decide +kernel
theorem dX11_wealth_5 : decode cX11_wealth 5 = .ok (.invokevirtual 112, 3) := by decide +kernel
theorem dX11_wealth_8 : decode cX11_wealth 8 = .ok (.ifCond .eq 11, 3) := by decide +kernel
theorem dX11_wealth_19 : decode cX11_wealth 19 = .ok (.iconst (-1), 1) := by decide +kernel
theorem dX11_wealth_20 : decode cX11_wealth 20 = .ok (.ireturn, 1) := by decide +kernel
theorem dX11_richest_0 : decode cX11_richest 0 = .ok (.aload_n 0, 1) := by decide +kernel
theorem dX11_richest_1 : decode cX11_richest 1 = .ok (.getfield 21, 3) := by decide +kernel
theorem dX11_richest_4 : decode cX11_richest 4 = .ok (.getfield 268, 3) := by decide +kernel
theorem dX11_richest_7 : decode cX11_richest 7 = .ok (.ifCond .ne 6, 3) := by decide +kernel
theorem dX11_richest_10 : decode cX11_richest 10 = .ok (.bipush (-2), 2) := by decide +kernel
theorem dX11_richest_12 : decode cX11_richest 12 = .ok (.ireturn, 1) := by decide +kernel
theorem dX11_use_0 : decode cX11_use 0 = .ok (.aload_n 0, 1) := by decide +kernel
theorem dX11_use_1 : decode cX11_use 1 = .ok (.getfield 21, 3) := by decide +kernel
theorem dX11_use_4 : decode cX11_use 4 = .ok (.iload_n 1, 1) := by decide +kernel
theorem dX11_use_5 : decode cX11_use 5 = .ok (.invokevirtual 141, 3) := by decide +kernel
theorem dX11_use_8 : decode cX11_use 8 = .ok (.ifCond .ne 5, 3) := by decide +kernel
theorem dX11_use_11 : decode cX11_use 11 = .ok (.iconst (-1), 1) := by decide +kernel
theorem dX11_use_12 : decode cX11_use 12 = .ok (.ireturn, 1) := by decide +kernel
theorem dX11_days_0 : decode cX11_days 0 = .ok (.iload_n 1, 1) := by decide +kernel
theorem dX11_days_1 : decode cX11_days 1 = .ok (.ifCond .lt 9, 3) := by decide +kernel
theorem dX11_days_4 : decode cX11_days 4 = .ok (.iload_n 1, 1) := by decide +kernel
theorem dX11_days_5 : decode cX11_days 5 = .ok (.bipush 100, 2) := by decide +kernel
theorem dX11_days_7 : decode cX11_days 7 = .ok (.if_icmp .le 5, 3) := by decide +kernel
theorem dX11_days_10 : decode cX11_days 10 = .ok (.iconst (-1), 1) := by decide +kernel
theorem dX11_days_11 : decode cX11_days 11 = .ok (.ireturn, 1) := by decide +kernel
theorem dX11_days_12 : decode cX11_days 12 = .ok (.aload_n 0, 1) := by decide +kernel
theorem dX11_days_13 : decode cX11_days 13 = .ok (.getfield 69, 3) := by decide +kernel
theorem dX11_days_16 : decode cX11_days 16 = .ok (.invokevirtual 106, 3) := by decide +kernel
theorem dX11_days_19 : decode cX11_days 19 = .ok (.aload_n 0, 1) := by decide +kernel
theorem dX11_days_20 : decode cX11_days 20 = .ok (.getfield 76, 3) := by decide +kernel
theorem dX11_days_23 : decode cX11_days 23 = .ok (.aload_n 0, 1) := by decide +kernel
theorem dX11_days_24 : decode cX11_days 24 = .ok (.getfield 21, 3) := by decide +kernel
theorem dX11_days_27 : decode cX11_days 27 = .ok (.iconst 0, 1) := by decide +kernel
theorem dX11_days_28 : decode cX11_days 28 = .ok (.iconst 0, 1) := by decide +kernel
theorem dX11_days_29 : decode cX11_days 29 = .ok (.iconst (-1), 1) := by decide +kernel
theorem dX11_days_30 : decode cX11_days 30 = .ok (.invokevirtual 271, 3) := by decide +kernel
theorem dX11_days_33 : decode cX11_days 33 = .ok (.istore_n 2, 1) := by decide +kernel
theorem dX11_days_34 : decode cX11_days 34 = .ok (.iconst 0, 1) := by decide +kernel
theorem dX11_days_35 : decode cX11_days 35 = .ok (.istore_n 3, 1) := by decide +kernel
theorem dX11_days_36 : decode cX11_days 36 = .ok (.iload_n 3, 1) := by decide +kernel
theorem dX11_days_37 : decode cX11_days 37 = .ok (.iload_n 1, 1) := by decide +kernel
theorem dX11_days_38 : decode cX11_days 38 = .ok (.if_icmp .ge 76, 3) := by decide +kernel
theorem dX11_days_41 : decode cX11_days 41 = .ok (.iconst 0, 1) := by decide +kernel
theorem dX11_days_42 : decode cX11_days 42 = .ok (.istore 4, 2) := by decide +kernel
theorem dX11_days_44 : decode cX11_days 44 = .ok (.iload 4, 2) := by decide +kernel
theorem dX11_days_46 : decode cX11_days 46 = .ok (.aload_n 0, 1) := by decide +kernel
theorem dX11_days_47 : decode cX11_days 47 = .ok (.getfield 21, 3) := by decide +kernel
theorem dX11_days_50 : decode cX11_days 50 = .ok (.getfield 182, 3) := by decide +kernel
theorem dX11_days_53 : decode cX11_days 53 = .ok (.if_icmp .ge 34, 3) := by decide +kernel
theorem dX11_days_87 : decode cX11_days 87 = .ok (.aload_n 0, 1) := by decide +kernel
theorem dX11_days_88 : decode cX11_days 88 = .ok (.getfield 21, 3) := by decide +kernel
theorem dX11_days_91 : decode cX11_days 91 = .ok (.dup, 1) := by decide +kernel
theorem dX11_days_92 : decode cX11_days 92 = .ok (.getfield 305, 3) := by decide +kernel
theorem dX11_days_95 : decode cX11_days 95 = .ok (.iconst 1, 1) := by decide +kernel
theorem dX11_days_96 : decode cX11_days 96 = .ok (.iadd, 1) := by decide +kernel
theorem dX11_days_97 : decode cX11_days 97 = .ok (.putfield 305, 3) := by decide +kernel
theorem dX11_days_100 : decode cX11_days 100 = .ok (.aload_n 0, 1) := by decide +kernel
theorem dX11_days_101 : decode cX11_days 101 = .ok (.getfield 21, 3) := by decide +kernel
theorem dX11_days_104 : decode cX11_days 104 = .ok (.iconst 0, 1) := by decide +kernel
theorem dX11_days_105 : decode cX11_days 105 = .ok (.putfield 135, 3) := by decide +kernel
theorem dX11_days_108 : decode cX11_days 108 = .ok (.iinc 3 1, 3) := by decide +kernel
theorem dX11_days_111 : decode cX11_days 111 = .ok (.goto (-75), 3) := by decide +kernel
theorem dX11_days_114 : decode cX11_days 114 = .ok (.iload_n 1, 1) := by decide +kernel
theorem dX11_days_115 : decode cX11_days 115 = .ok (.iload_n 2, 1) := by decide +kernel
theorem dX11_days_116 : decode cX11_days 116 = .ok (.imul, 1) := by decide +kernel
theorem dX11_days_117 : decode cX11_days 117 = .ok (.ireturn, 1) := by decide +kernel
theorem dX11_feast_0 : decode cX11_feast 0 = .ok (.aload_n 0, 1) := by decide +kernel
theorem dX11_feast_1 : decode cX11_feast 1 = .ok (.getfield 21, 3) := by decide +kernel
theorem dX11_feast_4 : decode cX11_feast 4 = .ok (.iload_n 1, 1) := by decide +kernel
theorem dX11_feast_5 : decode cX11_feast 5 = .ok (.invokevirtual 308, 3) := by decide +kernel
theorem dX11_feast_8 : decode cX11_feast 8 = .ok (.ifCond .ne 5, 3) := by decide +kernel
theorem dX11_feast_11 : decode cX11_feast 11 = .ok (.iconst (-1), 1) := by decide +kernel
theorem dX11_feast_12 : decode cX11_feast 12 = .ok (.ireturn, 1) := by decide +kernel
theorem dX11_feast_13 : decode cX11_feast 13 = .ok (.aload_n 0, 1) := by decide +kernel
theorem dX11_feast_14 : decode cX11_feast 14 = .ok (.getfield 21, 3) := by decide +kernel
theorem dX11_feast_17 : decode cX11_feast 17 = .ok (.iload_n 1, 1) := by decide +kernel
theorem dX11_feast_18 : decode cX11_feast 18 = .ok (.invokevirtual 311, 3) := by decide +kernel
theorem dX11_feast_21 : decode cX11_feast 21 = .ok (.istore_n 2, 1) := by decide +kernel
theorem dX11_feast_22 : decode cX11_feast 22 = .ok (.aload_n 0, 1) := by decide +kernel
theorem dX11_feast_23 : decode cX11_feast 23 = .ok (.getfield 21, 3) := by decide +kernel
theorem dX11_feast_26 : decode cX11_feast 26 = .ok (.iload_n 1, 1) := by decide +kernel
theorem dX11_feast_27 : decode cX11_feast 27 = .ok (.invokevirtual 314, 3) := by decide +kernel
theorem dX11_feast_30 : decode cX11_feast 30 = .ok (.istore_n 3, 1) := by decide +kernel
theorem dX11_feast_31 : decode cX11_feast 31 = .ok (.iload_n 2, 1) := by decide +kernel
theorem dX11_feast_32 : decode cX11_feast 32 = .ok (.iconst (-1), 1) := by decide +kernel
theorem dX11_feast_33 : decode cX11_feast 33 = .ok (.if_icmp .ne 10, 3) := by decide +kernel
theorem dX11_feast_36 : decode cX11_feast 36 = .ok (.iload_n 3, 1) := by decide +kernel
theorem dX11_feast_37 : decode cX11_feast 37 = .ok (.iconst (-1), 1) := by decide +kernel
theorem dX11_feast_38 : decode cX11_feast 38 = .ok (.if_icmp .ne 5, 3) := by decide +kernel
theorem dX11_feast_41 : decode cX11_feast 41 = .ok (.iconst 1, 1) := by decide +kernel
theorem dX11_feast_42 : decode cX11_feast 42 = .ok (.ireturn, 1) := by decide +kernel
theorem dX11_prepare_0 : decode cX11_prepare 0 = .ok (.aload_n 0, 1) := by decide +kernel
theorem dX11_prepare_1 : decode cX11_prepare 1 = .ok (.getfield 21, 3) := by decide +kernel
theorem dX11_prepare_4 : decode cX11_prepare 4 = .ok (.iload_n 1, 1) := by decide +kernel
theorem dX11_prepare_5 : decode cX11_prepare 5 = .ok (.invokevirtual 308, 3) := by decide +kernel
theorem dX11_prepare_8 : decode cX11_prepare 8 = .ok (.ifCond .ne 5, 3) := by decide +kernel
theorem dX11_prepare_11 : decode cX11_prepare 11 = .ok (.iconst (-1), 1) := by decide +kernel
theorem dX11_prepare_12 : decode cX11_prepare 12 = .ok (.ireturn, 1) := by decide +kernel
theorem dX11_prepare_13 : decode cX11_prepare 13 = .ok (.aload_n 0, 1) := by decide +kernel
theorem dX11_prepare_14 : decode cX11_prepare 14 = .ok (.invokevirtual 317, 3) := by decide +kernel
theorem dX11_prepare_17 : decode cX11_prepare 17 = .ok (.astore_n 2, 1) := by decide +kernel
theorem dX11_prepare_18 : decode cX11_prepare 18 = .ok (.aload_n 2, 1) := by decide +kernel
theorem dX11_prepare_19 : decode cX11_prepare 19 = .ok (.aload_n 0, 1) := by decide +kernel
theorem dX11_prepare_20 : decode cX11_prepare 20 = .ok (.getfield 21, 3) := by decide +kernel
theorem dX11_prepare_23 : decode cX11_prepare 23 = .ok (.iload_n 1, 1) := by decide +kernel
theorem dX11_prepare_24 : decode cX11_prepare 24 = .ok (.invokevirtual 321, 3) := by decide +kernel
theorem dX11_prepare_27 : decode cX11_prepare 27 = .ok (.ifCond .ne 6, 3) := by decide +kernel
theorem dX11_prepare_33 : decode cX11_prepare 33 = .ok (.aload_n 2, 1) := by decide +kernel
theorem dX11_prepare_34 : decode cX11_prepare 34 = .ok (.iload_n 1, 1) := by decide +kernel
theorem dX11_prepare_35 : decode cX11_prepare 35 = .ok (.invokevirtual 326, 3) := by decide +kernel
theorem dX11_prepare_38 : decode cX11_prepare 38 = .ok (.istore_n 3, 1) := by decide +kernel
theorem dX11_prepare_39 : decode cX11_prepare 39 = .ok (.iload_n 3, 1) := by decide +kernel
theorem dX11_prepare_40 : decode cX11_prepare 40 = .ok (.iconst (-1), 1) := by decide +kernel
theorem dX11_prepare_41 : decode cX11_prepare 41 = .ok (.if_icmp .ne 6, 3) := by decide +kernel
theorem dX11_prepare_47 : decode cX11_prepare 47 = .ok (.aload_n 0, 1) := by decide +kernel
theorem dX11_prepare_48 : decode cX11_prepare 48 = .ok (.invokevirtual 206, 3) := by decide +kernel
theorem dX11_prepare_51 : decode cX11_prepare 51 = .ok (.aload_n 0, 1) := by decide +kernel
theorem dX11_prepare_52 : decode cX11_prepare 52 = .ok (.aload_n 2, 1) := by decide +kernel
theorem dX11_prepare_53 : decode cX11_prepare 53 = .ok (.aload_n 2, 1) := by decide +kernel
theorem dX11_prepare_54 : decode cX11_prepare 54 = .ok (.iload_n 3, 1) := by decide +kernel
theorem dX11_prepare_55 : decode cX11_prepare 55 = .ok (.invokevirtual 329, 3) := by decide +kernel
theorem dX11_prepare_58 : decode cX11_prepare 58 = .ok (.invokevirtual 332, 3) := by decide +kernel
theorem dX11_prepare_61 : decode cX11_prepare 61 = .ok (.ireturn, 1) := by decide +kernel
theorem dX11_maySwap_0 : decode cX11_maySwap 0 = .ok (.aload_n 0, 1) := by decide +kernel
theorem dX11_maySwap_1 : decode cX11_maySwap 1 = .ok (.iload_n 1, 1) := by decide +kernel
theorem dX11_maySwap_2 : decode cX11_maySwap 2 = .ok (.iload_n 2, 1) := by decide +kernel
theorem dX11_maySwap_3 : decode cX11_maySwap 3 = .ok (.invokevirtual 336, 3) := by decide +kernel
theorem dX11_maySwap_6 : decode cX11_maySwap 6 = .ok (.ifCond .ne 5, 3) := by decide +kernel
theorem dX11_maySwap_9 : decode cX11_maySwap 9 = .ok (.iconst (-1), 1) := by decide +kernel
theorem dX11_maySwap_10 : decode cX11_maySwap 10 = .ok (.ireturn, 1) := by decide +kernel
theorem dX11_swap_0 : decode cX11_swap 0 = .ok (.aload_n 0, 1) := by decide +kernel
theorem dX11_swap_1 : decode cX11_swap 1 = .ok (.iload_n 1, 1) := by decide +kernel
theorem dX11_swap_2 : decode cX11_swap 2 = .ok (.iload_n 2, 1) := by decide +kernel
theorem dX11_swap_3 : decode cX11_swap 3 = .ok (.invokevirtual 336, 3) := by decide +kernel
theorem dX11_swap_6 : decode cX11_swap 6 = .ok (.ifCond .ne 5, 3) := by decide +kernel
theorem dX11_swap_9 : decode cX11_swap 9 = .ok (.iconst (-1), 1) := by decide +kernel
theorem dX11_swap_10 : decode cX11_swap 10 = .ok (.ireturn, 1) := by decide +kernel
theorem dX11_good_0 : decode cX11_good 0 = .ok (.aload_n 0, 1) := by decide +kernel
theorem dX11_good_1 : decode cX11_good 1 = .ok (.getfield 48, 3) := by decide +kernel
theorem dX11_good_4 : decode cX11_good 4 = .ok (.aload_n 0, 1) := by decide +kernel
theorem dX11_good_5 : decode cX11_good 5 = .ok (.getfield 21, 3) := by decide +kernel
theorem dX11_good_8 : decode cX11_good 8 = .ok (.invokevirtual 352, 3) := by decide +kernel
theorem dX11_good_11 : decode cX11_good 11 = .ok (.istore_n 1, 1) := by decide +kernel
theorem dX11_good_12 : decode cX11_good 12 = .ok (.aload_n 0, 1) := by decide +kernel
theorem dX11_good_13 : decode cX11_good 13 = .ok (.invokevirtual 206, 3) := by decide +kernel
theorem dX11_good_16 : decode cX11_good 16 = .ok (.iload_n 1, 1) := by decide +kernel
theorem dX11_good_17 : decode cX11_good 17 = .ok (.ifCond .le 18, 3) := by decide +kernel
theorem dX11_good_35 : decode cX11_good 35 = .ok (.iload_n 1, 1) := by decide +kernel
theorem dX11_good_36 : decode cX11_good 36 = .ok (.ireturn, 1) := by decide +kernel
theorem dX11_rests_0 : decode cX11_rests 0 = .ok (.iload_n 1, 1) := by decide +kernel
theorem dX11_rests_1 : decode cX11_rests 1 = .ok (.ifCond .lt 9, 3) := by decide +kernel
theorem dX11_rests_4 : decode cX11_rests 4 = .ok (.iload_n 1, 1) := by decide +kernel
theorem dX11_rests_5 : decode cX11_rests 5 = .ok (.bipush 100, 2) := by decide +kernel
theorem dX11_rests_7 : decode cX11_rests 7 = .ok (.if_icmp .le 5, 3) := by decide +kernel
theorem dX11_rests_10 : decode cX11_rests 10 = .ok (.iconst (-1), 1) := by decide +kernel
theorem dX11_rests_11 : decode cX11_rests 11 = .ok (.ireturn, 1) := by decide +kernel
theorem dX11_rests_12 : decode cX11_rests 12 = .ok (.iconst 0, 1) := by decide +kernel
theorem dX11_rests_13 : decode cX11_rests 13 = .ok (.istore_n 2, 1) := by decide +kernel
theorem dX11_rests_14 : decode cX11_rests 14 = .ok (.aload_n 0, 1) := by decide +kernel
theorem dX11_rests_15 : decode cX11_rests 15 = .ok (.getfield 48, 3) := by decide +kernel
theorem dX11_rests_18 : decode cX11_rests 18 = .ok (.aload_n 0, 1) := by decide +kernel
theorem dX11_rests_19 : decode cX11_rests 19 = .ok (.getfield 21, 3) := by decide +kernel
theorem dX11_rests_22 : decode cX11_rests 22 = .ok (.invokevirtual 356, 3) := by decide +kernel
theorem dX11_rests_25 : decode cX11_rests 25 = .ok (.istore_n 3, 1) := by decide +kernel
theorem dX11_rests_26 : decode cX11_rests 26 = .ok (.iload_n 2, 1) := by decide +kernel
theorem dX11_rests_27 : decode cX11_rests 27 = .ok (.iload_n 1, 1) := by decide +kernel
theorem dX11_rests_28 : decode cX11_rests 28 = .ok (.if_icmp .ge 52, 3) := by decide +kernel
theorem dX11_rests_31 : decode cX11_rests 31 = .ok (.iload_n 3, 1) := by decide +kernel
theorem dX11_rests_32 : decode cX11_rests 32 = .ok (.iconst (-1), 1) := by decide +kernel
theorem dX11_rests_33 : decode cX11_rests 33 = .ok (.if_icmp .eq 47, 3) := by decide +kernel
theorem dX11_rests_80 : decode cX11_rests 80 = .ok (.aload_n 0, 1) := by decide +kernel
theorem dX11_rests_81 : decode cX11_rests 81 = .ok (.invokevirtual 206, 3) := by decide +kernel
theorem dX11_rests_84 : decode cX11_rests 84 = .ok (.aload_n 0, 1) := by decide +kernel
theorem dX11_rests_85 : decode cX11_rests 85 = .ok (.iload_n 3, 1) := by decide +kernel
theorem dX11_rests_86 : decode cX11_rests 86 = .ok (.iconst (-1), 1) := by decide +kernel
theorem dX11_rests_87 : decode cX11_rests 87 = .ok (.if_icmp .ne 7, 3) := by decide +kernel
theorem dX11_rests_90 : decode cX11_rests 90 = .ok (.iconst 1, 1) := by decide +kernel
theorem dX11_rests_91 : decode cX11_rests 91 = .ok (.goto 4, 3) := by decide +kernel
theorem dX11_rests_95 : decode cX11_rests 95 = .ok (.invokevirtual 212, 3) := by decide +kernel
theorem dX11_rests_98 : decode cX11_rests 98 = .ok (.aload_n 0, 1) := by decide +kernel
theorem dX11_rests_99 : decode cX11_rests 99 = .ok (.aload_n 0, 1) := by decide +kernel
theorem dX11_rests_100 : decode cX11_rests 100 = .ok (.getfield 21, 3) := by decide +kernel
theorem dX11_rests_103 : decode cX11_rests 103 = .ok (.invokevirtual 349, 3) := by decide +kernel
theorem dX11_rests_106 : decode cX11_rests 106 = .ok (.invokevirtual 212, 3) := by decide +kernel
theorem dX11_rests_109 : decode cX11_rests 109 = .ok (.iload_n 2, 1) := by decide +kernel
theorem dX11_rests_110 : decode cX11_rests 110 = .ok (.ireturn, 1) := by decide +kernel
theorem dX11_friends_0 : decode cX11_friends 0 = .ok (.aload_n 0, 1) := by decide +kernel
theorem dX11_friends_1 : decode cX11_friends 1 = .ok (.invokevirtual 317, 3) := by decide +kernel
theorem dX11_friends_4 : decode cX11_friends 4 = .ok (.astore_n 1, 1) := by decide +kernel
theorem dX11_friends_5 : decode cX11_friends 5 = .ok (.aload_n 1, 1) := by decide +kernel
theorem dX11_friends_6 : decode cX11_friends 6 = .ok (.aload_n 0, 1) := by decide +kernel
theorem dX11_friends_7 : decode cX11_friends 7 = .ok (.getfield 21, 3) := by decide +kernel
theorem dX11_friends_10 : decode cX11_friends 10 = .ok (.invokevirtual 359, 3) := by decide +kernel
theorem dX11_friends_13 : decode cX11_friends 13 = .ok (.ifCond .ne 6, 3) := by decide +kernel
theorem dX11_friends_19 : decode cX11_friends 19 = .ok (.aload_n 1, 1) := by decide +kernel
theorem dX11_friends_20 : decode cX11_friends 20 = .ok (.invokevirtual 362, 3) := by decide +kernel
theorem dX11_friends_23 : decode cX11_friends 23 = .ok (.istore_n 2, 1) := by decide +kernel
theorem dX11_friends_24 : decode cX11_friends 24 = .ok (.aload_n 0, 1) := by decide +kernel
theorem dX11_friends_25 : decode cX11_friends 25 = .ok (.invokevirtual 206, 3) := by decide +kernel
theorem dX11_friends_28 : decode cX11_friends 28 = .ok (.aload_n 0, 1) := by decide +kernel
theorem dX11_friends_29 : decode cX11_friends 29 = .ok (.aload_n 1, 1) := by decide +kernel
theorem dX11_friends_30 : decode cX11_friends 30 = .ok (.getfield 365, 3) := by decide +kernel
theorem dX11_friends_33 : decode cX11_friends 33 = .ok (.invokevirtual 212, 3) := by decide +kernel
theorem dX11_friends_36 : decode cX11_friends 36 = .ok (.aload_n 0, 1) := by decide +kernel
theorem dX11_friends_37 : decode cX11_friends 37 = .ok (.aload_n 1, 1) := by decide +kernel
theorem dX11_friends_38 : decode cX11_friends 38 = .ok (.aload_n 1, 1) := by decide +kernel
theorem dX11_friends_39 : decode cX11_friends 39 = .ok (.iload_n 2, 1) := by decide +kernel
theorem dX11_friends_40 : decode cX11_friends 40 = .ok (.invokevirtual 329, 3) := by decide +kernel
theorem dX11_friends_43 : decode cX11_friends 43 = .ok (.invokevirtual 332, 3) := by decide +kernel
theorem dX11_friends_46 : decode cX11_friends 46 = .ok (.ireturn, 1) := by decide +kernel
theorem dX11_states_0 : decode cX11_states 0 = .ok (.aload_n 0, 1) := by decide +kernel
theorem dX11_states_1 : decode cX11_states 1 = .ok (.invokevirtual 317, 3) := by decide +kernel
theorem dX11_states_4 : decode cX11_states 4 = .ok (.astore_n 1, 1) := by decide +kernel
theorem dX11_states_5 : decode cX11_states 5 = .ok (.aload_n 1, 1) := by decide +kernel
theorem dX11_states_6 : decode cX11_states 6 = .ok (.aload_n 0, 1) := by decide +kernel
theorem dX11_states_7 : decode cX11_states 7 = .ok (.getfield 21, 3) := by decide +kernel
theorem dX11_states_10 : decode cX11_states 10 = .ok (.invokevirtual 359, 3) := by decide +kernel
theorem dX11_states_13 : decode cX11_states 13 = .ok (.ifCond .ne 6, 3) := by decide +kernel
theorem dX11_states_19 : decode cX11_states 19 = .ok (.aload_n 0, 1) := by decide +kernel
theorem dX11_states_20 : decode cX11_states 20 = .ok (.invokevirtual 206, 3) := by decide +kernel
theorem dX11_states_23 : decode cX11_states 23 = .ok (.aload_n 0, 1) := by decide +kernel
theorem dX11_states_24 : decode cX11_states 24 = .ok (.aload_n 1, 1) := by decide +kernel
theorem dX11_states_25 : decode cX11_states 25 = .ok (.invokevirtual 368, 3) := by decide +kernel
theorem dX11_states_28 : decode cX11_states 28 = .ok (.invokevirtual 212, 3) := by decide +kernel
theorem dX11_states_31 : decode cX11_states 31 = .ok (.aload_n 0, 1) := by decide +kernel
theorem dX11_states_32 : decode cX11_states 32 = .ok (.aload_n 1, 1) := by decide +kernel
theorem dX11_states_33 : decode cX11_states 33 = .ok (.aload_n 0, 1) := by decide +kernel
theorem dX11_states_34 : decode cX11_states 34 = .ok (.getfield 76, 3) := by decide +kernel
theorem dX11_states_37 : decode cX11_states 37 = .ok (.invokevirtual 371, 3) := by decide +kernel
theorem dX11_states_40 : decode cX11_states 40 = .ok (.invokevirtual 212, 3) := by decide +kernel
theorem dX11_states_43 : decode cX11_states 43 = .ok (.aload_n 1, 1) := by decide +kernel
theorem dX11_states_44 : decode cX11_states 44 = .ok (.invokevirtual 375, 3) := by decide +kernel
theorem dX11_states_47 : decode cX11_states 47 = .ok (.ireturn, 1) := by decide +kernel
theorem dX11_estate_0 : decode cX11_estate 0 = .ok (.aload_n 0, 1) := by decide +kernel
theorem dX11_estate_1 : decode cX11_estate 1 = .ok (.getfield 21, 3) := by decide +kernel
theorem dX11_estate_4 : decode cX11_estate 4 = .ok (.iload_n 1, 1) := by decide +kernel
theorem dX11_estate_5 : decode cX11_estate 5 = .ok (.invokevirtual 112, 3) := by decide +kernel
theorem dX11_estate_8 : decode cX11_estate 8 = .ok (.ifCond .ne 5, 3) := by decide +kernel
theorem dX11_estate_11 : decode cX11_estate 11 = .ok (.iconst (-1), 1) := by decide +kernel
theorem dX11_estate_12 : decode cX11_estate 12 = .ok (.ireturn, 1) := by decide +kernel
theorem dX11_greedy_0 : decode cX11_greedy 0 = .ok (.aload_n 0, 1) := by decide +kernel
theorem dX11_greedy_1 : decode cX11_greedy 1 = .ok (.getfield 21, 3) := by decide +kernel
theorem dX11_greedy_4 : decode cX11_greedy 4 = .ok (.iload_n 1, 1) := by decide +kernel
theorem dX11_greedy_5 : decode cX11_greedy 5 = .ok (.invokevirtual 112, 3) := by decide +kernel
theorem dX11_greedy_8 : decode cX11_greedy 8 = .ok (.ifCond .ne 5, 3) := by decide +kernel
theorem dX11_greedy_11 : decode cX11_greedy 11 = .ok (.iconst (-1), 1) := by decide +kernel
theorem dX11_greedy_12 : decode cX11_greedy 12 = .ok (.ireturn, 1) := by decide +kernel
theorem dX11_told_0 : decode cX11_told 0 = .ok (.aload_n 0, 1) := by decide +kernel
theorem dX11_told_1 : decode cX11_told 1 = .ok (.getfield 21, 3) := by decide +kernel
theorem dX11_told_4 : decode cX11_told 4 = .ok (.iload_n 1, 1) := by decide +kernel
theorem dX11_told_5 : decode cX11_told 5 = .ok (.invokevirtual 141, 3) := by decide +kernel
theorem dX11_told_8 : decode cX11_told 8 = .ok (.ifCond .eq 12, 3) := by decide +kernel
theorem dX11_told_20 : decode cX11_told 20 = .ok (.iconst (-1), 1) := by decide +kernel
theorem dX11_told_21 : decode cX11_told 21 = .ok (.ireturn, 1) := by decide +kernel
theorem dX11_explains_0 : decode cX11_explains 0 = .ok (.aload_n 0, 1) := by decide +kernel
theorem dX11_explains_1 : decode cX11_explains 1 = .ok (.getfield 21, 3) := by decide +kernel
theorem dX11_explains_4 : decode cX11_explains 4 = .ok (.iload_n 1, 1) := by decide +kernel
theorem dX11_explains_5 : decode cX11_explains 5 = .ok (.invokevirtual 141, 3) := by decide +kernel
theorem dX11_explains_8 : decode cX11_explains 8 = .ok (.ifCond .ne 5, 3) := by decide +kernel
theorem dX11_explains_11 : decode cX11_explains 11 = .ok (.iconst (-1), 1) := by decide +kernel
theorem dX11_explains_12 : decode cX11_explains 12 = .ok (.ireturn, 1) := by decide +kernel
theorem dX11_steady_0 : decode cX11_steady 0 = .ok (.aload_n 0, 1) := by decide +kernel
theorem dX11_steady_1 : decode cX11_steady 1 = .ok (.getfield 21, 3) := by decide +kernel
theorem dX11_steady_4 : decode cX11_steady 4 = .ok (.iload_n 1, 1) := by decide +kernel
theorem dX11_steady_5 : decode cX11_steady 5 = .ok (.invokevirtual 141, 3) := by decide +kernel
theorem dX11_steady_8 : decode cX11_steady 8 = .ok (.ifCond .ne 5, 3) := by decide +kernel
theorem dX11_steady_11 : decode cX11_steady 11 = .ok (.iconst (-1), 1) := by decide +kernel
theorem dX11_steady_12 : decode cX11_steady 12 = .ok (.ireturn, 1) := by decide +kernel
theorem dX11_bear_0 : decode cX11_bear 0 = .ok (.aload_n 0, 1) := by decide +kernel
theorem dX11_bear_1 : decode cX11_bear 1 = .ok (.getfield 21, 3) := by decide +kernel
theorem dX11_bear_4 : decode cX11_bear 4 = .ok (.iload_n 1, 1) := by decide +kernel
theorem dX11_bear_5 : decode cX11_bear 5 = .ok (.invokevirtual 141, 3) := by decide +kernel
theorem dX11_bear_8 : decode cX11_bear 8 = .ok (.ifCond .eq 15, 3) := by decide +kernel
theorem dX11_bear_23 : decode cX11_bear 23 = .ok (.iconst (-1), 1) := by decide +kernel
theorem dX11_bear_24 : decode cX11_bear 24 = .ok (.ireturn, 1) := by decide +kernel
theorem dX11_today_0 : decode cX11_today 0 = .ok (.aload_n 0, 1) := by decide +kernel
theorem dX11_today_1 : decode cX11_today 1 = .ok (.getfield 21, 3) := by decide +kernel
theorem dX11_today_4 : decode cX11_today 4 = .ok (.getfield 305, 3) := by decide +kernel
theorem dX11_today_7 : decode cX11_today 7 = .ok (.ireturn, 1) := by decide +kernel
theorem dX11_seed_0 : decode cX11_seed 0 = .ok (.aload_n 0, 1) := by decide +kernel
theorem dX11_seed_1 : decode cX11_seed 1 = .ok (.getfield 21, 3) := by decide +kernel
theorem dX11_seed_4 : decode cX11_seed 4 = .ok (.getfield 411, 3) := by decide +kernel
theorem dX11_seed_7 : decode cX11_seed 7 = .ok (.istore_n 2, 1) := by decide +kernel
theorem dX11_seed_8 : decode cX11_seed 8 = .ok (.aload_n 0, 1) := by decide +kernel
theorem dX11_seed_9 : decode cX11_seed 9 = .ok (.getfield 21, 3) := by decide +kernel
theorem dX11_seed_12 : decode cX11_seed 12 = .ok (.iload_n 1, 1) := by decide +kernel
theorem dX11_seed_13 : decode cX11_seed 13 = .ok (.putfield 411, 3) := by decide +kernel
theorem dX11_seed_16 : decode cX11_seed 16 = .ok (.iload_n 2, 1) := by decide +kernel
theorem dX11_seed_17 : decode cX11_seed 17 = .ok (.ireturn, 1) := by decide +kernel
theorem dX11_keep_0 : decode cX11_keep 0 = .ok (.iload_n 1, 1) := by decide +kernel
theorem dX11_keep_1 : decode cX11_keep 1 = .ok (.ifCond .lt 30, 3) := by decide +kernel
theorem dX11_keep_4 : decode cX11_keep 4 = .ok (.iload_n 1, 1) := by decide +kernel
theorem dX11_keep_5 : decode cX11_keep 5 = .ok (.aload_n 0, 1) := by decide +kernel
theorem dX11_keep_6 : decode cX11_keep 6 = .ok (.getfield 28, 3) := by decide +kernel
theorem dX11_keep_9 : decode cX11_keep 9 = .ok (.arraylength, 1) := by decide +kernel
theorem dX11_keep_10 : decode cX11_keep 10 = .ok (.if_icmp .ge 21, 3) := by decide +kernel
theorem dX11_keep_13 : decode cX11_keep 13 = .ok (.iload_n 1, 1) := by decide +kernel
theorem dX11_keep_14 : decode cX11_keep 14 = .ok (.aload_n 0, 1) := by decide +kernel
theorem dX11_keep_15 : decode cX11_keep 15 = .ok (.getfield 32, 3) := by decide +kernel
theorem dX11_keep_18 : decode cX11_keep 18 = .ok (.arraylength, 1) := by decide +kernel
theorem dX11_keep_19 : decode cX11_keep 19 = .ok (.if_icmp .ge 12, 3) := by decide +kernel
theorem dX11_keep_22 : decode cX11_keep 22 = .ok (.aload_n 0, 1) := by decide +kernel
theorem dX11_keep_23 : decode cX11_keep 23 = .ok (.getfield 28, 3) := by decide +kernel
theorem dX11_keep_26 : decode cX11_keep 26 = .ok (.iload_n 1, 1) := by decide +kernel
theorem dX11_keep_27 : decode cX11_keep 27 = .ok (.aaload, 1) := by decide +kernel
theorem dX11_keep_28 : decode cX11_keep 28 = .ok (.ifnonnull 5, 3) := by decide +kernel
theorem dX11_keep_31 : decode cX11_keep 31 = .ok (.iconst 0, 1) := by decide +kernel
theorem dX11_keep_32 : decode cX11_keep 32 = .ok (.ireturn, 1) := by decide +kernel
theorem dX11_keep_33 : decode cX11_keep 33 = .ok (.aload_n 0, 1) := by decide +kernel
theorem dX11_keep_34 : decode cX11_keep 34 = .ok (.getfield 28, 3) := by decide +kernel
theorem dX11_keep_37 : decode cX11_keep 37 = .ok (.iload_n 1, 1) := by decide +kernel
theorem dX11_keep_38 : decode cX11_keep 38 = .ok (.aaload, 1) := by decide +kernel
theorem dX11_keep_39 : decode cX11_keep 39 = .ok (.aload_n 0, 1) := by decide +kernel
theorem dX11_keep_40 : decode cX11_keep 40 = .ok (.getfield 21, 3) := by decide +kernel
theorem dX11_keep_43 : decode cX11_keep 43 = .ok (.invokevirtual 231, 3) := by decide +kernel
theorem dX11_keep_46 : decode cX11_keep 46 = .ok (.aload_n 0, 1) := by decide +kernel
theorem dX11_keep_47 : decode cX11_keep 47 = .ok (.getfield 32, 3) := by decide +kernel
theorem dX11_keep_50 : decode cX11_keep 50 = .ok (.iload_n 1, 1) := by decide +kernel
theorem dX11_keep_51 : decode cX11_keep 51 = .ok (.iconst 1, 1) := by decide +kernel
theorem dX11_keep_52 : decode cX11_keep 52 = .ok (.bastore, 1) := by decide +kernel
theorem dX11_keep_53 : decode cX11_keep 53 = .ok (.iconst 1, 1) := by decide +kernel
theorem dX11_keep_54 : decode cX11_keep 54 = .ok (.ireturn, 1) := by decide +kernel
theorem dX11_again_0 : decode cX11_again 0 = .ok (.iload_n 1, 1) := by decide +kernel
theorem dX11_again_1 : decode cX11_again 1 = .ok (.ifCond .lt 30, 3) := by decide +kernel
theorem dX11_again_4 : decode cX11_again 4 = .ok (.iload_n 1, 1) := by decide +kernel
theorem dX11_again_5 : decode cX11_again 5 = .ok (.aload_n 0, 1) := by decide +kernel
theorem dX11_again_6 : decode cX11_again 6 = .ok (.getfield 28, 3) := by decide +kernel
theorem dX11_again_9 : decode cX11_again 9 = .ok (.arraylength, 1) := by decide +kernel
theorem dX11_again_10 : decode cX11_again 10 = .ok (.if_icmp .ge 21, 3) := by decide +kernel
theorem dX11_again_13 : decode cX11_again 13 = .ok (.iload_n 1, 1) := by decide +kernel
theorem dX11_again_14 : decode cX11_again 14 = .ok (.aload_n 0, 1) := by decide +kernel
theorem dX11_again_15 : decode cX11_again 15 = .ok (.getfield 32, 3) := by decide +kernel
theorem dX11_again_18 : decode cX11_again 18 = .ok (.arraylength, 1) := by decide +kernel
theorem dX11_again_19 : decode cX11_again 19 = .ok (.if_icmp .ge 12, 3) := by decide +kernel
theorem dX11_again_22 : decode cX11_again 22 = .ok (.aload_n 0, 1) := by decide +kernel
theorem dX11_again_23 : decode cX11_again 23 = .ok (.getfield 28, 3) := by decide +kernel
theorem dX11_again_26 : decode cX11_again 26 = .ok (.iload_n 1, 1) := by decide +kernel
theorem dX11_again_27 : decode cX11_again 27 = .ok (.aaload, 1) := by decide +kernel
theorem dX11_again_28 : decode cX11_again 28 = .ok (.ifnonnull 5, 3) := by decide +kernel
theorem dX11_again_31 : decode cX11_again 31 = .ok (.iconst 0, 1) := by decide +kernel
theorem dX11_again_32 : decode cX11_again 32 = .ok (.ireturn, 1) := by decide +kernel
theorem dX11_again_33 : decode cX11_again 33 = .ok (.aload_n 0, 1) := by decide +kernel
theorem dX11_again_34 : decode cX11_again 34 = .ok (.getfield 32, 3) := by decide +kernel
theorem dX11_again_37 : decode cX11_again 37 = .ok (.iload_n 1, 1) := by decide +kernel
theorem dX11_again_38 : decode cX11_again 38 = .ok (.baload, 1) := by decide +kernel
theorem dX11_again_39 : decode cX11_again 39 = .ok (.ifCond .eq 41, 3) := by decide +kernel
theorem dX11_again_80 : decode cX11_again 80 = .ok (.iconst 0, 1) := by decide +kernel
theorem dX11_again_81 : decode cX11_again 81 = .ok (.ireturn, 1) := by decide +kernel
theorem dX11_count_0 : decode cX11_count 0 = .ok (.iload_n 1, 1) := by decide +kernel
theorem dX11_count_1 : decode cX11_count 1 = .ok (.tableswitch 108 0 7 #[47, 55, 63, 71, 79, 87, 95, 100], 47) := by decide +kernel
theorem dX11_count_48 : decode cX11_count 48 = .ok (.aload_n 0, 1) := by decide +kernel
theorem dX11_count_49 : decode cX11_count 49 = .ok (.getfield 21, 3) := by decide +kernel
theorem dX11_count_52 : decode cX11_count 52 = .ok (.getfield 268, 3) := by decide +kernel
theorem dX11_count_55 : decode cX11_count 55 = .ok (.ireturn, 1) := by decide +kernel
theorem dX11_count_56 : decode cX11_count 56 = .ok (.aload_n 0, 1) := by decide +kernel
theorem dX11_count_57 : decode cX11_count 57 = .ok (.getfield 21, 3) := by decide +kernel
theorem dX11_count_60 : decode cX11_count 60 = .ok (.getfield 182, 3) := by decide +kernel
theorem dX11_count_63 : decode cX11_count 63 = .ok (.ireturn, 1) := by decide +kernel
theorem dX11_count_64 : decode cX11_count 64 = .ok (.aload_n 0, 1) := by decide +kernel
theorem dX11_count_65 : decode cX11_count 65 = .ok (.getfield 21, 3) := by decide +kernel
theorem dX11_count_68 : decode cX11_count 68 = .ok (.invokevirtual 414, 3) := by decide +kernel
theorem dX11_count_71 : decode cX11_count 71 = .ok (.ireturn, 1) := by decide +kernel
theorem dX11_count_72 : decode cX11_count 72 = .ok (.aload_n 0, 1) := by decide +kernel
theorem dX11_count_73 : decode cX11_count 73 = .ok (.getfield 69, 3) := by decide +kernel
theorem dX11_count_76 : decode cX11_count 76 = .ok (.invokevirtual 228, 3) := by decide +kernel
theorem dX11_count_79 : decode cX11_count 79 = .ok (.ireturn, 1) := by decide +kernel
theorem dX11_count_80 : decode cX11_count 80 = .ok (.aload_n 0, 1) := by decide +kernel
theorem dX11_count_81 : decode cX11_count 81 = .ok (.getfield 83, 3) := by decide +kernel
theorem dX11_count_84 : decode cX11_count 84 = .ok (.invokevirtual 391, 3) := by decide +kernel
theorem dX11_count_87 : decode cX11_count 87 = .ok (.ireturn, 1) := by decide +kernel
theorem dX11_count_88 : decode cX11_count 88 = .ok (.aload_n 0, 1) := by decide +kernel
theorem dX11_count_89 : decode cX11_count 89 = .ok (.getfield 21, 3) := by decide +kernel
theorem dX11_count_92 : decode cX11_count 92 = .ok (.invokevirtual 417, 3) := by decide +kernel
theorem dX11_count_95 : decode cX11_count 95 = .ok (.ireturn, 1) := by decide +kernel
theorem dX11_count_96 : decode cX11_count 96 = .ok (.aload_n 0, 1) := by decide +kernel
theorem dX11_count_97 : decode cX11_count 97 = .ok (.getfield 420, 3) := by decide +kernel
theorem dX11_count_100 : decode cX11_count 100 = .ok (.ireturn, 1) := by decide +kernel
theorem dX11_count_101 : decode cX11_count 101 = .ok (.aload_n 0, 1) := by decide +kernel
theorem dX11_count_102 : decode cX11_count 102 = .ok (.getfield 12, 3) := by decide +kernel
theorem dX11_count_105 : decode cX11_count 105 = .ok (.invokevirtual 95, 3) := by decide +kernel
theorem dX11_count_108 : decode cX11_count 108 = .ok (.ireturn, 1) := by decide +kernel
theorem dX11_count_109 : decode cX11_count 109 = .ok (.iconst (-1), 1) := by decide +kernel
theorem dX11_count_110 : decode cX11_count 110 = .ok (.ireturn, 1) := by decide +kernel
theorem dX11_row_0 : decode cX11_row 0 = .ok (.iload_n 1, 1) := by decide +kernel
theorem dX11_row_1 : decode cX11_row 1 = .ok (.ifCond .lt 20, 3) := by decide +kernel
theorem dX11_row_4 : decode cX11_row 4 = .ok (.iload_n 1, 1) := by decide +kernel
theorem dX11_row_5 : decode cX11_row 5 = .ok (.aload_n 0, 1) := by decide +kernel
theorem dX11_row_6 : decode cX11_row 6 = .ok (.getfield 420, 3) := by decide +kernel
theorem dX11_row_9 : decode cX11_row 9 = .ok (.if_icmp .ge 12, 3) := by decide +kernel
theorem dX11_row_21 : decode cX11_row 21 = .ok (.new 115, 3) := by decide +kernel
theorem dX11_row_24 : decode cX11_row 24 = .ok (.dup, 1) := by decide +kernel
theorem dX11_row_25 : decode cX11_row 25 = .ok (.ldc_w 423, 3) := by decide +kernel
theorem dX11_row_28 : decode cX11_row 28 = .ok (.invokespecial 119, 3) := by decide +kernel
theorem dX11_row_31 : decode cX11_row 31 = .ok (.athrow, 1) := by decide +kernel
theorem dX11_clearRow_0 : decode cX11_clearRow 0 = .ok (.aload_n 0, 1) := by decide +kernel
theorem dX11_clearRow_1 : decode cX11_clearRow 1 = .ok (.iconst 0, 1) := by decide +kernel
theorem dX11_clearRow_2 : decode cX11_clearRow 2 = .ok (.putfield 420, 3) := by decide +kernel
theorem dX11_clearRow_5 : decode cX11_clearRow 5 = .ok (.return_, 1) := by decide +kernel
theorem dX11_tell_0 : decode cX11_tell 0 = .ok (.aload_n 0, 1) := by decide +kernel
theorem dX11_tell_1 : decode cX11_tell 1 = .ok (.getfield 420, 3) := by decide +kernel
theorem dX11_tell_4 : decode cX11_tell 4 = .ok (.ifCond .lt 35, 3) := by decide +kernel
theorem dX11_tell_7 : decode cX11_tell 7 = .ok (.aload_n 0, 1) := by decide +kernel
theorem dX11_tell_8 : decode cX11_tell 8 = .ok (.getfield 420, 3) := by decide +kernel
theorem dX11_tell_11 : decode cX11_tell 11 = .ok (.aload_n 0, 1) := by decide +kernel
theorem dX11_tell_12 : decode cX11_tell 12 = .ok (.getfield 87, 3) := by decide +kernel
theorem dX11_tell_15 : decode cX11_tell 15 = .ok (.arraylength, 1) := by decide +kernel
theorem dX11_tell_16 : decode cX11_tell 16 = .ok (.if_icmp .ge 23, 3) := by decide +kernel
theorem dX11_tell_19 : decode cX11_tell 19 = .ok (.aload_n 0, 1) := by decide +kernel
theorem dX11_tell_20 : decode cX11_tell 20 = .ok (.getfield 87, 3) := by decide +kernel
theorem dX11_tell_23 : decode cX11_tell 23 = .ok (.aload_n 0, 1) := by decide +kernel
theorem dX11_tell_24 : decode cX11_tell 24 = .ok (.getfield 420, 3) := by decide +kernel
theorem dX11_tell_27 : decode cX11_tell 27 = .ok (.iload_n 1, 1) := by decide +kernel
theorem dX11_tell_28 : decode cX11_tell 28 = .ok (.iastore, 1) := by decide +kernel
theorem dX11_tell_29 : decode cX11_tell 29 = .ok (.aload_n 0, 1) := by decide +kernel
theorem dX11_tell_30 : decode cX11_tell 30 = .ok (.dup, 1) := by decide +kernel
theorem dX11_tell_31 : decode cX11_tell 31 = .ok (.getfield 420, 3) := by decide +kernel
theorem dX11_tell_34 : decode cX11_tell 34 = .ok (.iconst 1, 1) := by decide +kernel
theorem dX11_tell_35 : decode cX11_tell 35 = .ok (.iadd, 1) := by decide +kernel
theorem dX11_tell_36 : decode cX11_tell 36 = .ok (.putfield 420, 3) := by decide +kernel
theorem dX11_tell_39 : decode cX11_tell 39 = .ok (.return_, 1) := by decide +kernel
theorem dX11_tellPath_0 : decode cX11_tellPath 0 = .ok (.iconst 0, 1) := by decide +kernel
theorem dX11_tellPath_1 : decode cX11_tellPath 1 = .ok (.istore_n 3, 1) := by decide +kernel
theorem dX11_tellPath_2 : decode cX11_tellPath 2 = .ok (.iload_n 3, 1) := by decide +kernel
theorem dX11_tellPath_3 : decode cX11_tellPath 3 = .ok (.iload_n 2, 1) := by decide +kernel
theorem dX11_tellPath_4 : decode cX11_tellPath 4 = .ok (.if_icmp .ge 24, 3) := by decide +kernel
theorem dX11_tellPath_28 : decode cX11_tellPath 28 = .ok (.iload_n 2, 1) := by decide +kernel
theorem dX11_tellPath_29 : decode cX11_tellPath 29 = .ok (.ireturn, 1) := by decide +kernel
theorem dX11_searching_0 : decode cX11_searching 0 = .ok (.aload_n 0, 1) := by decide +kernel
theorem dX11_searching_1 : decode cX11_searching 1 = .ok (.getfield 428, 3) := by decide +kernel
theorem dX11_searching_4 : decode cX11_searching 4 = .ok (.ifnonnull 22, 3) := by decide +kernel
theorem dX11_searching_7 : decode cX11_searching 7 = .ok (.aload_n 0, 1) := by decide +kernel
theorem dX11_searching_8 : decode cX11_searching 8 = .ok (.new 322, 3) := by decide +kernel
theorem dX11_searching_11 : decode cX11_searching 11 = .ok (.dup, 1) := by decide +kernel
theorem dX11_searching_12 : decode cX11_searching 12 = .ok (.aload_n 0, 1) := by decide +kernel
theorem dX11_searching_13 : decode cX11_searching 13 = .ok (.getfield 48, 3) := by decide +kernel
theorem dX11_searching_16 : decode cX11_searching 16 = .ok (.aload_n 0, 1) := by decide +kernel
theorem dX11_searching_17 : decode cX11_searching 17 = .ok (.getfield 25, 3) := by decide +kernel
theorem dX11_searching_20 : decode cX11_searching 20 = .ok (.invokespecial 432, 3) := by decide +kernel
theorem dX11_searching_23 : decode cX11_searching 23 = .ok (.putfield 428, 3) := by decide +kernel
theorem dX11_searching_26 : decode cX11_searching 26 = .ok (.aload_n 0, 1) := by decide +kernel
theorem dX11_searching_27 : decode cX11_searching 27 = .ok (.getfield 428, 3) := by decide +kernel
theorem dX11_searching_30 : decode cX11_searching 30 = .ok (.areturn, 1) := by decide +kernel
theorem dX11_areTwo_0 : decode cX11_areTwo 0 = .ok (.aload_n 0, 1) := by decide +kernel
theorem dX11_areTwo_1 : decode cX11_areTwo 1 = .ok (.getfield 21, 3) := by decide +kernel
theorem dX11_areTwo_4 : decode cX11_areTwo 4 = .ok (.iload_n 1, 1) := by decide +kernel
theorem dX11_areTwo_5 : decode cX11_areTwo 5 = .ok (.invokevirtual 112, 3) := by decide +kernel
theorem dX11_areTwo_8 : decode cX11_areTwo 8 = .ok (.ifCond .eq 23, 3) := by decide +kernel
theorem dX11_areTwo_31 : decode cX11_areTwo 31 = .ok (.iconst 0, 1) := by decide +kernel
theorem dX11_areTwo_32 : decode cX11_areTwo 32 = .ok (.ireturn, 1) := by decide +kernel
theorem dX11_areTwoHalves_0 : decode cX11_areTwoHalves 0 = .ok (.aload_n 0, 1) := by decide +kernel
theorem dX11_areTwoHalves_1 : decode cX11_areTwoHalves 1 = .ok (.getfield 21, 3) := by decide +kernel
theorem dX11_areTwoHalves_4 : decode cX11_areTwoHalves 4 = .ok (.iload_n 1, 1) := by decide +kernel
theorem dX11_areTwoHalves_5 : decode cX11_areTwoHalves 5 = .ok (.invokevirtual 435, 3) := by decide +kernel
theorem dX11_areTwoHalves_8 : decode cX11_areTwoHalves 8 = .ok (.ifCond .eq 23, 3) := by decide +kernel
theorem dX11_areTwoHalves_31 : decode cX11_areTwoHalves 31 = .ok (.iconst 0, 1) := by decide +kernel
theorem dX11_areTwoHalves_32 : decode cX11_areTwoHalves 32 = .ok (.ireturn, 1) := by decide +kernel
theorem dX11_areHalfAndPerson_0 : decode cX11_areHalfAndPerson 0 = .ok (.aload_n 0, 1) := by decide +kernel
theorem dX11_areHalfAndPerson_1 : decode cX11_areHalfAndPerson 1 = .ok (.getfield 21, 3) := by decide +kernel
theorem dX11_areHalfAndPerson_4 : decode cX11_areHalfAndPerson 4 = .ok (.iload_n 1, 1) := by decide +kernel
theorem dX11_areHalfAndPerson_5 : decode cX11_areHalfAndPerson 5 = .ok (.invokevirtual 435, 3) := by decide +kernel
theorem dX11_areHalfAndPerson_8 : decode cX11_areHalfAndPerson 8 = .ok (.ifCond .eq 18, 3) := by decide +kernel
theorem dX11_areHalfAndPerson_26 : decode cX11_areHalfAndPerson 26 = .ok (.iconst 0, 1) := by decide +kernel
theorem dX11_areHalfAndPerson_27 : decode cX11_areHalfAndPerson 27 = .ok (.ireturn, 1) := by decide +kernel
theorem dX12_init_0 : decode cX12_init 0 = .ok (.aload_n 0, 1) := by decide +kernel
theorem dX12_init_1 : decode cX12_init 1 = .ok (.invokespecial 3, 3) := by decide +kernel
theorem dX12_init_4 : decode cX12_init 4 = .ok (.aload_n 0, 1) := by decide +kernel
theorem dX12_init_5 : decode cX12_init 5 = .ok (.bipush 8, 2) := by decide +kernel
theorem dX12_init_7 : decode cX12_init 7 = .ok (.newarray .int, 2) := by decide +kernel
theorem dX12_init_9 : decode cX12_init 9 = .ok (.putfield 9, 3) := by decide +kernel
theorem dX12_init_12 : decode cX12_init 12 = .ok (.aload_n 0, 1) := by decide +kernel
theorem dX12_init_13 : decode cX12_init 13 = .ok (.bipush 64, 2) := by decide +kernel
theorem dX12_init_15 : decode cX12_init 15 = .ok (.newarray .int, 2) := by decide +kernel
theorem dX12_init_17 : decode cX12_init 17 = .ok (.putfield 13, 3) := by decide +kernel
theorem dX12_init_20 : decode cX12_init 20 = .ok (.aload_n 0, 1) := by decide +kernel
theorem dX12_init_21 : decode cX12_init 21 = .ok (.bipush 8, 2) := by decide +kernel
theorem dX12_init_23 : decode cX12_init 23 = .ok (.newarray .boolean, 2) := by decide +kernel
theorem dX12_init_25 : decode cX12_init 25 = .ok (.putfield 16, 3) := by decide +kernel
theorem dX12_init_28 : decode cX12_init 28 = .ok (.aload_n 0, 1) := by decide +kernel
theorem dX12_init_29 : decode cX12_init 29 = .ok (.bipush 10, 2) := by decide +kernel
theorem dX12_init_31 : decode cX12_init 31 = .ok (.newarray .int, 2) := by decide +kernel
theorem dX12_init_33 : decode cX12_init 33 = .ok (.putfield 20, 3) := by decide +kernel
theorem dX12_init_36 : decode cX12_init 36 = .ok (.aload_n 0, 1) := by decide +kernel
theorem dX12_init_37 : decode cX12_init 37 = .ok (.bipush 10, 2) := by decide +kernel
theorem dX12_init_39 : decode cX12_init 39 = .ok (.newarray .int, 2) := by decide +kernel
theorem dX12_init_41 : decode cX12_init 41 = .ok (.putfield 23, 3) := by decide +kernel
theorem dX12_init_44 : decode cX12_init 44 = .ok (.aload_n 0, 1) := by decide +kernel
theorem dX12_init_45 : decode cX12_init 45 = .ok (.bipush 20, 2) := by decide +kernel
theorem dX12_init_47 : decode cX12_init 47 = .ok (.newarray .int, 2) := by decide +kernel
theorem dX12_init_49 : decode cX12_init 49 = .ok (.putfield 26, 3) := by decide +kernel
theorem dX12_init_52 : decode cX12_init 52 = .ok (.aload_n 0, 1) := by decide +kernel
theorem dX12_init_53 : decode cX12_init 53 = .ok (.iconst 2, 1) := by decide +kernel
theorem dX12_init_54 : decode cX12_init 54 = .ok (.newarray .int, 2) := by decide +kernel
theorem dX12_init_56 : decode cX12_init 56 = .ok (.dup, 1) := by decide +kernel
theorem dX12_init_57 : decode cX12_init 57 = .ok (.iconst 0, 1) := by decide +kernel
theorem dX12_init_58 : decode cX12_init 58 = .ok (.iconst 0, 1) := by decide +kernel
theorem dX12_init_59 : decode cX12_init 59 = .ok (.iastore, 1) := by decide +kernel
theorem dX12_init_60 : decode cX12_init 60 = .ok (.dup, 1) := by decide +kernel
theorem dX12_init_61 : decode cX12_init 61 = .ok (.iconst 1, 1) := by decide +kernel
theorem dX12_init_62 : decode cX12_init 62 = .ok (.iconst 0, 1) := by decide +kernel
theorem dX12_init_63 : decode cX12_init 63 = .ok (.iastore, 1) := by decide +kernel
theorem dX12_init_64 : decode cX12_init 64 = .ok (.putfield 29, 3) := by decide +kernel
theorem dX12_init_67 : decode cX12_init 67 = .ok (.aload_n 0, 1) := by decide +kernel
theorem dX12_init_68 : decode cX12_init 68 = .ok (.iconst 1, 1) := by decide +kernel
theorem dX12_init_69 : decode cX12_init 69 = .ok (.putfield 32, 3) := by decide +kernel
theorem dX12_init_72 : decode cX12_init 72 = .ok (.aload_n 0, 1) := by decide +kernel
theorem dX12_init_73 : decode cX12_init 73 = .ok (.bipush 80, 2) := by decide +kernel
theorem dX12_init_75 : decode cX12_init 75 = .ok (.newarray .byte, 2) := by decide +kernel
theorem dX12_init_77 : decode cX12_init 77 = .ok (.putfield 36, 3) := by decide +kernel
theorem dX12_init_80 : decode cX12_init 80 = .ok (.aload_n 0, 1) := by decide +kernel
theorem dX12_init_81 : decode cX12_init 81 = .ok (.bipush 16, 2) := by decide +kernel
theorem dX12_init_83 : decode cX12_init 83 = .ok (.newarray .int, 2) := by decide +kernel
theorem dX12_init_85 : decode cX12_init 85 = .ok (.putfield 40, 3) := by decide +kernel
theorem dX12_init_88 : decode cX12_init 88 = .ok (.aload_n 0, 1) := by decide +kernel
theorem dX12_init_89 : decode cX12_init 89 = .ok (.sipush 240, 3) := by decide +kernel
theorem dX12_init_92 : decode cX12_init 92 = .ok (.newarray .int, 2) := by decide +kernel
theorem dX12_init_94 : decode cX12_init 94 = .ok (.putfield 43, 3) := by decide +kernel
theorem dX12_init_97 : decode cX12_init 97 = .ok (.aload_n 0, 1) := by decide +kernel
theorem dX12_init_98 : decode cX12_init 98 = .ok (.bipush 40, 2) := by decide +kernel
theorem dX12_init_100 : decode cX12_init 100 = .ok (.newarray .byte, 2) := by decide +kernel
theorem dX12_init_102 : decode cX12_init 102 = .ok (.putfield 46, 3) := by decide +kernel
theorem dX12_init_105 : decode cX12_init 105 = .ok (.aload_n 0, 1) := by decide +kernel
theorem dX12_init_106 : decode cX12_init 106 = .ok (.iconst (-1), 1) := by decide +kernel
theorem dX12_init_107 : decode cX12_init 107 = .ok (.putfield 49, 3) := by decide +kernel
theorem dX12_init_110 : decode cX12_init 110 = .ok (.aload_n 0, 1) := by decide +kernel
theorem dX12_init_111 : decode cX12_init 111 = .ok (.sipush 840, 3) := by decide +kernel
theorem dX12_init_114 : decode cX12_init 114 = .ok (.newarray .int, 2) := by decide +kernel
theorem dX12_init_116 : decode cX12_init 116 = .ok (.putfield 52, 3) := by decide +kernel
theorem dX12_init_119 : decode cX12_init 119 = .ok (.aload_n 0, 1) := by decide +kernel
theorem dX12_init_120 : decode cX12_init 120 = .ok (.bipush 28, 2) := by decide +kernel
theorem dX12_init_122 : decode cX12_init 122 = .ok (.newarray .int, 2) := by decide +kernel
theorem dX12_init_124 : decode cX12_init 124 = .ok (.putfield 55, 3) := by decide +kernel
theorem dX12_init_127 : decode cX12_init 127 = .ok (.aload_n 0, 1) := by decide +kernel
theorem dX12_init_128 : decode cX12_init 128 = .ok (.ldc 58, 2) := by decide +kernel
theorem dX12_init_130 : decode cX12_init 130 = .ok (.newarray .int, 2) := by decide +kernel
theorem dX12_init_132 : decode cX12_init 132 = .ok (.putfield 59, 3) := by decide +kernel
theorem dX12_init_135 : decode cX12_init 135 = .ok (.aload_n 0, 1) := by decide +kernel
theorem dX12_init_136 : decode cX12_init 136 = .ok (.sipush 24000, 3) := by decide +kernel
theorem dX12_init_139 : decode cX12_init 139 = .ok (.newarray .int, 2) := by decide +kernel
theorem dX12_init_141 : decode cX12_init 141 = .ok (.putfield 62, 3) := by decide +kernel
theorem dX12_init_144 : decode cX12_init 144 = .ok (.aload_n 0, 1) := by decide +kernel
theorem dX12_init_145 : decode cX12_init 145 = .ok (.sipush 3000, 3) := by decide +kernel
theorem dX12_init_148 : decode cX12_init 148 = .ok (.newarray .int, 2) := by decide +kernel
theorem dX12_init_150 : decode cX12_init 150 = .ok (.putfield 65, 3) := by decide +kernel
theorem dX12_init_153 : decode cX12_init 153 = .ok (.aload_n 0, 1) := by decide +kernel
theorem dX12_init_154 : decode cX12_init 154 = .ok (.sipush 3000, 3) := by decide +kernel
theorem dX12_init_157 : decode cX12_init 157 = .ok (.newarray .int, 2) := by decide +kernel
theorem dX12_init_159 : decode cX12_init 159 = .ok (.putfield 68, 3) := by decide +kernel
theorem dX12_init_162 : decode cX12_init 162 = .ok (.aload_n 0, 1) := by decide +kernel
theorem dX12_init_163 : decode cX12_init 163 = .ok (.sipush 3000, 3) := by decide +kernel
theorem dX12_init_166 : decode cX12_init 166 = .ok (.newarray .int, 2) := by decide +kernel
theorem dX12_init_168 : decode cX12_init 168 = .ok (.putfield 71, 3) := by decide +kernel
theorem dX12_init_171 : decode cX12_init 171 = .ok (.aload_n 0, 1) := by decide +kernel
theorem dX12_init_172 : decode cX12_init 172 = .ok (.sipush 8192, 3) := by decide +kernel
theorem dX12_init_175 : decode cX12_init 175 = .ok (.newarray .int, 2) := by decide +kernel
theorem dX12_init_177 : decode cX12_init 177 = .ok (.putfield 74, 3) := by decide +kernel
theorem dX12_init_180 : decode cX12_init 180 = .ok (.aload_n 0, 1) := by decide +kernel
theorem dX12_init_181 : decode cX12_init 181 = .ok (.bipush 28, 2) := by decide +kernel
theorem dX12_init_183 : decode cX12_init 183 = .ok (.newarray .int, 2) := by decide +kernel
theorem dX12_init_185 : decode cX12_init 185 = .ok (.putfield 77, 3) := by decide +kernel
theorem dX12_init_188 : decode cX12_init 188 = .ok (.aload_n 0, 1) := by decide +kernel
theorem dX12_init_189 : decode cX12_init 189 = .ok (.sipush 3000, 3) := by decide +kernel
theorem dX12_init_192 : decode cX12_init 192 = .ok (.newarray .int, 2) := by decide +kernel
theorem dX12_init_194 : decode cX12_init 194 = .ok (.putfield 80, 3) := by decide +kernel
theorem dX12_init_197 : decode cX12_init 197 = .ok (.aload_n 0, 1) := by decide +kernel
theorem dX12_init_198 : decode cX12_init 198 = .ok (.sipush 3000, 3) := by decide +kernel
theorem dX12_init_201 : decode cX12_init 201 = .ok (.newarray .int, 2) := by decide +kernel
theorem dX12_init_203 : decode cX12_init 203 = .ok (.putfield 83, 3) := by decide +kernel
theorem dX12_init_206 : decode cX12_init 206 = .ok (.aload_n 0, 1) := by decide +kernel
theorem dX12_init_207 : decode cX12_init 207 = .ok (.sipush 3000, 3) := by decide +kernel
theorem dX12_init_210 : decode cX12_init 210 = .ok (.newarray .int, 2) := by decide +kernel
theorem dX12_init_212 : decode cX12_init 212 = .ok (.putfield 86, 3) := by decide +kernel
theorem dX12_init_215 : decode cX12_init 215 = .ok (.aload_n 0, 1) := by decide +kernel
theorem dX12_init_216 : decode cX12_init 216 = .ok (.bipush 32, 2) := by decide +kernel
theorem dX12_init_218 : decode cX12_init 218 = .ok (.newarray .int, 2) := by decide +kernel
theorem dX12_init_220 : decode cX12_init 220 = .ok (.putfield 89, 3) := by decide +kernel
theorem dX12_init_223 : decode cX12_init 223 = .ok (.aload_n 0, 1) := by decide +kernel
theorem dX12_init_224 : decode cX12_init 224 = .ok (.sipush 204, 3) := by decide +kernel
theorem dX12_init_227 : decode cX12_init 227 = .ok (.newarray .int, 2) := by decide +kernel
theorem dX12_init_229 : decode cX12_init 229 = .ok (.putfield 92, 3) := by decide +kernel
theorem dX12_init_232 : decode cX12_init 232 = .ok (.aload_n 0, 1) := by decide +kernel
theorem dX12_init_233 : decode cX12_init 233 = .ok (.iconst 2, 1) := by decide +kernel
theorem dX12_init_234 : decode cX12_init 234 = .ok (.newarray .boolean, 2) := by decide +kernel
theorem dX12_init_236 : decode cX12_init 236 = .ok (.putfield 95, 3) := by decide +kernel
theorem dX12_init_239 : decode cX12_init 239 = .ok (.aload_n 0, 1) := by decide +kernel
theorem dX12_init_240 : decode cX12_init 240 = .ok (.iconst 2, 1) := by decide +kernel
theorem dX12_init_241 : decode cX12_init 241 = .ok (.newarray .int, 2) := by decide +kernel
theorem dX12_init_243 : decode cX12_init 243 = .ok (.putfield 98, 3) := by decide +kernel
theorem dX12_init_246 : decode cX12_init 246 = .ok (.return_, 1) := by decide +kernel
theorem dX12_thrown_0 : decode cX12_thrown 0 = .ok (.aload_n 0, 1) := by decide +kernel
theorem dX12_thrown_1 : decode cX12_thrown 1 = .ok (.getfield 101, 3) := by decide +kernel
theorem dX12_thrown_4 : decode cX12_thrown 4 = .ok (.ireturn, 1) := by decide +kernel
theorem dX12_in_0 : decode cX12_in 0 = .ok (.iload_n 0, 1) := by decide +kernel
theorem dX12_in_1 : decode cX12_in 1 = .ok (.iload_n 1, 1) := by decide +kernel
theorem dX12_in_2 : decode cX12_in 2 = .ok (.if_icmp .lt 12, 3) := by decide +kernel
theorem dX12_in_5 : decode cX12_in 5 = .ok (.iload_n 0, 1) := by decide +kernel
theorem dX12_in_6 : decode cX12_in 6 = .ok (.iload_n 2, 1) := by decide +kernel
theorem dX12_in_7 : decode cX12_in 7 = .ok (.if_icmp .gt 7, 3) := by decide +kernel
theorem dX12_in_10 : decode cX12_in 10 = .ok (.iconst 1, 1) := by decide +kernel
theorem dX12_in_11 : decode cX12_in 11 = .ok (.goto 4, 3) := by decide +kernel
theorem dX12_in_14 : decode cX12_in 14 = .ok (.iconst 0, 1) := by decide +kernel
theorem dX12_in_15 : decode cX12_in 15 = .ok (.ireturn, 1) := by decide +kernel
theorem dX12_lost_0 : decode cX12_lost 0 = .ok (.aload_n 0, 1) := by decide +kernel
theorem dX12_lost_1 : decode cX12_lost 1 = .ok (.iconst 1, 1) := by decide +kernel
theorem dX12_lost_2 : decode cX12_lost 2 = .ok (.putfield 101, 3) := by decide +kernel
theorem dX12_lost_5 : decode cX12_lost 5 = .ok (.iconst 0, 1) := by decide +kernel
theorem dX12_lost_6 : decode cX12_lost 6 = .ok (.ireturn, 1) := by decide +kernel
theorem dX12_tell_0 : decode cX12_tell 0 = .ok (.aload_n 0, 1) := by decide +kernel
theorem dX12_tell_1 : decode cX12_tell 1 = .ok (.getfield 40, 3) := by decide +kernel
theorem dX12_tell_4 : decode cX12_tell 4 = .ok (.aload_n 0, 1) := by decide +kernel
theorem dX12_tell_5 : decode cX12_tell 5 = .ok (.getfield 104, 3) := by decide +kernel
theorem dX12_tell_8 : decode cX12_tell 8 = .ok (.iload_n 1, 1) := by decide +kernel
theorem dX12_tell_9 : decode cX12_tell 9 = .ok (.iastore, 1) := by decide +kernel
theorem dX12_tell_10 : decode cX12_tell 10 = .ok (.aload_n 0, 1) := by decide +kernel
theorem dX12_tell_11 : decode cX12_tell 11 = .ok (.dup, 1) := by decide +kernel
theorem dX12_tell_12 : decode cX12_tell 12 = .ok (.getfield 104, 3) := by decide +kernel
theorem dX12_tell_15 : decode cX12_tell 15 = .ok (.iconst 1, 1) := by decide +kernel
theorem dX12_tell_16 : decode cX12_tell 16 = .ok (.iadd, 1) := by decide +kernel
theorem dX12_tell_17 : decode cX12_tell 17 = .ok (.putfield 104, 3) := by decide +kernel
theorem dX12_tell_20 : decode cX12_tell 20 = .ok (.return_, 1) := by decide +kernel
theorem dX12_isOne_0 : decode cX12_isOne 0 = .ok (.iload_n 1, 1) := by decide +kernel
theorem dX12_isOne_1 : decode cX12_isOne 1 = .ok (.iconst 0, 1) := by decide +kernel
theorem dX12_isOne_2 : decode cX12_isOne 2 = .ok (.aload_n 0, 1) := by decide +kernel
theorem dX12_isOne_3 : decode cX12_isOne 3 = .ok (.getfield 107, 3) := by decide +kernel
theorem dX12_isOne_6 : decode cX12_isOne 6 = .ok (.iconst 1, 1) := by decide +kernel
theorem dX12_isOne_7 : decode cX12_isOne 7 = .ok (.isub, 1) := by decide +kernel
theorem dX12_isOne_8 : decode cX12_isOne 8 = .ok (.invokestatic 110, 3) := by decide +kernel
theorem dX12_isOne_11 : decode cX12_isOne 11 = .ok (.ireturn, 1) := by decide +kernel
theorem dX12_isThing_0 : decode cX12_isThing 0 = .ok (.iload_n 1, 1) := by decide +kernel
theorem dX12_isThing_1 : decode cX12_isThing 1 = .ok (.iconst 0, 1) := by decide +kernel
theorem dX12_isThing_2 : decode cX12_isThing 2 = .ok (.aload_n 0, 1) := by decide +kernel
theorem dX12_isThing_3 : decode cX12_isThing 3 = .ok (.getfield 114, 3) := by decide +kernel
theorem dX12_isThing_6 : decode cX12_isThing 6 = .ok (.iconst 1, 1) := by decide +kernel
theorem dX12_isThing_7 : decode cX12_isThing 7 = .ok (.isub, 1) := by decide +kernel
theorem dX12_isThing_8 : decode cX12_isThing 8 = .ok (.invokestatic 110, 3) := by decide +kernel
theorem dX12_isThing_11 : decode cX12_isThing 11 = .ok (.ireturn, 1) := by decide +kernel
theorem dX12_isHalf_0 : decode cX12_isHalf 0 = .ok (.iload_n 1, 1) := by decide +kernel
theorem dX12_isHalf_1 : decode cX12_isHalf 1 = .ok (.iconst 0, 1) := by decide +kernel
theorem dX12_isHalf_2 : decode cX12_isHalf 2 = .ok (.iconst 2, 1) := by decide +kernel
theorem dX12_isHalf_3 : decode cX12_isHalf 3 = .ok (.aload_n 0, 1) := by decide +kernel
theorem dX12_isHalf_4 : decode cX12_isHalf 4 = .ok (.getfield 114, 3) := by decide +kernel
theorem dX12_isHalf_7 : decode cX12_isHalf 7 = .ok (.imul, 1) := by decide +kernel
theorem dX12_isHalf_8 : decode cX12_isHalf 8 = .ok (.iconst 1, 1) := by decide +kernel
theorem dX12_isHalf_9 : decode cX12_isHalf 9 = .ok (.isub, 1) := by decide +kernel
theorem dX12_isHalf_10 : decode cX12_isHalf 10 = .ok (.invokestatic 110, 3) := by decide +kernel
theorem dX12_isHalf_13 : decode cX12_isHalf 13 = .ok (.ireturn, 1) := by decide +kernel
theorem dX12_areThings_0 : decode cX12_areThings 0 = .ok (.iload_n 1, 1) := by decide +kernel
theorem dX12_areThings_1 : decode cX12_areThings 1 = .ok (.iconst 0, 1) := by decide +kernel
theorem dX12_areThings_2 : decode cX12_areThings 2 = .ok (.iconst 1, 1) := by decide +kernel
theorem dX12_areThings_3 : decode cX12_areThings 3 = .ok (.aload_n 0, 1) := by decide +kernel
theorem dX12_areThings_4 : decode cX12_areThings 4 = .ok (.getfield 114, 3) := by decide +kernel
theorem dX12_areThings_7 : decode cX12_areThings 7 = .ok (.ishl, 1) := by decide +kernel
theorem dX12_areThings_8 : decode cX12_areThings 8 = .ok (.iconst 1, 1) := by decide +kernel
theorem dX12_areThings_9 : decode cX12_areThings 9 = .ok (.isub, 1) := by decide +kernel
theorem dX12_areThings_10 : decode cX12_areThings 10 = .ok (.invokestatic 110, 3) := by decide +kernel
theorem dX12_areThings_13 : decode cX12_areThings 13 = .ok (.ireturn, 1) := by decide +kernel
theorem dX12_sign_0 : decode cX12_sign 0 = .ok (.aload_n 0, 1) := by decide +kernel
theorem dX12_sign_1 : decode cX12_sign 1 = .ok (.iconst 0, 1) := by decide +kernel
theorem dX12_sign_2 : decode cX12_sign 2 = .ok (.putfield 101, 3) := by decide +kernel
theorem dX12_sign_5 : decode cX12_sign 5 = .ok (.aload_n 0, 1) := by decide +kernel
theorem dX12_sign_6 : decode cX12_sign 6 = .ok (.getfield 117, 3) := by decide +kernel
theorem dX12_sign_9 : decode cX12_sign 9 = .ok (.iconst 4, 1) := by decide +kernel
theorem dX12_sign_10 : decode cX12_sign 10 = .ok (.iadd, 1) := by decide +kernel
theorem dX12_sign_11 : decode cX12_sign 11 = .ok (.bipush 80, 2) := by decide +kernel
theorem dX12_sign_13 : decode cX12_sign 13 = .ok (.if_icmp .le 5, 3) := by decide +kernel
theorem dX12_sign_18 : decode cX12_sign 18 = .ok (.iconst 3, 1) := by decide +kernel
theorem dX12_sign_19 : decode cX12_sign 19 = .ok (.istore_n 2, 1) := by decide +kernel
theorem dX12_sign_20 : decode cX12_sign 20 = .ok (.iload_n 2, 1) := by decide +kernel
theorem dX12_sign_21 : decode cX12_sign 21 = .ok (.ifCond .lt 32, 3) := by decide +kernel
theorem dX12_sign_24 : decode cX12_sign 24 = .ok (.aload_n 0, 1) := by decide +kernel
theorem dX12_sign_25 : decode cX12_sign 25 = .ok (.getfield 36, 3) := by decide +kernel
theorem dX12_sign_28 : decode cX12_sign 28 = .ok (.aload_n 0, 1) := by decide +kernel
theorem dX12_sign_29 : decode cX12_sign 29 = .ok (.dup, 1) := by decide +kernel
theorem dX12_sign_30 : decode cX12_sign 30 = .ok (.getfield 117, 3) := by decide +kernel
theorem dX12_sign_33 : decode cX12_sign 33 = .ok (.dup_x1, 1) := by decide +kernel
theorem dX12_sign_34 : decode cX12_sign 34 = .ok (.iconst 1, 1) := by decide +kernel
theorem dX12_sign_35 : decode cX12_sign 35 = .ok (.iadd, 1) := by decide +kernel
theorem dX12_sign_36 : decode cX12_sign 36 = .ok (.putfield 117, 3) := by decide +kernel
theorem dX12_sign_39 : decode cX12_sign 39 = .ok (.iload_n 1, 1) := by decide +kernel
theorem dX12_sign_40 : decode cX12_sign 40 = .ok (.bipush 8, 2) := by decide +kernel
theorem dX12_sign_42 : decode cX12_sign 42 = .ok (.iload_n 2, 1) := by decide +kernel
theorem dX12_sign_43 : decode cX12_sign 43 = .ok (.imul, 1) := by decide +kernel
theorem dX12_sign_44 : decode cX12_sign 44 = .ok (.ishr, 1) := by decide +kernel
theorem dX12_sign_45 : decode cX12_sign 45 = .ok (.i2b, 1) := by decide +kernel
theorem dX12_sign_46 : decode cX12_sign 46 = .ok (.bastore, 1) := by decide +kernel
theorem dX12_sign_47 : decode cX12_sign 47 = .ok (.iinc 2 (-1), 3) := by decide +kernel
theorem dX12_sign_50 : decode cX12_sign 50 = .ok (.goto (-30), 3) := by decide +kernel
theorem dX12_sign_53 : decode cX12_sign 53 = .ok (.aload_n 0, 1) := by decide +kernel
theorem dX12_sign_54 : decode cX12_sign 54 = .ok (.getfield 117, 3) := by decide +kernel
theorem dX12_sign_57 : decode cX12_sign 57 = .ok (.ireturn, 1) := by decide +kernel
theorem dX12_end_0 : decode cX12_end 0 = .ok (.aload_n 0, 1) := by decide +kernel
theorem dX12_end_1 : decode cX12_end 1 = .ok (.iconst 0, 1) := by decide +kernel
theorem dX12_end_2 : decode cX12_end 2 = .ok (.putfield 101, 3) := by decide +kernel
theorem dX12_end_5 : decode cX12_end 5 = .ok (.iload_n 1, 1) := by decide +kernel
theorem dX12_end_6 : decode cX12_end 6 = .ok (.iconst 0, 1) := by decide +kernel
theorem dX12_end_7 : decode cX12_end 7 = .ok (.aload_n 0, 1) := by decide +kernel
theorem dX12_end_8 : decode cX12_end 8 = .ok (.getfield 117, 3) := by decide +kernel
theorem dX12_end_11 : decode cX12_end 11 = .ok (.invokestatic 110, 3) := by decide +kernel
theorem dX12_end_14 : decode cX12_end 14 = .ok (.ifCond .ne 5, 3) := by decide +kernel
theorem dX12_end_17 : decode cX12_end 17 = .ok (.iconst 0, 1) := by decide +kernel
theorem dX12_end_18 : decode cX12_end 18 = .ok (.ireturn, 1) := by decide +kernel
theorem dX12_end_19 : decode cX12_end 19 = .ok (.aload_n 0, 1) := by decide +kernel
theorem dX12_end_20 : decode cX12_end 20 = .ok (.iload_n 1, 1) := by decide +kernel
theorem dX12_end_21 : decode cX12_end 21 = .ok (.putfield 117, 3) := by decide +kernel
theorem dX12_end_24 : decode cX12_end 24 = .ok (.iconst 1, 1) := by decide +kernel
theorem dX12_end_25 : decode cX12_end 25 = .ok (.ireturn, 1) := by decide +kernel
theorem dX12_begin_0 : decode cX12_begin 0 = .ok (.aload_n 0, 1) := by decide +kernel
theorem dX12_begin_1 : decode cX12_begin 1 = .ok (.aload_n 1, 1) := by decide +kernel
theorem dX12_begin_2 : decode cX12_begin 2 = .ok (.putfield 120, 3) := by decide +kernel
theorem dX12_begin_5 : decode cX12_begin 5 = .ok (.aload_n 0, 1) := by decide +kernel
theorem dX12_begin_6 : decode cX12_begin 6 = .ok (.iload_n 2, 1) := by decide +kernel
theorem dX12_begin_7 : decode cX12_begin 7 = .ok (.putfield 123, 3) := by decide +kernel
theorem dX12_begin_10 : decode cX12_begin 10 = .ok (.aload_n 0, 1) := by decide +kernel
theorem dX12_begin_11 : decode cX12_begin 11 = .ok (.iload_n 3, 1) := by decide +kernel
theorem dX12_begin_12 : decode cX12_begin 12 = .ok (.putfield 126, 3) := by decide +kernel
theorem dX12_begin_15 : decode cX12_begin 15 = .ok (.aload_n 0, 1) := by decide +kernel
theorem dX12_begin_16 : decode cX12_begin 16 = .ok (.iconst 0, 1) := by decide +kernel
theorem dX12_begin_17 : decode cX12_begin 17 = .ok (.putfield 129, 3) := by decide +kernel
theorem dX12_begin_20 : decode cX12_begin 20 = .ok (.aload_n 0, 1) := by decide +kernel
theorem dX12_begin_21 : decode cX12_begin 21 = .ok (.iconst (-1), 1) := by decide +kernel
theorem dX12_begin_22 : decode cX12_begin 22 = .ok (.putfield 132, 3) := by decide +kernel
theorem dX12_begin_25 : decode cX12_begin 25 = .ok (.return_, 1) := by decide +kernel
theorem dX12_market_0 : decode cX12_market 0 = .ok (.aload_n 0, 1) := by decide +kernel
theorem dX12_market_1 : decode cX12_market 1 = .ok (.iconst 0, 1) := by decide +kernel
theorem dX12_market_2 : decode cX12_market 2 = .ok (.putfield 101, 3) := by decide +kernel
theorem dX12_market_5 : decode cX12_market 5 = .ok (.aload_n 0, 1) := by decide +kernel
theorem dX12_market_6 : decode cX12_market 6 = .ok (.aload_n 0, 1) := by decide +kernel
theorem dX12_market_7 : decode cX12_market 7 = .ok (.getfield 36, 3) := by decide +kernel
theorem dX12_market_10 : decode cX12_market 10 = .ok (.aload_n 0, 1) := by decide +kernel
theorem dX12_market_11 : decode cX12_market 11 = .ok (.getfield 117, 3) := by decide +kernel
theorem dX12_market_14 : decode cX12_market 14 = .ok (.bipush 76, 2) := by decide +kernel
theorem dX12_market_16 : decode cX12_market 16 = .ok (.invokevirtual 151, 3) := by decide +kernel
theorem dX12_market_19 : decode cX12_market 19 = .ok (.aload_n 0, 1) := by decide +kernel
theorem dX12_market_20 : decode cX12_market 20 = .ok (.iconst 0, 1) := by decide +kernel
theorem dX12_market_21 : decode cX12_market 21 = .ok (.putfield 117, 3) := by decide +kernel
theorem dX12_market_24 : decode cX12_market 24 = .ok (.aload_n 0, 1) := by decide +kernel
theorem dX12_market_25 : decode cX12_market 25 = .ok (.getfield 123, 3) := by decide +kernel
theorem dX12_market_28 : decode cX12_market 28 = .ok (.ifCond .ne 5, 3) := by decide +kernel
theorem dX12_market_31 : decode cX12_market 31 = .ok (.iconst 0, 1) := by decide +kernel
theorem dX12_market_32 : decode cX12_market 32 = .ok (.ireturn, 1) := by decide +kernel
theorem dX12_rule_0 : decode cX12_rule 0 = .ok (.aload_n 0, 1) := by decide +kernel
theorem dX12_rule_1 : decode cX12_rule 1 = .ok (.iconst 0, 1) := by decide +kernel
theorem dX12_rule_2 : decode cX12_rule 2 = .ok (.putfield 101, 3) := by decide +kernel
theorem dX12_rule_5 : decode cX12_rule 5 = .ok (.aload_n 0, 1) := by decide +kernel
theorem dX12_rule_6 : decode cX12_rule 6 = .ok (.getfield 117, 3) := by decide +kernel
theorem dX12_rule_9 : decode cX12_rule 9 = .ok (.istore_n 1, 1) := by decide +kernel
theorem dX12_rule_10 : decode cX12_rule 10 = .ok (.aload_n 0, 1) := by decide +kernel
theorem dX12_rule_11 : decode cX12_rule 11 = .ok (.aload_n 0, 1) := by decide +kernel
theorem dX12_rule_12 : decode cX12_rule 12 = .ok (.getfield 36, 3) := by decide +kernel
theorem dX12_rule_15 : decode cX12_rule 15 = .ok (.iload_n 1, 1) := by decide +kernel
theorem dX12_rule_16 : decode cX12_rule 16 = .ok (.bipush 40, 2) := by decide +kernel
theorem dX12_rule_18 : decode cX12_rule 18 = .ok (.invokevirtual 151, 3) := by decide +kernel
theorem dX12_rule_21 : decode cX12_rule 21 = .ok (.aload_n 0, 1) := by decide +kernel
theorem dX12_rule_22 : decode cX12_rule 22 = .ok (.iconst 0, 1) := by decide +kernel
theorem dX12_rule_23 : decode cX12_rule 23 = .ok (.putfield 117, 3) := by decide +kernel
theorem dX12_rule_26 : decode cX12_rule 26 = .ok (.aload_n 0, 1) := by decide +kernel
theorem dX12_rule_27 : decode cX12_rule 27 = .ok (.iconst (-1), 1) := by decide +kernel
theorem dX12_rule_28 : decode cX12_rule 28 = .ok (.putfield 49, 3) := by decide +kernel
theorem dX12_rule_31 : decode cX12_rule 31 = .ok (.iload_n 1, 1) := by decide +kernel
theorem dX12_rule_32 : decode cX12_rule 32 = .ok (.ifCond .le 39, 3) := by decide +kernel
theorem dX12_rule_71 : decode cX12_rule 71 = .ok (.iconst 0, 1) := by decide +kernel
theorem dX12_rule_72 : decode cX12_rule 72 = .ok (.istore_n 2, 1) := by decide +kernel
theorem dX12_rule_73 : decode cX12_rule 73 = .ok (.iload_n 2, 1) := by decide +kernel
theorem dX12_rule_74 : decode cX12_rule 74 = .ok (.iload_n 1, 1) := by decide +kernel
theorem dX12_rule_75 : decode cX12_rule 75 = .ok (.if_icmp .ge 21, 3) := by decide +kernel
theorem dX12_rule_96 : decode cX12_rule 96 = .ok (.aload_n 0, 1) := by decide +kernel
theorem dX12_rule_97 : decode cX12_rule 97 = .ok (.iload_n 1, 1) := by decide +kernel
theorem dX12_rule_98 : decode cX12_rule 98 = .ok (.putfield 205, 3) := by decide +kernel
theorem dX12_rule_101 : decode cX12_rule 101 = .ok (.iconst 0, 1) := by decide +kernel
theorem dX12_rule_102 : decode cX12_rule 102 = .ok (.ireturn, 1) := by decide +kernel
theorem dX12_of_0 : decode cX12_of 0 = .ok (.aload_n 0, 1) := by decide +kernel
theorem dX12_of_1 : decode cX12_of 1 = .ok (.iconst 0, 1) := by decide +kernel
theorem dX12_of_2 : decode cX12_of 2 = .ok (.putfield 101, 3) := by decide +kernel
theorem dX12_of_5 : decode cX12_of 5 = .ok (.aload_n 0, 1) := by decide +kernel
theorem dX12_of_6 : decode cX12_of 6 = .ok (.iload_n 1, 1) := by decide +kernel
theorem dX12_of_7 : decode cX12_of 7 = .ok (.invokevirtual 223, 3) := by decide +kernel
theorem dX12_of_10 : decode cX12_of 10 = .ok (.ifCond .eq 12, 3) := by decide +kernel
theorem dX12_of_22 : decode cX12_of 22 = .ok (.aload_n 0, 1) := by decide +kernel
theorem dX12_of_23 : decode cX12_of 23 = .ok (.invokevirtual 227, 3) := by decide +kernel
theorem dX12_of_26 : decode cX12_of 26 = .ok (.ireturn, 1) := by decide +kernel
theorem dX12_together_0 : decode cX12_together 0 = .ok (.iconst 0, 1) := by decide +kernel
theorem dX12_together_1 : decode cX12_together 1 = .ok (.istore_n 1, 1) := by decide +kernel
theorem dX12_together_2 : decode cX12_together 2 = .ok (.iconst 0, 1) := by decide +kernel
theorem dX12_together_3 : decode cX12_together 3 = .ok (.istore_n 2, 1) := by decide +kernel
theorem dX12_together_4 : decode cX12_together 4 = .ok (.iload_n 2, 1) := by decide +kernel
theorem dX12_together_5 : decode cX12_together 5 = .ok (.aload_n 0, 1) := by decide +kernel
theorem dX12_together_6 : decode cX12_together 6 = .ok (.getfield 114, 3) := by decide +kernel
theorem dX12_together_9 : decode cX12_together 9 = .ok (.if_icmp .ge 27, 3) := by decide +kernel
theorem dX12_together_36 : decode cX12_together 36 = .ok (.iload_n 1, 1) := by decide +kernel
theorem dX12_together_37 : decode cX12_together 37 = .ok (.ireturn, 1) := by decide +kernel
theorem dX12_thing_0 : decode cX12_thing 0 = .ok (.aload_n 0, 1) := by decide +kernel
theorem dX12_thing_1 : decode cX12_thing 1 = .ok (.iconst 0, 1) := by decide +kernel
theorem dX12_thing_2 : decode cX12_thing 2 = .ok (.putfield 101, 3) := by decide +kernel
theorem dX12_thing_5 : decode cX12_thing 5 = .ok (.aload_n 0, 1) := by decide +kernel
theorem dX12_thing_6 : decode cX12_thing 6 = .ok (.iload_n 1, 1) := by decide +kernel
theorem dX12_thing_7 : decode cX12_thing 7 = .ok (.invokevirtual 239, 3) := by decide +kernel
theorem dX12_thing_10 : decode cX12_thing 10 = .ok (.ifCond .eq 12, 3) := by decide +kernel
theorem dX12_thing_22 : decode cX12_thing 22 = .ok (.aload_n 0, 1) := by decide +kernel
theorem dX12_thing_23 : decode cX12_thing 23 = .ok (.invokevirtual 227, 3) := by decide +kernel
theorem dX12_thing_26 : decode cX12_thing 26 = .ok (.ireturn, 1) := by decide +kernel
theorem dX12_between_0 : decode cX12_between 0 = .ok (.aload_n 0, 1) := by decide +kernel
theorem dX12_between_1 : decode cX12_between 1 = .ok (.iconst 0, 1) := by decide +kernel
theorem dX12_between_2 : decode cX12_between 2 = .ok (.putfield 101, 3) := by decide +kernel
theorem dX12_between_5 : decode cX12_between 5 = .ok (.aload_n 0, 1) := by decide +kernel
theorem dX12_between_6 : decode cX12_between 6 = .ok (.iload_n 1, 1) := by decide +kernel
theorem dX12_between_7 : decode cX12_between 7 = .ok (.invokevirtual 223, 3) := by decide +kernel
theorem dX12_between_10 : decode cX12_between 10 = .ok (.ifCond .eq 25, 3) := by decide +kernel
theorem dX12_between_35 : decode cX12_between 35 = .ok (.iconst (-1), 1) := by decide +kernel
theorem dX12_between_36 : decode cX12_between 36 = .ok (.ireturn, 1) := by decide +kernel
theorem dX12_law_0 : decode cX12_law 0 = .ok (.aload_n 0, 1) := by decide +kernel
theorem dX12_law_1 : decode cX12_law 1 = .ok (.iconst 0, 1) := by decide +kernel
theorem dX12_law_2 : decode cX12_law 2 = .ok (.putfield 101, 3) := by decide +kernel
theorem dX12_law_5 : decode cX12_law 5 = .ok (.iload_n 1, 1) := by decide +kernel
theorem dX12_law_6 : decode cX12_law 6 = .ok (.iconst 0, 1) := by decide +kernel
theorem dX12_law_7 : decode cX12_law 7 = .ok (.iconst 1, 1) := by decide +kernel
theorem dX12_law_8 : decode cX12_law 8 = .ok (.invokestatic 110, 3) := by decide +kernel
theorem dX12_law_11 : decode cX12_law 11 = .ok (.ifCond .eq 21, 3) := by decide +kernel
theorem dX12_law_14 : decode cX12_law 14 = .ok (.iload_n 2, 1) := by decide +kernel
theorem dX12_law_15 : decode cX12_law 15 = .ok (.iconst 0, 1) := by decide +kernel
theorem dX12_law_16 : decode cX12_law 16 = .ok (.iload_n 1, 1) := by decide +kernel
theorem dX12_law_17 : decode cX12_law 17 = .ok (.ifCond .ne 7, 3) := by decide +kernel
theorem dX12_law_20 : decode cX12_law 20 = .ok (.iconst 2, 1) := by decide +kernel
theorem dX12_law_21 : decode cX12_law 21 = .ok (.goto 5, 3) := by decide +kernel
theorem dX12_law_24 : decode cX12_law 24 = .ok (.bipush 99, 2) := by decide +kernel
theorem dX12_law_26 : decode cX12_law 26 = .ok (.invokestatic 110, 3) := by decide +kernel
theorem dX12_law_29 : decode cX12_law 29 = .ok (.ifCond .ne 5, 3) := by decide +kernel
theorem dX12_law_32 : decode cX12_law 32 = .ok (.iconst (-1), 1) := by decide +kernel
theorem dX12_law_33 : decode cX12_law 33 = .ok (.ireturn, 1) := by decide +kernel
theorem dX12_law_34 : decode cX12_law 34 = .ok (.aload_n 0, 1) := by decide +kernel
theorem dX12_law_35 : decode cX12_law 35 = .ok (.getfield 29, 3) := by decide +kernel
theorem dX12_law_38 : decode cX12_law 38 = .ok (.iload_n 1, 1) := by decide +kernel
theorem dX12_law_39 : decode cX12_law 39 = .ok (.iaload, 1) := by decide +kernel
theorem dX12_law_40 : decode cX12_law 40 = .ok (.istore_n 3, 1) := by decide +kernel
theorem dX12_law_41 : decode cX12_law 41 = .ok (.aload_n 0, 1) := by decide +kernel
theorem dX12_law_42 : decode cX12_law 42 = .ok (.getfield 29, 3) := by decide +kernel
theorem dX12_law_45 : decode cX12_law 45 = .ok (.iload_n 1, 1) := by decide +kernel
theorem dX12_law_46 : decode cX12_law 46 = .ok (.iload_n 2, 1) := by decide +kernel
theorem dX12_law_47 : decode cX12_law 47 = .ok (.iastore, 1) := by decide +kernel
theorem dX12_law_48 : decode cX12_law 48 = .ok (.iload_n 3, 1) := by decide +kernel
theorem dX12_law_49 : decode cX12_law 49 = .ok (.ireturn, 1) := by decide +kernel
theorem dX12_sheet_0 : decode cX12_sheet 0 = .ok (.aload_n 0, 1) := by decide +kernel
theorem dX12_sheet_1 : decode cX12_sheet 1 = .ok (.iconst 0, 1) := by decide +kernel
theorem dX12_sheet_2 : decode cX12_sheet 2 = .ok (.putfield 101, 3) := by decide +kernel
theorem dX12_sheet_5 : decode cX12_sheet 5 = .ok (.iload_n 1, 1) := by decide +kernel
theorem dX12_sheet_6 : decode cX12_sheet 6 = .ok (.iconst 0, 1) := by decide +kernel
theorem dX12_sheet_7 : decode cX12_sheet 7 = .ok (.iconst 3, 1) := by decide +kernel
theorem dX12_sheet_8 : decode cX12_sheet 8 = .ok (.invokestatic 110, 3) := by decide +kernel
theorem dX12_sheet_11 : decode cX12_sheet 11 = .ok (.ifCond .eq 9, 3) := by decide +kernel
theorem dX12_sheet_14 : decode cX12_sheet 14 = .ok (.iload_n 2, 1) := by decide +kernel
theorem dX12_sheet_15 : decode cX12_sheet 15 = .ok (.bipush 10, 2) := by decide +kernel
theorem dX12_sheet_17 : decode cX12_sheet 17 = .ok (.if_icmp .le 5, 3) := by decide +kernel
theorem dX12_sheet_20 : decode cX12_sheet 20 = .ok (.iconst (-1), 1) := by decide +kernel
theorem dX12_sheet_21 : decode cX12_sheet 21 = .ok (.ireturn, 1) := by decide +kernel
theorem dX12_sheet_22 : decode cX12_sheet 22 = .ok (.iload_n 1, 1) := by decide +kernel
theorem dX12_sheet_23 : decode cX12_sheet 23 = .ok (.iconst 3, 1) := by decide +kernel
theorem dX12_sheet_24 : decode cX12_sheet 24 = .ok (.if_icmp .ge 10, 3) := by decide +kernel
theorem dX12_sheet_27 : decode cX12_sheet 27 = .ok (.iload_n 2, 1) := by decide +kernel
theorem dX12_sheet_28 : decode cX12_sheet 28 = .ok (.ifCond .ge 6, 3) := by decide +kernel
theorem dX12_sheet_31 : decode cX12_sheet 31 = .ok (.bipush (-2), 2) := by decide +kernel
theorem dX12_sheet_33 : decode cX12_sheet 33 = .ok (.ireturn, 1) := by decide +kernel
theorem dX12_sheet_34 : decode cX12_sheet 34 = .ok (.iconst 0, 1) := by decide +kernel
theorem dX12_sheet_35 : decode cX12_sheet 35 = .ok (.istore 5, 2) := by decide +kernel
theorem dX12_sheet_37 : decode cX12_sheet 37 = .ok (.iload_n 3, 1) := by decide +kernel
theorem dX12_sheet_38 : decode cX12_sheet 38 = .ok (.istore 6, 2) := by decide +kernel
theorem dX12_sheet_40 : decode cX12_sheet 40 = .ok (.iconst 0, 1) := by decide +kernel
theorem dX12_sheet_41 : decode cX12_sheet 41 = .ok (.istore 7, 2) := by decide +kernel
theorem dX12_sheet_43 : decode cX12_sheet 43 = .ok (.iload 7, 2) := by decide +kernel
theorem dX12_sheet_45 : decode cX12_sheet 45 = .ok (.aload_n 0, 1) := by decide +kernel
theorem dX12_sheet_46 : decode cX12_sheet 46 = .ok (.getfield 114, 3) := by decide +kernel
theorem dX12_sheet_49 : decode cX12_sheet 49 = .ok (.if_icmp .ge 86, 3) := by decide +kernel
theorem dX12_sheet_135 : decode cX12_sheet 135 = .ok (.iload_n 1, 1) := by decide +kernel
theorem dX12_sheet_136 : decode cX12_sheet 136 = .ok (.iconst 3, 1) := by decide +kernel
theorem dX12_sheet_137 : decode cX12_sheet 137 = .ok (.if_icmp .ne 8, 3) := by decide +kernel
theorem dX12_sheet_140 : decode cX12_sheet 140 = .ok (.bipush (-3), 2) := by decide +kernel
theorem dX12_sheet_142 : decode cX12_sheet 142 = .ok (.goto 5, 3) := by decide +kernel
theorem dX12_sheet_145 : decode cX12_sheet 145 = .ok (.iload 5, 2) := by decide +kernel
theorem dX12_sheet_147 : decode cX12_sheet 147 = .ok (.ireturn, 1) := by decide +kernel
theorem dX12_worth_0 : decode cX12_worth 0 = .ok (.aload_n 0, 1) := by decide +kernel
theorem dX12_worth_1 : decode cX12_worth 1 = .ok (.iconst 0, 1) := by decide +kernel
theorem dX12_worth_2 : decode cX12_worth 2 = .ok (.putfield 101, 3) := by decide +kernel
theorem dX12_worth_5 : decode cX12_worth 5 = .ok (.aload_n 0, 1) := by decide +kernel
theorem dX12_worth_6 : decode cX12_worth 6 = .ok (.iload_n 1, 1) := by decide +kernel
theorem dX12_worth_7 : decode cX12_worth 7 = .ok (.invokevirtual 242, 3) := by decide +kernel
theorem dX12_worth_10 : decode cX12_worth 10 = .ok (.ifCond .eq 11, 3) := by decide +kernel
theorem dX12_worth_21 : decode cX12_worth 21 = .ok (.iconst (-1), 1) := by decide +kernel
theorem dX12_worth_22 : decode cX12_worth 22 = .ok (.ireturn, 1) := by decide +kernel
theorem dX12_can_0 : decode cX12_can 0 = .ok (.aload_n 0, 1) := by decide +kernel
theorem dX12_can_1 : decode cX12_can 1 = .ok (.iconst 0, 1) := by decide +kernel
theorem dX12_can_2 : decode cX12_can 2 = .ok (.putfield 101, 3) := by decide +kernel
theorem dX12_can_5 : decode cX12_can 5 = .ok (.aload_n 0, 1) := by decide +kernel
theorem dX12_can_6 : decode cX12_can 6 = .ok (.iload_n 1, 1) := by decide +kernel
theorem dX12_can_7 : decode cX12_can 7 = .ok (.invokevirtual 242, 3) := by decide +kernel
theorem dX12_can_10 : decode cX12_can 10 = .ok (.ifCond .eq 11, 3) := by decide +kernel
theorem dX12_can_21 : decode cX12_can 21 = .ok (.iconst (-1), 1) := by decide +kernel
theorem dX12_can_22 : decode cX12_can 22 = .ok (.ireturn, 1) := by decide +kernel
theorem dX12_lay_0 : decode cX12_lay 0 = .ok (.iconst 0, 1) := by decide +kernel
theorem dX12_lay_1 : decode cX12_lay 1 = .ok (.istore_n 3, 1) := by decide +kernel
theorem dX12_lay_2 : decode cX12_lay 2 = .ok (.iload_n 3, 1) := by decide +kernel
theorem dX12_lay_3 : decode cX12_lay 3 = .ok (.bipush 8, 2) := by decide +kernel
theorem dX12_lay_5 : decode cX12_lay 5 = .ok (.if_icmp .ge 20, 3) := by decide +kernel
theorem dX12_lay_8 : decode cX12_lay 8 = .ok (.aload_n 1, 1) := by decide +kernel
theorem dX12_lay_9 : decode cX12_lay 9 = .ok (.iload_n 2, 1) := by decide +kernel
theorem dX12_lay_10 : decode cX12_lay 10 = .ok (.iload_n 3, 1) := by decide +kernel
theorem dX12_lay_11 : decode cX12_lay 11 = .ok (.iadd, 1) := by decide +kernel
theorem dX12_lay_12 : decode cX12_lay 12 = .ok (.aload_n 0, 1) := by decide +kernel
theorem dX12_lay_13 : decode cX12_lay 13 = .ok (.getfield 9, 3) := by decide +kernel
theorem dX12_lay_16 : decode cX12_lay 16 = .ok (.iload_n 3, 1) := by decide +kernel
theorem dX12_lay_17 : decode cX12_lay 17 = .ok (.iaload, 1) := by decide +kernel
theorem dX12_lay_18 : decode cX12_lay 18 = .ok (.iastore, 1) := by decide +kernel
theorem dX12_lay_19 : decode cX12_lay 19 = .ok (.iinc 3 1, 3) := by decide +kernel
theorem dX12_lay_22 : decode cX12_lay 22 = .ok (.goto (-20), 3) := by decide +kernel
theorem dX12_lay_25 : decode cX12_lay 25 = .ok (.iconst 0, 1) := by decide +kernel
theorem dX12_lay_26 : decode cX12_lay 26 = .ok (.istore_n 3, 1) := by decide +kernel
theorem dX12_lay_27 : decode cX12_lay 27 = .ok (.iload_n 3, 1) := by decide +kernel
theorem dX12_lay_28 : decode cX12_lay 28 = .ok (.bipush 20, 2) := by decide +kernel
theorem dX12_lay_30 : decode cX12_lay 30 = .ok (.if_icmp .ge 23, 3) := by decide +kernel
theorem dX12_lay_33 : decode cX12_lay 33 = .ok (.aload_n 1, 1) := by decide +kernel
theorem dX12_lay_34 : decode cX12_lay 34 = .ok (.iload_n 2, 1) := by decide +kernel
theorem dX12_lay_35 : decode cX12_lay 35 = .ok (.bipush 8, 2) := by decide +kernel
theorem dX12_lay_37 : decode cX12_lay 37 = .ok (.iadd, 1) := by decide +kernel
theorem dX12_lay_38 : decode cX12_lay 38 = .ok (.iload_n 3, 1) := by decide +kernel
theorem dX12_lay_39 : decode cX12_lay 39 = .ok (.iadd, 1) := by decide +kernel
theorem dX12_lay_40 : decode cX12_lay 40 = .ok (.aload_n 0, 1) := by decide +kernel
theorem dX12_lay_41 : decode cX12_lay 41 = .ok (.getfield 26, 3) := by decide +kernel
theorem dX12_lay_44 : decode cX12_lay 44 = .ok (.iload_n 3, 1) := by decide +kernel
theorem dX12_lay_45 : decode cX12_lay 45 = .ok (.iaload, 1) := by decide +kernel
theorem dX12_lay_46 : decode cX12_lay 46 = .ok (.iastore, 1) := by decide +kernel
theorem dX12_lay_47 : decode cX12_lay 47 = .ok (.iinc 3 1, 3) := by decide +kernel
theorem dX12_lay_50 : decode cX12_lay 50 = .ok (.goto (-23), 3) := by decide +kernel
theorem dX12_lay_53 : decode cX12_lay 53 = .ok (.return_, 1) := by decide +kernel
theorem dX12_bring_0 : decode cX12_bring 0 = .ok (.iconst 0, 1) := by decide +kernel
theorem dX12_bring_1 : decode cX12_bring 1 = .ok (.istore_n 3, 1) := by decide +kernel
theorem dX12_bring_2 : decode cX12_bring 2 = .ok (.iload_n 3, 1) := by decide +kernel
theorem dX12_bring_3 : decode cX12_bring 3 = .ok (.aload_n 0, 1) := by decide +kernel
theorem dX12_bring_4 : decode cX12_bring 4 = .ok (.getfield 107, 3) := by decide +kernel
theorem dX12_bring_7 : decode cX12_bring 7 = .ok (.if_icmp .ge 20, 3) := by decide +kernel
theorem dX12_bring_27 : decode cX12_bring 27 = .ok (.iconst 0, 1) := by decide +kernel
theorem dX12_bring_28 : decode cX12_bring 28 = .ok (.istore_n 3, 1) := by decide +kernel
theorem dX12_bring_29 : decode cX12_bring 29 = .ok (.iload_n 3, 1) := by decide +kernel
theorem dX12_bring_30 : decode cX12_bring 30 = .ok (.iconst 2, 1) := by decide +kernel
theorem dX12_bring_31 : decode cX12_bring 31 = .ok (.aload_n 0, 1) := by decide +kernel
theorem dX12_bring_32 : decode cX12_bring 32 = .ok (.getfield 114, 3) := by decide +kernel
theorem dX12_bring_35 : decode cX12_bring 35 = .ok (.imul, 1) := by decide +kernel
theorem dX12_bring_36 : decode cX12_bring 36 = .ok (.if_icmp .ge 23, 3) := by decide +kernel
theorem dX12_bring_59 : decode cX12_bring 59 = .ok (.return_, 1) := by decide +kernel
theorem dX12_sell_0 : decode cX12_sell 0 = .ok (.aload_n 0, 1) := by decide +kernel
theorem dX12_sell_1 : decode cX12_sell 1 = .ok (.iconst 0, 1) := by decide +kernel
theorem dX12_sell_2 : decode cX12_sell 2 = .ok (.putfield 101, 3) := by decide +kernel
theorem dX12_sell_5 : decode cX12_sell 5 = .ok (.aload_n 0, 1) := by decide +kernel
theorem dX12_sell_6 : decode cX12_sell 6 = .ok (.iload_n 1, 1) := by decide +kernel
theorem dX12_sell_7 : decode cX12_sell 7 = .ok (.invokevirtual 242, 3) := by decide +kernel
theorem dX12_sell_10 : decode cX12_sell 10 = .ok (.ifCond .eq 11, 3) := by decide +kernel
theorem dX12_sell_21 : decode cX12_sell 21 = .ok (.iconst (-1), 1) := by decide +kernel
theorem dX12_sell_22 : decode cX12_sell 22 = .ok (.ireturn, 1) := by decide +kernel
theorem dX12_undo_0 : decode cX12_undo 0 = .ok (.aload_n 0, 1) := by decide +kernel
theorem dX12_undo_1 : decode cX12_undo 1 = .ok (.iconst 0, 1) := by decide +kernel
theorem dX12_undo_2 : decode cX12_undo 2 = .ok (.putfield 101, 3) := by decide +kernel
theorem dX12_undo_5 : decode cX12_undo 5 = .ok (.aload_n 0, 1) := by decide +kernel
theorem dX12_undo_6 : decode cX12_undo 6 = .ok (.getfield 174, 3) := by decide +kernel
theorem dX12_undo_9 : decode cX12_undo 9 = .ok (.ifCond .ne 5, 3) := by decide +kernel
theorem dX12_undo_12 : decode cX12_undo 12 = .ok (.iconst (-1), 1) := by decide +kernel
theorem dX12_undo_13 : decode cX12_undo 13 = .ok (.ireturn, 1) := by decide +kernel
theorem dX12_judge_0 : decode cX12_judge 0 = .ok (.aload_n 0, 1) := by decide +kernel
theorem dX12_judge_1 : decode cX12_judge 1 = .ok (.iconst 0, 1) := by decide +kernel
theorem dX12_judge_2 : decode cX12_judge 2 = .ok (.putfield 101, 3) := by decide +kernel
theorem dX12_judge_5 : decode cX12_judge 5 = .ok (.iload_n 1, 1) := by decide +kernel
theorem dX12_judge_6 : decode cX12_judge 6 = .ok (.iconst 0, 1) := by decide +kernel
theorem dX12_judge_7 : decode cX12_judge 7 = .ok (.iconst 3, 1) := by decide +kernel
theorem dX12_judge_8 : decode cX12_judge 8 = .ok (.invokestatic 110, 3) := by decide +kernel
theorem dX12_judge_11 : decode cX12_judge 11 = .ok (.ifCond .ne 5, 3) := by decide +kernel
theorem dX12_judge_14 : decode cX12_judge 14 = .ok (.iconst (-1), 1) := by decide +kernel
theorem dX12_judge_15 : decode cX12_judge 15 = .ok (.ireturn, 1) := by decide +kernel
theorem dX12_judge_16 : decode cX12_judge 16 = .ok (.aload_n 0, 1) := by decide +kernel
theorem dX12_judge_17 : decode cX12_judge 17 = .ok (.aload_n 0, 1) := by decide +kernel
theorem dX12_judge_18 : decode cX12_judge 18 = .ok (.getfield 55, 3) := by decide +kernel
theorem dX12_judge_21 : decode cX12_judge 21 = .ok (.iconst 0, 1) := by decide +kernel
theorem dX12_judge_22 : decode cX12_judge 22 = .ok (.invokevirtual 267, 3) := by decide +kernel
theorem dX12_judge_25 : decode cX12_judge 25 = .ok (.iconst 0, 1) := by decide +kernel
theorem dX12_judge_26 : decode cX12_judge 26 = .ok (.istore_n 3, 1) := by decide +kernel
theorem dX12_judge_27 : decode cX12_judge 27 = .ok (.bipush (-2), 2) := by decide +kernel
theorem dX12_judge_29 : decode cX12_judge 29 = .ok (.istore 4, 2) := by decide +kernel
theorem dX12_judge_31 : decode cX12_judge 31 = .ok (.iconst 0, 1) := by decide +kernel
theorem dX12_judge_32 : decode cX12_judge 32 = .ok (.istore 5, 2) := by decide +kernel
theorem dX12_judge_34 : decode cX12_judge 34 = .ok (.iload 5, 2) := by decide +kernel
theorem dX12_judge_36 : decode cX12_judge 36 = .ok (.iload_n 1, 1) := by decide +kernel
theorem dX12_judge_37 : decode cX12_judge 37 = .ok (.if_icmp .ge 105, 3) := by decide +kernel
theorem dX12_judge_40 : decode cX12_judge 40 = .ok (.iload 4, 2) := by decide +kernel
theorem dX12_judge_42 : decode cX12_judge 42 = .ok (.bipush (-2), 2) := by decide +kernel
theorem dX12_judge_44 : decode cX12_judge 44 = .ok (.if_icmp .ne 98, 3) := by decide +kernel
theorem dX12_judge_47 : decode cX12_judge 47 = .ok (.iload_n 2, 1) := by decide +kernel
theorem dX12_judge_48 : decode cX12_judge 48 = .ok (.bipush 10, 2) := by decide +kernel
theorem dX12_judge_50 : decode cX12_judge 50 = .ok (.iload 5, 2) := by decide +kernel
theorem dX12_judge_52 : decode cX12_judge 52 = .ok (.imul, 1) := by decide +kernel
theorem dX12_judge_53 : decode cX12_judge 53 = .ok (.ishr, 1) := by decide +kernel
theorem dX12_judge_54 : decode cX12_judge 54 = .ok (.sipush 1023, 3) := by decide +kernel
theorem dX12_judge_57 : decode cX12_judge 57 = .ok (.iand, 1) := by decide +kernel
theorem dX12_judge_58 : decode cX12_judge 58 = .ok (.istore 6, 2) := by decide +kernel
theorem dX12_judge_60 : decode cX12_judge 60 = .ok (.iload 6, 2) := by decide +kernel
theorem dX12_judge_62 : decode cX12_judge 62 = .ok (.bipush 10, 2) := by decide +kernel
theorem dX12_judge_64 : decode cX12_judge 64 = .ok (.idiv, 1) := by decide +kernel
theorem dX12_judge_65 : decode cX12_judge 65 = .ok (.istore 7, 2) := by decide +kernel
theorem dX12_judge_67 : decode cX12_judge 67 = .ok (.iload 6, 2) := by decide +kernel
theorem dX12_judge_69 : decode cX12_judge 69 = .ok (.bipush 10, 2) := by decide +kernel
theorem dX12_judge_71 : decode cX12_judge 71 = .ok (.irem, 1) := by decide +kernel
theorem dX12_judge_72 : decode cX12_judge 72 = .ok (.istore 8, 2) := by decide +kernel
theorem dX12_judge_74 : decode cX12_judge 74 = .ok (.aload_n 0, 1) := by decide +kernel
theorem dX12_judge_75 : decode cX12_judge 75 = .ok (.iload 7, 2) := by decide +kernel
theorem dX12_judge_77 : decode cX12_judge 77 = .ok (.invokevirtual 242, 3) := by decide +kernel
theorem dX12_judge_80 : decode cX12_judge 80 = .ok (.ifCond .eq 34, 3) := by decide +kernel
theorem dX12_judge_114 : decode cX12_judge 114 = .ok (.iload 5, 2) := by decide +kernel
theorem dX12_judge_116 : decode cX12_judge 116 = .ok (.istore 4, 2) := by decide +kernel
theorem dX12_judge_118 : decode cX12_judge 118 = .ok (.goto 18, 3) := by decide +kernel
theorem dX12_judge_136 : decode cX12_judge 136 = .ok (.iinc 5 1, 3) := by decide +kernel
theorem dX12_judge_139 : decode cX12_judge 139 = .ok (.goto (-105), 3) := by decide +kernel
theorem dX12_judge_142 : decode cX12_judge 142 = .ok (.aload_n 0, 1) := by decide +kernel
theorem dX12_judge_143 : decode cX12_judge 143 = .ok (.aload_n 0, 1) := by decide +kernel
theorem dX12_judge_144 : decode cX12_judge 144 = .ok (.getfield 55, 3) := by decide +kernel
theorem dX12_judge_147 : decode cX12_judge 147 = .ok (.iconst 0, 1) := by decide +kernel
theorem dX12_judge_148 : decode cX12_judge 148 = .ok (.invokevirtual 277, 3) := by decide +kernel
theorem dX12_judge_151 : decode cX12_judge 151 = .ok (.aload_n 0, 1) := by decide +kernel
theorem dX12_judge_152 : decode cX12_judge 152 = .ok (.iconst 0, 1) := by decide +kernel
theorem dX12_judge_153 : decode cX12_judge 153 = .ok (.putfield 104, 3) := by decide +kernel
theorem dX12_judge_156 : decode cX12_judge 156 = .ok (.aload_n 0, 1) := by decide +kernel
theorem dX12_judge_157 : decode cX12_judge 157 = .ok (.iload_n 3, 1) := by decide +kernel
theorem dX12_judge_158 : decode cX12_judge 158 = .ok (.invokevirtual 264, 3) := by decide +kernel
theorem dX12_judge_161 : decode cX12_judge 161 = .ok (.iload 4, 2) := by decide +kernel
theorem dX12_judge_163 : decode cX12_judge 163 = .ok (.ireturn, 1) := by decide +kernel
theorem dX12_findOpen_0 : decode cX12_findOpen 0 = .ok (.aload_n 0, 1) := by decide +kernel
theorem dX12_findOpen_1 : decode cX12_findOpen 1 = .ok (.iconst 0, 1) := by decide +kernel
theorem dX12_findOpen_2 : decode cX12_findOpen 2 = .ok (.putfield 280, 3) := by decide +kernel
theorem dX12_findOpen_5 : decode cX12_findOpen 5 = .ok (.aload_n 0, 1) := by decide +kernel
theorem dX12_findOpen_6 : decode cX12_findOpen 6 = .ok (.iconst (-1), 1) := by decide +kernel
theorem dX12_findOpen_7 : decode cX12_findOpen 7 = .ok (.putfield 283, 3) := by decide +kernel
theorem dX12_findOpen_10 : decode cX12_findOpen 10 = .ok (.aload_n 0, 1) := by decide +kernel
theorem dX12_findOpen_11 : decode cX12_findOpen 11 = .ok (.iconst 0, 1) := by decide +kernel
theorem dX12_findOpen_12 : decode cX12_findOpen 12 = .ok (.putfield 286, 3) := by decide +kernel
theorem dX12_findOpen_15 : decode cX12_findOpen 15 = .ok (.iconst 0, 1) := by decide +kernel
theorem dX12_findOpen_16 : decode cX12_findOpen 16 = .ok (.istore_n 1, 1) := by decide +kernel
theorem dX12_findOpen_17 : decode cX12_findOpen 17 = .ok (.iload_n 1, 1) := by decide +kernel
theorem dX12_findOpen_18 : decode cX12_findOpen 18 = .ok (.iconst 2, 1) := by decide +kernel
theorem dX12_findOpen_19 : decode cX12_findOpen 19 = .ok (.aload_n 0, 1) := by decide +kernel
theorem dX12_findOpen_20 : decode cX12_findOpen 20 = .ok (.getfield 114, 3) := by decide +kernel
theorem dX12_findOpen_23 : decode cX12_findOpen 23 = .ok (.imul, 1) := by decide +kernel
theorem dX12_findOpen_24 : decode cX12_findOpen 24 = .ok (.if_icmp .ge 106, 3) := by decide +kernel
theorem dX12_findOpen_130 : decode cX12_findOpen 130 = .ok (.return_, 1) := by decide +kernel
theorem dX12_open_0 : decode cX12_open 0 = .ok (.aload_n 0, 1) := by decide +kernel
theorem dX12_open_1 : decode cX12_open 1 = .ok (.iconst 0, 1) := by decide +kernel
theorem dX12_open_2 : decode cX12_open 2 = .ok (.putfield 101, 3) := by decide +kernel
theorem dX12_open_5 : decode cX12_open 5 = .ok (.aload_n 0, 1) := by decide +kernel
theorem dX12_open_6 : decode cX12_open 6 = .ok (.invokevirtual 289, 3) := by decide +kernel
theorem dX12_open_9 : decode cX12_open 9 = .ok (.aload_n 0, 1) := by decide +kernel
theorem dX12_open_10 : decode cX12_open 10 = .ok (.iconst 0, 1) := by decide +kernel
theorem dX12_open_11 : decode cX12_open 11 = .ok (.putfield 104, 3) := by decide +kernel
theorem dX12_open_14 : decode cX12_open 14 = .ok (.aload_n 0, 1) := by decide +kernel
theorem dX12_open_15 : decode cX12_open 15 = .ok (.getfield 280, 3) := by decide +kernel
theorem dX12_open_18 : decode cX12_open 18 = .ok (.ifCond .le 19, 3) := by decide +kernel
theorem dX12_open_37 : decode cX12_open 37 = .ok (.aload_n 0, 1) := by decide +kernel
theorem dX12_open_38 : decode cX12_open 38 = .ok (.getfield 280, 3) := by decide +kernel
theorem dX12_open_41 : decode cX12_open 41 = .ok (.ireturn, 1) := by decide +kernel
theorem dX12_run_0 : decode cX12_run 0 = .ok (.aload_n 0, 1) := by decide +kernel
theorem dX12_run_1 : decode cX12_run 1 = .ok (.iconst 0, 1) := by decide +kernel
theorem dX12_run_2 : decode cX12_run 2 = .ok (.putfield 101, 3) := by decide +kernel
theorem dX12_run_5 : decode cX12_run 5 = .ok (.iload_n 1, 1) := by decide +kernel
theorem dX12_run_6 : decode cX12_run 6 = .ok (.iconst 0, 1) := by decide +kernel
theorem dX12_run_7 : decode cX12_run 7 = .ok (.iconst 2, 1) := by decide +kernel
theorem dX12_run_8 : decode cX12_run 8 = .ok (.invokestatic 110, 3) := by decide +kernel
theorem dX12_run_11 : decode cX12_run 11 = .ok (.ifCond .eq 13, 3) := by decide +kernel
theorem dX12_run_14 : decode cX12_run 14 = .ok (.iload_n 2, 1) := by decide +kernel
theorem dX12_run_15 : decode cX12_run 15 = .ok (.iconst 0, 1) := by decide +kernel
theorem dX12_run_16 : decode cX12_run 16 = .ok (.bipush 100, 2) := by decide +kernel
theorem dX12_run_18 : decode cX12_run 18 = .ok (.invokestatic 110, 3) := by decide +kernel
theorem dX12_run_21 : decode cX12_run 21 = .ok (.ifCond .ne 5, 3) := by decide +kernel
theorem dX12_run_24 : decode cX12_run 24 = .ok (.iconst (-1), 1) := by decide +kernel
theorem dX12_run_25 : decode cX12_run 25 = .ok (.ireturn, 1) := by decide +kernel
theorem dX12_run_26 : decode cX12_run 26 = .ok (.iconst 0, 1) := by decide +kernel
theorem dX12_run_27 : decode cX12_run 27 = .ok (.istore_n 3, 1) := by decide +kernel
theorem dX12_run_28 : decode cX12_run 28 = .ok (.iconst 0, 1) := by decide +kernel
theorem dX12_run_29 : decode cX12_run 29 = .ok (.istore 4, 2) := by decide +kernel
theorem dX12_run_31 : decode cX12_run 31 = .ok (.aload_n 0, 1) := by decide +kernel
theorem dX12_run_32 : decode cX12_run 32 = .ok (.invokevirtual 289, 3) := by decide +kernel
theorem dX12_run_35 : decode cX12_run 35 = .ok (.iload 4, 2) := by decide +kernel
theorem dX12_run_37 : decode cX12_run 37 = .ok (.iload_n 2, 1) := by decide +kernel
theorem dX12_run_38 : decode cX12_run 38 = .ok (.if_icmp .ge 94, 3) := by decide +kernel
theorem dX12_run_41 : decode cX12_run 41 = .ok (.aload_n 0, 1) := by decide +kernel
theorem dX12_run_42 : decode cX12_run 42 = .ok (.getfield 280, 3) := by decide +kernel
theorem dX12_run_45 : decode cX12_run 45 = .ok (.ifCond .le 87, 3) := by decide +kernel
theorem dX12_run_132 : decode cX12_run 132 = .ok (.aload_n 0, 1) := by decide +kernel
theorem dX12_run_133 : decode cX12_run 133 = .ok (.iconst 0, 1) := by decide +kernel
theorem dX12_run_134 : decode cX12_run 134 = .ok (.putfield 104, 3) := by decide +kernel
theorem dX12_run_137 : decode cX12_run 137 = .ok (.aload_n 0, 1) := by decide +kernel
theorem dX12_run_138 : decode cX12_run 138 = .ok (.aload_n 0, 1) := by decide +kernel
theorem dX12_run_139 : decode cX12_run 139 = .ok (.getfield 280, 3) := by decide +kernel
theorem dX12_run_142 : decode cX12_run 142 = .ok (.ifCond .ne 7, 3) := by decide +kernel
theorem dX12_run_145 : decode cX12_run 145 = .ok (.iconst 1, 1) := by decide +kernel
theorem dX12_run_146 : decode cX12_run 146 = .ok (.goto 4, 3) := by decide +kernel
theorem dX12_run_150 : decode cX12_run 150 = .ok (.invokevirtual 264, 3) := by decide +kernel
theorem dX12_run_153 : decode cX12_run 153 = .ok (.aload_n 0, 1) := by decide +kernel
theorem dX12_run_154 : decode cX12_run 154 = .ok (.iload_n 3, 1) := by decide +kernel
theorem dX12_run_155 : decode cX12_run 155 = .ok (.invokevirtual 264, 3) := by decide +kernel
theorem dX12_run_158 : decode cX12_run 158 = .ok (.iload 4, 2) := by decide +kernel
theorem dX12_run_160 : decode cX12_run 160 = .ok (.ireturn, 1) := by decide +kernel
theorem dX12_partner_0 : decode cX12_partner 0 = .ok (.aload_n 0, 1) := by decide +kernel
theorem dX12_partner_1 : decode cX12_partner 1 = .ok (.iconst 0, 1) := by decide +kernel
theorem dX12_partner_2 : decode cX12_partner 2 = .ok (.putfield 101, 3) := by decide +kernel
theorem dX12_partner_5 : decode cX12_partner 5 = .ok (.aload_n 0, 1) := by decide +kernel
theorem dX12_partner_6 : decode cX12_partner 6 = .ok (.iload_n 1, 1) := by decide +kernel
theorem dX12_partner_7 : decode cX12_partner 7 = .ok (.invokevirtual 242, 3) := by decide +kernel
theorem dX12_partner_10 : decode cX12_partner 10 = .ok (.ifCond .eq 19, 3) := by decide +kernel
theorem dX12_partner_29 : decode cX12_partner 29 = .ok (.iconst (-1), 1) := by decide +kernel
theorem dX12_partner_30 : decode cX12_partner 30 = .ok (.ireturn, 1) := by decide +kernel
theorem dX12_findDay_0 : decode cX12_findDay 0 = .ok (.iconst 0, 1) := by decide +kernel
theorem dX12_findDay_1 : decode cX12_findDay 1 = .ok (.istore_n 3, 1) := by decide +kernel
theorem dX12_findDay_2 : decode cX12_findDay 2 = .ok (.aload_n 0, 1) := by decide +kernel
theorem dX12_findDay_3 : decode cX12_findDay 3 = .ok (.iconst 0, 1) := by decide +kernel
theorem dX12_findDay_4 : decode cX12_findDay 4 = .ok (.putfield 299, 3) := by decide +kernel
theorem dX12_findDay_7 : decode cX12_findDay 7 = .ok (.iconst 1, 1) := by decide +kernel
theorem dX12_findDay_8 : decode cX12_findDay 8 = .ok (.istore 4, 2) := by decide +kernel
theorem dX12_findDay_10 : decode cX12_findDay 10 = .ok (.iload 4, 2) := by decide +kernel
theorem dX12_findDay_12 : decode cX12_findDay 12 = .ok (.iconst 1, 1) := by decide +kernel
theorem dX12_findDay_13 : decode cX12_findDay 13 = .ok (.aload_n 0, 1) := by decide +kernel
theorem dX12_findDay_14 : decode cX12_findDay 14 = .ok (.getfield 114, 3) := by decide +kernel
theorem dX12_findDay_17 : decode cX12_findDay 17 = .ok (.ishl, 1) := by decide +kernel
theorem dX12_findDay_18 : decode cX12_findDay 18 = .ok (.if_icmp .ge 148, 3) := by decide +kernel
theorem dX12_findDay_166 : decode cX12_findDay 166 = .ok (.iload_n 3, 1) := by decide +kernel
theorem dX12_findDay_167 : decode cX12_findDay 167 = .ok (.ireturn, 1) := by decide +kernel
theorem dX12_day_0 : decode cX12_day 0 = .ok (.aload_n 0, 1) := by decide +kernel
theorem dX12_day_1 : decode cX12_day 1 = .ok (.iconst 0, 1) := by decide +kernel
theorem dX12_day_2 : decode cX12_day 2 = .ok (.putfield 101, 3) := by decide +kernel
theorem dX12_day_5 : decode cX12_day 5 = .ok (.aload_n 0, 1) := by decide +kernel
theorem dX12_day_6 : decode cX12_day 6 = .ok (.iconst (-1), 1) := by decide +kernel
theorem dX12_day_7 : decode cX12_day 7 = .ok (.iconst (-1), 1) := by decide +kernel
theorem dX12_day_8 : decode cX12_day 8 = .ok (.invokevirtual 311, 3) := by decide +kernel
theorem dX12_day_11 : decode cX12_day 11 = .ok (.istore_n 1, 1) := by decide +kernel
theorem dX12_day_12 : decode cX12_day 12 = .ok (.aload_n 0, 1) := by decide +kernel
theorem dX12_day_13 : decode cX12_day 13 = .ok (.iconst 0, 1) := by decide +kernel
theorem dX12_day_14 : decode cX12_day 14 = .ok (.putfield 104, 3) := by decide +kernel
theorem dX12_day_17 : decode cX12_day 17 = .ok (.aload_n 0, 1) := by decide +kernel
theorem dX12_day_18 : decode cX12_day 18 = .ok (.aload_n 0, 1) := by decide +kernel
theorem dX12_day_19 : decode cX12_day 19 = .ok (.getfield 299, 3) := by decide +kernel
theorem dX12_day_22 : decode cX12_day 22 = .ok (.invokevirtual 264, 3) := by decide +kernel
theorem dX12_day_25 : decode cX12_day 25 = .ok (.iload_n 1, 1) := by decide +kernel
theorem dX12_day_26 : decode cX12_day 26 = .ok (.ireturn, 1) := by decide +kernel
theorem dX12_quarrel_0 : decode cX12_quarrel 0 = .ok (.aload_n 0, 1) := by decide +kernel
theorem dX12_quarrel_1 : decode cX12_quarrel 1 = .ok (.iconst 0, 1) := by decide +kernel
theorem dX12_quarrel_2 : decode cX12_quarrel 2 = .ok (.putfield 101, 3) := by decide +kernel
theorem dX12_quarrel_5 : decode cX12_quarrel 5 = .ok (.aload_n 0, 1) := by decide +kernel
theorem dX12_quarrel_6 : decode cX12_quarrel 6 = .ok (.iload_n 1, 1) := by decide +kernel
theorem dX12_quarrel_7 : decode cX12_quarrel 7 = .ok (.invokevirtual 223, 3) := by decide +kernel
theorem dX12_quarrel_10 : decode cX12_quarrel 10 = .ok (.ifCond .eq 31, 3) := by decide +kernel
theorem dX12_quarrel_41 : decode cX12_quarrel 41 = .ok (.iconst (-1), 1) := by decide +kernel
theorem dX12_quarrel_42 : decode cX12_quarrel 42 = .ok (.ireturn, 1) := by decide +kernel
theorem dX12_bars_0 : decode cX12_bars 0 = .ok (.aload_n 0, 1) := by decide +kernel
theorem dX12_bars_1 : decode cX12_bars 1 = .ok (.iconst 0, 1) := by decide +kernel
theorem dX12_bars_2 : decode cX12_bars 2 = .ok (.putfield 101, 3) := by decide +kernel
theorem dX12_bars_5 : decode cX12_bars 5 = .ok (.aload_n 0, 1) := by decide +kernel
theorem dX12_bars_6 : decode cX12_bars 6 = .ok (.iload_n 1, 1) := by decide +kernel
theorem dX12_bars_7 : decode cX12_bars 7 = .ok (.invokevirtual 239, 3) := by decide +kernel
theorem dX12_bars_10 : decode cX12_bars 10 = .ok (.ifCond .eq 19, 3) := by decide +kernel
theorem dX12_bars_29 : decode cX12_bars 29 = .ok (.iconst (-1), 1) := by decide +kernel
theorem dX12_bars_30 : decode cX12_bars 30 = .ok (.ireturn, 1) := by decide +kernel
theorem dX12_without_0 : decode cX12_without 0 = .ok (.aload_n 0, 1) := by decide +kernel
theorem dX12_without_1 : decode cX12_without 1 = .ok (.iconst 0, 1) := by decide +kernel
theorem dX12_without_2 : decode cX12_without 2 = .ok (.putfield 101, 3) := by decide +kernel
theorem dX12_without_5 : decode cX12_without 5 = .ok (.aload_n 0, 1) := by decide +kernel
theorem dX12_without_6 : decode cX12_without 6 = .ok (.iload_n 1, 1) := by decide +kernel
theorem dX12_without_7 : decode cX12_without 7 = .ok (.invokevirtual 223, 3) := by decide +kernel
theorem dX12_without_10 : decode cX12_without 10 = .ok (.ifCond .ne 5, 3) := by decide +kernel
theorem dX12_without_13 : decode cX12_without 13 = .ok (.iconst (-1), 1) := by decide +kernel
theorem dX12_without_14 : decode cX12_without 14 = .ok (.ireturn, 1) := by decide +kernel
theorem dX12_pair_0 : decode cX12_pair 0 = .ok (.aload_n 0, 1) := by decide +kernel
theorem dX12_pair_1 : decode cX12_pair 1 = .ok (.iconst 0, 1) := by decide +kernel
theorem dX12_pair_2 : decode cX12_pair 2 = .ok (.putfield 101, 3) := by decide +kernel
theorem dX12_pair_5 : decode cX12_pair 5 = .ok (.aload_n 0, 1) := by decide +kernel
theorem dX12_pair_6 : decode cX12_pair 6 = .ok (.getfield 107, 3) := by decide +kernel
theorem dX12_pair_9 : decode cX12_pair 9 = .ok (.iconst 2, 1) := by decide +kernel
theorem dX12_pair_10 : decode cX12_pair 10 = .ok (.if_icmp .ge 6, 3) := by decide +kernel
theorem dX12_pair_13 : decode cX12_pair 13 = .ok (.bipush (-2), 2) := by decide +kernel
theorem dX12_pair_15 : decode cX12_pair 15 = .ok (.ireturn, 1) := by decide +kernel
theorem dX12_wealth_0 : decode cX12_wealth 0 = .ok (.aload_n 0, 1) := by decide +kernel
theorem dX12_wealth_1 : decode cX12_wealth 1 = .ok (.iconst 0, 1) := by decide +kernel
theorem dX12_wealth_2 : decode cX12_wealth 2 = .ok (.putfield 101, 3) := by decide +kernel
theorem dX12_wealth_5 : decode cX12_wealth 5 = .ok (.aload_n 0, 1) := by decide +kernel
theorem dX12_wealth_6 : decode cX12_wealth 6 = .ok (.iload_n 1, 1) := by decide +kernel
theorem dX12_wealth_7 : decode cX12_wealth 7 = .ok (.invokevirtual 223, 3) := by decide +kernel
theorem dX12_wealth_10 : decode cX12_wealth 10 = .ok (.ifCond .eq 11, 3) := by decide +kernel
theorem dX12_wealth_21 : decode cX12_wealth 21 = .ok (.iconst (-1), 1) := by decide +kernel
theorem dX12_wealth_22 : decode cX12_wealth 22 = .ok (.ireturn, 1) := by decide +kernel
theorem dX12_richest_0 : decode cX12_richest 0 = .ok (.aload_n 0, 1) := by decide +kernel
theorem dX12_richest_1 : decode cX12_richest 1 = .ok (.iconst 0, 1) := by decide +kernel
theorem dX12_richest_2 : decode cX12_richest 2 = .ok (.putfield 101, 3) := by decide +kernel
theorem dX12_richest_5 : decode cX12_richest 5 = .ok (.aload_n 0, 1) := by decide +kernel
theorem dX12_richest_6 : decode cX12_richest 6 = .ok (.getfield 107, 3) := by decide +kernel
theorem dX12_richest_9 : decode cX12_richest 9 = .ok (.ifCond .ne 6, 3) := by decide +kernel
theorem dX12_richest_12 : decode cX12_richest 12 = .ok (.bipush (-2), 2) := by decide +kernel
theorem dX12_richest_14 : decode cX12_richest 14 = .ok (.ireturn, 1) := by decide +kernel
theorem dX12_use_0 : decode cX12_use 0 = .ok (.aload_n 0, 1) := by decide +kernel
theorem dX12_use_1 : decode cX12_use 1 = .ok (.iconst 0, 1) := by decide +kernel
theorem dX12_use_2 : decode cX12_use 2 = .ok (.putfield 101, 3) := by decide +kernel
theorem dX12_use_5 : decode cX12_use 5 = .ok (.aload_n 0, 1) := by decide +kernel
theorem dX12_use_6 : decode cX12_use 6 = .ok (.iload_n 1, 1) := by decide +kernel
theorem dX12_use_7 : decode cX12_use 7 = .ok (.invokevirtual 239, 3) := by decide +kernel
theorem dX12_use_10 : decode cX12_use 10 = .ok (.ifCond .ne 5, 3) := by decide +kernel
theorem dX12_use_13 : decode cX12_use 13 = .ok (.iconst (-1), 1) := by decide +kernel
theorem dX12_use_14 : decode cX12_use 14 = .ok (.ireturn, 1) := by decide +kernel
theorem dX12_days_0 : decode cX12_days 0 = .ok (.aload_n 0, 1) := by decide +kernel
theorem dX12_days_1 : decode cX12_days 1 = .ok (.iconst 0, 1) := by decide +kernel
theorem dX12_days_2 : decode cX12_days 2 = .ok (.putfield 101, 3) := by decide +kernel
theorem dX12_days_5 : decode cX12_days 5 = .ok (.iload_n 1, 1) := by decide +kernel
theorem dX12_days_6 : decode cX12_days 6 = .ok (.iconst 0, 1) := by decide +kernel
theorem dX12_days_7 : decode cX12_days 7 = .ok (.bipush 100, 2) := by decide +kernel
theorem dX12_days_9 : decode cX12_days 9 = .ok (.invokestatic 110, 3) := by decide +kernel
theorem dX12_days_12 : decode cX12_days 12 = .ok (.ifCond .ne 5, 3) := by decide +kernel
theorem dX12_days_15 : decode cX12_days 15 = .ok (.iconst (-1), 1) := by decide +kernel
theorem dX12_days_16 : decode cX12_days 16 = .ok (.ireturn, 1) := by decide +kernel
theorem dX12_days_17 : decode cX12_days 17 = .ok (.iconst 0, 1) := by decide +kernel
theorem dX12_days_18 : decode cX12_days 18 = .ok (.istore_n 2, 1) := by decide +kernel
theorem dX12_days_19 : decode cX12_days 19 = .ok (.aload_n 0, 1) := by decide +kernel
theorem dX12_days_20 : decode cX12_days 20 = .ok (.iconst (-1), 1) := by decide +kernel
theorem dX12_days_21 : decode cX12_days 21 = .ok (.iconst (-1), 1) := by decide +kernel
theorem dX12_days_22 : decode cX12_days 22 = .ok (.invokevirtual 311, 3) := by decide +kernel
theorem dX12_days_25 : decode cX12_days 25 = .ok (.istore_n 3, 1) := by decide +kernel
theorem dX12_days_26 : decode cX12_days 26 = .ok (.iconst 0, 1) := by decide +kernel
theorem dX12_days_27 : decode cX12_days 27 = .ok (.istore 4, 2) := by decide +kernel
theorem dX12_days_29 : decode cX12_days 29 = .ok (.iload 4, 2) := by decide +kernel
theorem dX12_days_31 : decode cX12_days 31 = .ok (.iload_n 1, 1) := by decide +kernel
theorem dX12_days_32 : decode cX12_days 32 = .ok (.if_icmp .ge 85, 3) := by decide +kernel
theorem dX12_days_35 : decode cX12_days 35 = .ok (.iconst 0, 1) := by decide +kernel
theorem dX12_days_36 : decode cX12_days 36 = .ok (.istore 5, 2) := by decide +kernel
theorem dX12_days_38 : decode cX12_days 38 = .ok (.iload 5, 2) := by decide +kernel
theorem dX12_days_40 : decode cX12_days 40 = .ok (.aload_n 0, 1) := by decide +kernel
theorem dX12_days_41 : decode cX12_days 41 = .ok (.getfield 114, 3) := by decide +kernel
theorem dX12_days_44 : decode cX12_days 44 = .ok (.if_icmp .ge 27, 3) := by decide +kernel
theorem dX12_days_71 : decode cX12_days 71 = .ok (.iload_n 2, 1) := by decide +kernel
theorem dX12_days_72 : decode cX12_days 72 = .ok (.iload_n 3, 1) := by decide +kernel
theorem dX12_days_73 : decode cX12_days 73 = .ok (.iadd, 1) := by decide +kernel
theorem dX12_days_74 : decode cX12_days 74 = .ok (.istore_n 2, 1) := by decide +kernel
theorem dX12_days_75 : decode cX12_days 75 = .ok (.aload_n 0, 1) := by decide +kernel
theorem dX12_days_76 : decode cX12_days 76 = .ok (.dup, 1) := by decide +kernel
theorem dX12_days_77 : decode cX12_days 77 = .ok (.getfield 325, 3) := by decide +kernel
theorem dX12_days_80 : decode cX12_days 80 = .ok (.iconst 1, 1) := by decide +kernel
theorem dX12_days_81 : decode cX12_days 81 = .ok (.iadd, 1) := by decide +kernel
theorem dX12_days_82 : decode cX12_days 82 = .ok (.putfield 325, 3) := by decide +kernel
theorem dX12_days_85 : decode cX12_days 85 = .ok (.iconst 0, 1) := by decide +kernel
theorem dX12_days_86 : decode cX12_days 86 = .ok (.istore 5, 2) := by decide +kernel
theorem dX12_days_88 : decode cX12_days 88 = .ok (.iload 5, 2) := by decide +kernel
theorem dX12_days_90 : decode cX12_days 90 = .ok (.aload_n 0, 1) := by decide +kernel
theorem dX12_days_91 : decode cX12_days 91 = .ok (.getfield 107, 3) := by decide +kernel
theorem dX12_days_94 : decode cX12_days 94 = .ok (.if_icmp .ge 17, 3) := by decide +kernel
theorem dX12_days_111 : decode cX12_days 111 = .ok (.iinc 4 1, 3) := by decide +kernel
theorem dX12_days_114 : decode cX12_days 114 = .ok (.goto (-85), 3) := by decide +kernel
theorem dX12_days_117 : decode cX12_days 117 = .ok (.aload_n 0, 1) := by decide +kernel
theorem dX12_days_118 : decode cX12_days 118 = .ok (.iconst 0, 1) := by decide +kernel
theorem dX12_days_119 : decode cX12_days 119 = .ok (.putfield 174, 3) := by decide +kernel
theorem dX12_days_122 : decode cX12_days 122 = .ok (.iload_n 2, 1) := by decide +kernel
theorem dX12_days_123 : decode cX12_days 123 = .ok (.ireturn, 1) := by decide +kernel
theorem dX12_canFeast_0 : decode cX12_canFeast 0 = .ok (.iconst 0, 1) := by decide +kernel
theorem dX12_canFeast_1 : decode cX12_canFeast 1 = .ok (.istore_n 2, 1) := by decide +kernel
theorem dX12_canFeast_2 : decode cX12_canFeast 2 = .ok (.iconst 0, 1) := by decide +kernel
theorem dX12_canFeast_3 : decode cX12_canFeast 3 = .ok (.istore_n 3, 1) := by decide +kernel
theorem dX12_canFeast_4 : decode cX12_canFeast 4 = .ok (.iload_n 3, 1) := by decide +kernel
theorem dX12_canFeast_5 : decode cX12_canFeast 5 = .ok (.aload_n 0, 1) := by decide +kernel
theorem dX12_canFeast_6 : decode cX12_canFeast 6 = .ok (.getfield 114, 3) := by decide +kernel
theorem dX12_canFeast_9 : decode cX12_canFeast 9 = .ok (.if_icmp .ge 48, 3) := by decide +kernel
theorem dX12_canFeast_57 : decode cX12_canFeast 57 = .ok (.iconst 1, 1) := by decide +kernel
theorem dX12_canFeast_58 : decode cX12_canFeast 58 = .ok (.ireturn, 1) := by decide +kernel
theorem dX12_feast_0 : decode cX12_feast 0 = .ok (.aload_n 0, 1) := by decide +kernel
theorem dX12_feast_1 : decode cX12_feast 1 = .ok (.iconst 0, 1) := by decide +kernel
theorem dX12_feast_2 : decode cX12_feast 2 = .ok (.putfield 101, 3) := by decide +kernel
theorem dX12_feast_5 : decode cX12_feast 5 = .ok (.aload_n 0, 1) := by decide +kernel
theorem dX12_feast_6 : decode cX12_feast 6 = .ok (.iload_n 1, 1) := by decide +kernel
theorem dX12_feast_7 : decode cX12_feast 7 = .ok (.invokevirtual 328, 3) := by decide +kernel
theorem dX12_feast_10 : decode cX12_feast 10 = .ok (.ifCond .ne 5, 3) := by decide +kernel
theorem dX12_feast_13 : decode cX12_feast 13 = .ok (.iconst (-1), 1) := by decide +kernel
theorem dX12_feast_14 : decode cX12_feast 14 = .ok (.ireturn, 1) := by decide +kernel
theorem dX12_feast_15 : decode cX12_feast 15 = .ok (.aload_n 0, 1) := by decide +kernel
theorem dX12_feast_16 : decode cX12_feast 16 = .ok (.iload_n 1, 1) := by decide +kernel
theorem dX12_feast_17 : decode cX12_feast 17 = .ok (.invokevirtual 331, 3) := by decide +kernel
theorem dX12_feast_20 : decode cX12_feast 20 = .ok (.ifCond .eq 5, 3) := by decide +kernel
theorem dX12_feast_23 : decode cX12_feast 23 = .ok (.iconst 1, 1) := by decide +kernel
theorem dX12_feast_24 : decode cX12_feast 24 = .ok (.ireturn, 1) := by decide +kernel
theorem dX12_load_0 : decode cX12_load 0 = .ok (.iconst 0, 1) := by decide +kernel
theorem dX12_load_1 : decode cX12_load 1 = .ok (.istore_n 2, 1) := by decide +kernel
theorem dX12_load_2 : decode cX12_load 2 = .ok (.iload_n 2, 1) := by decide +kernel
theorem dX12_load_3 : decode cX12_load 3 = .ok (.iconst 2, 1) := by decide +kernel
theorem dX12_load_4 : decode cX12_load 4 = .ok (.aload_n 0, 1) := by decide +kernel
theorem dX12_load_5 : decode cX12_load 5 = .ok (.getfield 114, 3) := by decide +kernel
theorem dX12_load_8 : decode cX12_load 8 = .ok (.imul, 1) := by decide +kernel
theorem dX12_load_9 : decode cX12_load 9 = .ok (.if_icmp .ge 26, 3) := by decide +kernel
theorem dX12_load_35 : decode cX12_load 35 = .ok (.iconst 0, 1) := by decide +kernel
theorem dX12_load_36 : decode cX12_load 36 = .ok (.istore_n 2, 1) := by decide +kernel
theorem dX12_load_37 : decode cX12_load 37 = .ok (.iload_n 2, 1) := by decide +kernel
theorem dX12_load_38 : decode cX12_load 38 = .ok (.aload_n 0, 1) := by decide +kernel
theorem dX12_load_39 : decode cX12_load 39 = .ok (.getfield 107, 3) := by decide +kernel
theorem dX12_load_42 : decode cX12_load 42 = .ok (.if_icmp .ge 26, 3) := by decide +kernel
theorem dX12_load_68 : decode cX12_load 68 = .ok (.return_, 1) := by decide +kernel
theorem dX12_clearStates_0 : decode cX12_clearStates 0 = .ok (.iconst 0, 1) := by decide +kernel
theorem dX12_clearStates_1 : decode cX12_clearStates 1 = .ok (.istore_n 1, 1) := by decide +kernel
theorem dX12_clearStates_2 : decode cX12_clearStates 2 = .ok (.iload_n 1, 1) := by decide +kernel
theorem dX12_clearStates_3 : decode cX12_clearStates 3 = .ok (.sipush 8192, 3) := by decide +kernel
theorem dX12_clearStates_6 : decode cX12_clearStates 6 = .ok (.if_icmp .ge 16, 3) := by decide +kernel
theorem dX12_clearStates_9 : decode cX12_clearStates 9 = .ok (.aload_n 0, 1) := by decide +kernel
theorem dX12_clearStates_10 : decode cX12_clearStates 10 = .ok (.getfield 74, 3) := by decide +kernel
theorem dX12_clearStates_13 : decode cX12_clearStates 13 = .ok (.iload_n 1, 1) := by decide +kernel
theorem dX12_clearStates_14 : decode cX12_clearStates 14 = .ok (.iconst 0, 1) := by decide +kernel
theorem dX12_clearStates_15 : decode cX12_clearStates 15 = .ok (.iastore, 1) := by decide +kernel
theorem dX12_clearStates_16 : decode cX12_clearStates 16 = .ok (.iinc 1 1, 3) := by decide +kernel
theorem dX12_clearStates_19 : decode cX12_clearStates 19 = .ok (.goto (-17), 3) := by decide +kernel
theorem dX12_clearStates_22 : decode cX12_clearStates 22 = .ok (.aload_n 0, 1) := by decide +kernel
theorem dX12_clearStates_23 : decode cX12_clearStates 23 = .ok (.iconst 0, 1) := by decide +kernel
theorem dX12_clearStates_24 : decode cX12_clearStates 24 = .ok (.putfield 334, 3) := by decide +kernel
theorem dX12_clearStates_27 : decode cX12_clearStates 27 = .ok (.aload_n 0, 1) := by decide +kernel
theorem dX12_clearStates_28 : decode cX12_clearStates 28 = .ok (.aload_n 0, 1) := by decide +kernel
theorem dX12_clearStates_29 : decode cX12_clearStates 29 = .ok (.getfield 77, 3) := by decide +kernel
theorem dX12_clearStates_32 : decode cX12_clearStates 32 = .ok (.iconst 0, 1) := by decide +kernel
theorem dX12_clearStates_33 : decode cX12_clearStates 33 = .ok (.invokevirtual 267, 3) := by decide +kernel
theorem dX12_clearStates_36 : decode cX12_clearStates 36 = .ok (.aload_n 0, 1) := by decide +kernel
theorem dX12_clearStates_37 : decode cX12_clearStates 37 = .ok (.iconst (-1), 1) := by decide +kernel
theorem dX12_clearStates_38 : decode cX12_clearStates 38 = .ok (.iconst 0, 1) := by decide +kernel
theorem dX12_clearStates_39 : decode cX12_clearStates 39 = .ok (.invokevirtual 337, 3) := by decide +kernel
theorem dX12_clearStates_42 : decode cX12_clearStates 42 = .ok (.pop, 1) := by decide +kernel
theorem dX12_clearStates_43 : decode cX12_clearStates 43 = .ok (.return_, 1) := by decide +kernel
theorem dX12_stateNow_0 : decode cX12_stateNow 0 = .ok (.bipush 7, 2) := by decide +kernel
theorem dX12_stateNow_2 : decode cX12_stateNow 2 = .ok (.istore_n 3, 1) := by decide +kernel
theorem dX12_stateNow_3 : decode cX12_stateNow 3 = .ok (.iconst 0, 1) := by decide +kernel
theorem dX12_stateNow_4 : decode cX12_stateNow 4 = .ok (.istore 4, 2) := by decide +kernel
theorem dX12_stateNow_6 : decode cX12_stateNow 6 = .ok (.iload 4, 2) := by decide +kernel
theorem dX12_stateNow_8 : decode cX12_stateNow 8 = .ok (.iconst 2, 1) := by decide +kernel
theorem dX12_stateNow_9 : decode cX12_stateNow 9 = .ok (.aload_n 0, 1) := by decide +kernel
theorem dX12_stateNow_10 : decode cX12_stateNow 10 = .ok (.getfield 114, 3) := by decide +kernel
theorem dX12_stateNow_13 : decode cX12_stateNow 13 = .ok (.imul, 1) := by decide +kernel
theorem dX12_stateNow_14 : decode cX12_stateNow 14 = .ok (.if_icmp .ge 22, 3) := by decide +kernel
theorem dX12_stateNow_36 : decode cX12_stateNow 36 = .ok (.iconst 0, 1) := by decide +kernel
theorem dX12_stateNow_37 : decode cX12_stateNow 37 = .ok (.istore 4, 2) := by decide +kernel
theorem dX12_stateNow_39 : decode cX12_stateNow 39 = .ok (.iload 4, 2) := by decide +kernel
theorem dX12_stateNow_41 : decode cX12_stateNow 41 = .ok (.aload_n 0, 1) := by decide +kernel
theorem dX12_stateNow_42 : decode cX12_stateNow 42 = .ok (.getfield 107, 3) := by decide +kernel
theorem dX12_stateNow_45 : decode cX12_stateNow 45 = .ok (.if_icmp .ge 22, 3) := by decide +kernel
theorem dX12_stateNow_67 : decode cX12_stateNow 67 = .ok (.iload_n 3, 1) := by decide +kernel
theorem dX12_stateNow_68 : decode cX12_stateNow 68 = .ok (.iload_n 3, 1) := by decide +kernel
theorem dX12_stateNow_69 : decode cX12_stateNow 69 = .ok (.bipush 12, 2) := by decide +kernel
theorem dX12_stateNow_71 : decode cX12_stateNow 71 = .ok (.iushr, 1) := by decide +kernel
theorem dX12_stateNow_72 : decode cX12_stateNow 72 = .ok (.ixor, 1) := by decide +kernel
theorem dX12_stateNow_73 : decode cX12_stateNow 73 = .ok (.sipush 8191, 3) := by decide +kernel
theorem dX12_stateNow_76 : decode cX12_stateNow 76 = .ok (.iand, 1) := by decide +kernel
theorem dX12_stateNow_77 : decode cX12_stateNow 77 = .ok (.istore 4, 2) := by decide +kernel
theorem dX12_stateNow_79 : decode cX12_stateNow 79 = .ok (.aload_n 0, 1) := by decide +kernel
theorem dX12_stateNow_80 : decode cX12_stateNow 80 = .ok (.getfield 74, 3) := by decide +kernel
theorem dX12_stateNow_83 : decode cX12_stateNow 83 = .ok (.iload 4, 2) := by decide +kernel
theorem dX12_stateNow_85 : decode cX12_stateNow 85 = .ok (.iaload, 1) := by decide +kernel
theorem dX12_stateNow_86 : decode cX12_stateNow 86 = .ok (.ifCond .eq 32, 3) := by decide +kernel
theorem dX12_stateNow_118 : decode cX12_stateNow 118 = .ok (.aload_n 0, 1) := by decide +kernel
theorem dX12_stateNow_119 : decode cX12_stateNow 119 = .ok (.getfield 74, 3) := by decide +kernel
theorem dX12_stateNow_122 : decode cX12_stateNow 122 = .ok (.iload 4, 2) := by decide +kernel
theorem dX12_stateNow_124 : decode cX12_stateNow 124 = .ok (.iaload, 1) := by decide +kernel
theorem dX12_stateNow_125 : decode cX12_stateNow 125 = .ok (.ifCond .eq 13, 3) := by decide +kernel
theorem dX12_stateNow_138 : decode cX12_stateNow 138 = .ok (.aload_n 0, 1) := by decide +kernel
theorem dX12_stateNow_139 : decode cX12_stateNow 139 = .ok (.getfield 334, 3) := by decide +kernel
theorem dX12_stateNow_142 : decode cX12_stateNow 142 = .ok (.sipush 3000, 3) := by decide +kernel
theorem dX12_stateNow_145 : decode cX12_stateNow 145 = .ok (.if_icmp .ne 5, 3) := by decide +kernel
theorem dX12_stateNow_150 : decode cX12_stateNow 150 = .ok (.iconst 0, 1) := by decide +kernel
theorem dX12_stateNow_151 : decode cX12_stateNow 151 = .ok (.istore 5, 2) := by decide +kernel
theorem dX12_stateNow_153 : decode cX12_stateNow 153 = .ok (.iload 5, 2) := by decide +kernel
theorem dX12_stateNow_155 : decode cX12_stateNow 155 = .ok (.bipush 20, 2) := by decide +kernel
theorem dX12_stateNow_157 : decode cX12_stateNow 157 = .ok (.if_icmp .ge 31, 3) := by decide +kernel
theorem dX12_stateNow_160 : decode cX12_stateNow 160 = .ok (.aload_n 0, 1) := by decide +kernel
theorem dX12_stateNow_161 : decode cX12_stateNow 161 = .ok (.getfield 59, 3) := by decide +kernel
theorem dX12_stateNow_164 : decode cX12_stateNow 164 = .ok (.bipush 20, 2) := by decide +kernel
theorem dX12_stateNow_166 : decode cX12_stateNow 166 = .ok (.aload_n 0, 1) := by decide +kernel
theorem dX12_stateNow_167 : decode cX12_stateNow 167 = .ok (.getfield 334, 3) := by decide +kernel
theorem dX12_stateNow_170 : decode cX12_stateNow 170 = .ok (.imul, 1) := by decide +kernel
theorem dX12_stateNow_171 : decode cX12_stateNow 171 = .ok (.iload 5, 2) := by decide +kernel
theorem dX12_stateNow_173 : decode cX12_stateNow 173 = .ok (.iadd, 1) := by decide +kernel
theorem dX12_stateNow_174 : decode cX12_stateNow 174 = .ok (.aload_n 0, 1) := by decide +kernel
theorem dX12_stateNow_175 : decode cX12_stateNow 175 = .ok (.getfield 26, 3) := by decide +kernel
theorem dX12_stateNow_178 : decode cX12_stateNow 178 = .ok (.iload 5, 2) := by decide +kernel
theorem dX12_stateNow_180 : decode cX12_stateNow 180 = .ok (.iaload, 1) := by decide +kernel
theorem dX12_stateNow_181 : decode cX12_stateNow 181 = .ok (.iastore, 1) := by decide +kernel
theorem dX12_stateNow_182 : decode cX12_stateNow 182 = .ok (.iinc 5 1, 3) := by decide +kernel
theorem dX12_stateNow_185 : decode cX12_stateNow 185 = .ok (.goto (-32), 3) := by decide +kernel
theorem dX12_stateNow_188 : decode cX12_stateNow 188 = .ok (.iconst 0, 1) := by decide +kernel
theorem dX12_stateNow_189 : decode cX12_stateNow 189 = .ok (.istore 5, 2) := by decide +kernel
theorem dX12_stateNow_191 : decode cX12_stateNow 191 = .ok (.iload 5, 2) := by decide +kernel
theorem dX12_stateNow_193 : decode cX12_stateNow 193 = .ok (.bipush 8, 2) := by decide +kernel
theorem dX12_stateNow_195 : decode cX12_stateNow 195 = .ok (.if_icmp .ge 31, 3) := by decide +kernel
theorem dX12_stateNow_198 : decode cX12_stateNow 198 = .ok (.aload_n 0, 1) := by decide +kernel
theorem dX12_stateNow_199 : decode cX12_stateNow 199 = .ok (.getfield 62, 3) := by decide +kernel
theorem dX12_stateNow_202 : decode cX12_stateNow 202 = .ok (.bipush 8, 2) := by decide +kernel
theorem dX12_stateNow_204 : decode cX12_stateNow 204 = .ok (.aload_n 0, 1) := by decide +kernel
theorem dX12_stateNow_205 : decode cX12_stateNow 205 = .ok (.getfield 334, 3) := by decide +kernel
theorem dX12_stateNow_208 : decode cX12_stateNow 208 = .ok (.imul, 1) := by decide +kernel
theorem dX12_stateNow_209 : decode cX12_stateNow 209 = .ok (.iload 5, 2) := by decide +kernel
theorem dX12_stateNow_211 : decode cX12_stateNow 211 = .ok (.iadd, 1) := by decide +kernel
theorem dX12_stateNow_212 : decode cX12_stateNow 212 = .ok (.aload_n 0, 1) := by decide +kernel
theorem dX12_stateNow_213 : decode cX12_stateNow 213 = .ok (.getfield 9, 3) := by decide +kernel
theorem dX12_stateNow_216 : decode cX12_stateNow 216 = .ok (.iload 5, 2) := by decide +kernel
theorem dX12_stateNow_218 : decode cX12_stateNow 218 = .ok (.iaload, 1) := by decide +kernel
theorem dX12_stateNow_219 : decode cX12_stateNow 219 = .ok (.iastore, 1) := by decide +kernel
theorem dX12_stateNow_220 : decode cX12_stateNow 220 = .ok (.iinc 5 1, 3) := by decide +kernel
theorem dX12_stateNow_223 : decode cX12_stateNow 223 = .ok (.goto (-32), 3) := by decide +kernel
theorem dX12_stateNow_226 : decode cX12_stateNow 226 = .ok (.aload_n 0, 1) := by decide +kernel
theorem dX12_stateNow_227 : decode cX12_stateNow 227 = .ok (.getfield 68, 3) := by decide +kernel
theorem dX12_stateNow_230 : decode cX12_stateNow 230 = .ok (.aload_n 0, 1) := by decide +kernel
theorem dX12_stateNow_231 : decode cX12_stateNow 231 = .ok (.getfield 334, 3) := by decide +kernel
theorem dX12_stateNow_234 : decode cX12_stateNow 234 = .ok (.iload_n 1, 1) := by decide +kernel
theorem dX12_stateNow_235 : decode cX12_stateNow 235 = .ok (.iastore, 1) := by decide +kernel
theorem dX12_stateNow_236 : decode cX12_stateNow 236 = .ok (.aload_n 0, 1) := by decide +kernel
theorem dX12_stateNow_237 : decode cX12_stateNow 237 = .ok (.getfield 71, 3) := by decide +kernel
theorem dX12_stateNow_240 : decode cX12_stateNow 240 = .ok (.aload_n 0, 1) := by decide +kernel
theorem dX12_stateNow_241 : decode cX12_stateNow 241 = .ok (.getfield 334, 3) := by decide +kernel
theorem dX12_stateNow_244 : decode cX12_stateNow 244 = .ok (.iload_n 2, 1) := by decide +kernel
theorem dX12_stateNow_245 : decode cX12_stateNow 245 = .ok (.iastore, 1) := by decide +kernel
theorem dX12_stateNow_246 : decode cX12_stateNow 246 = .ok (.aload_n 0, 1) := by decide +kernel
theorem dX12_stateNow_247 : decode cX12_stateNow 247 = .ok (.getfield 65, 3) := by decide +kernel
theorem dX12_stateNow_250 : decode cX12_stateNow 250 = .ok (.aload_n 0, 1) := by decide +kernel
theorem dX12_stateNow_251 : decode cX12_stateNow 251 = .ok (.getfield 334, 3) := by decide +kernel
theorem dX12_stateNow_254 : decode cX12_stateNow 254 = .ok (.iload_n 1, 1) := by decide +kernel
theorem dX12_stateNow_255 : decode cX12_stateNow 255 = .ok (.iconst (-1), 1) := by decide +kernel
theorem dX12_stateNow_256 : decode cX12_stateNow 256 = .ok (.if_icmp .ne 7, 3) := by decide +kernel
theorem dX12_stateNow_259 : decode cX12_stateNow 259 = .ok (.iconst 0, 1) := by decide +kernel
theorem dX12_stateNow_260 : decode cX12_stateNow 260 = .ok (.goto 11, 3) := by decide +kernel
theorem dX12_stateNow_271 : decode cX12_stateNow 271 = .ok (.iastore, 1) := by decide +kernel
theorem dX12_stateNow_272 : decode cX12_stateNow 272 = .ok (.aload_n 0, 1) := by decide +kernel
theorem dX12_stateNow_273 : decode cX12_stateNow 273 = .ok (.dup, 1) := by decide +kernel
theorem dX12_stateNow_274 : decode cX12_stateNow 274 = .ok (.getfield 334, 3) := by decide +kernel
theorem dX12_stateNow_277 : decode cX12_stateNow 277 = .ok (.iconst 1, 1) := by decide +kernel
theorem dX12_stateNow_278 : decode cX12_stateNow 278 = .ok (.iadd, 1) := by decide +kernel
theorem dX12_stateNow_279 : decode cX12_stateNow 279 = .ok (.putfield 334, 3) := by decide +kernel
theorem dX12_stateNow_282 : decode cX12_stateNow 282 = .ok (.aload_n 0, 1) := by decide +kernel
theorem dX12_stateNow_283 : decode cX12_stateNow 283 = .ok (.getfield 74, 3) := by decide +kernel
theorem dX12_stateNow_286 : decode cX12_stateNow 286 = .ok (.iload 4, 2) := by decide +kernel
theorem dX12_stateNow_288 : decode cX12_stateNow 288 = .ok (.aload_n 0, 1) := by decide +kernel
theorem dX12_stateNow_289 : decode cX12_stateNow 289 = .ok (.getfield 334, 3) := by decide +kernel
theorem dX12_stateNow_292 : decode cX12_stateNow 292 = .ok (.iastore, 1) := by decide +kernel
theorem dX12_stateNow_293 : decode cX12_stateNow 293 = .ok (.aload_n 0, 1) := by decide +kernel
theorem dX12_stateNow_294 : decode cX12_stateNow 294 = .ok (.getfield 334, 3) := by decide +kernel
theorem dX12_stateNow_297 : decode cX12_stateNow 297 = .ok (.iconst 1, 1) := by decide +kernel
theorem dX12_stateNow_298 : decode cX12_stateNow 298 = .ok (.isub, 1) := by decide +kernel
theorem dX12_stateNow_299 : decode cX12_stateNow 299 = .ok (.ireturn, 1) := by decide +kernel
theorem dX12_tellWay_0 : decode cX12_tellWay 0 = .ok (.aload_n 0, 1) := by decide +kernel
theorem dX12_tellWay_1 : decode cX12_tellWay 1 = .ok (.getfield 65, 3) := by decide +kernel
theorem dX12_tellWay_4 : decode cX12_tellWay 4 = .ok (.iload_n 1, 1) := by decide +kernel
theorem dX12_tellWay_5 : decode cX12_tellWay 5 = .ok (.iaload, 1) := by decide +kernel
theorem dX12_tellWay_6 : decode cX12_tellWay 6 = .ok (.istore_n 2, 1) := by decide +kernel
theorem dX12_tellWay_7 : decode cX12_tellWay 7 = .ok (.iload_n 1, 1) := by decide +kernel
theorem dX12_tellWay_8 : decode cX12_tellWay 8 = .ok (.istore_n 3, 1) := by decide +kernel
theorem dX12_tellWay_9 : decode cX12_tellWay 9 = .ok (.iload_n 2, 1) := by decide +kernel
theorem dX12_tellWay_10 : decode cX12_tellWay 10 = .ok (.iconst 1, 1) := by decide +kernel
theorem dX12_tellWay_11 : decode cX12_tellWay 11 = .ok (.isub, 1) := by decide +kernel
theorem dX12_tellWay_12 : decode cX12_tellWay 12 = .ok (.istore 4, 2) := by decide +kernel
theorem dX12_tellWay_14 : decode cX12_tellWay 14 = .ok (.iload 4, 2) := by decide +kernel
theorem dX12_tellWay_16 : decode cX12_tellWay 16 = .ok (.ifCond .lt 29, 3) := by decide +kernel
theorem dX12_tellWay_45 : decode cX12_tellWay 45 = .ok (.iconst 0, 1) := by decide +kernel
theorem dX12_tellWay_46 : decode cX12_tellWay 46 = .ok (.istore 4, 2) := by decide +kernel
theorem dX12_tellWay_48 : decode cX12_tellWay 48 = .ok (.iload 4, 2) := by decide +kernel
theorem dX12_tellWay_50 : decode cX12_tellWay 50 = .ok (.iload_n 2, 1) := by decide +kernel
theorem dX12_tellWay_51 : decode cX12_tellWay 51 = .ok (.if_icmp .ge 27, 3) := by decide +kernel
theorem dX12_tellWay_78 : decode cX12_tellWay 78 = .ok (.iload_n 2, 1) := by decide +kernel
theorem dX12_tellWay_79 : decode cX12_tellWay 79 = .ok (.ireturn, 1) := by decide +kernel
theorem dX12_prepare_0 : decode cX12_prepare 0 = .ok (.aload_n 0, 1) := by decide +kernel
theorem dX12_prepare_1 : decode cX12_prepare 1 = .ok (.iconst 0, 1) := by decide +kernel
theorem dX12_prepare_2 : decode cX12_prepare 2 = .ok (.putfield 101, 3) := by decide +kernel
theorem dX12_prepare_5 : decode cX12_prepare 5 = .ok (.aload_n 0, 1) := by decide +kernel
theorem dX12_prepare_6 : decode cX12_prepare 6 = .ok (.iload_n 1, 1) := by decide +kernel
theorem dX12_prepare_7 : decode cX12_prepare 7 = .ok (.invokevirtual 328, 3) := by decide +kernel
theorem dX12_prepare_10 : decode cX12_prepare 10 = .ok (.ifCond .ne 5, 3) := by decide +kernel
theorem dX12_prepare_13 : decode cX12_prepare 13 = .ok (.iconst (-1), 1) := by decide +kernel
theorem dX12_prepare_14 : decode cX12_prepare 14 = .ok (.ireturn, 1) := by decide +kernel
theorem dX12_prepare_15 : decode cX12_prepare 15 = .ok (.aload_n 0, 1) := by decide +kernel
theorem dX12_prepare_16 : decode cX12_prepare 16 = .ok (.invokevirtual 343, 3) := by decide +kernel
theorem dX12_prepare_19 : decode cX12_prepare 19 = .ok (.iconst 1, 1) := by decide +kernel
theorem dX12_prepare_20 : decode cX12_prepare 20 = .ok (.istore_n 2, 1) := by decide +kernel
theorem dX12_prepare_21 : decode cX12_prepare 21 = .ok (.iconst 0, 1) := by decide +kernel
theorem dX12_prepare_22 : decode cX12_prepare 22 = .ok (.istore_n 3, 1) := by decide +kernel
theorem dX12_prepare_23 : decode cX12_prepare 23 = .ok (.iload_n 3, 1) := by decide +kernel
theorem dX12_prepare_24 : decode cX12_prepare 24 = .ok (.aload_n 0, 1) := by decide +kernel
theorem dX12_prepare_25 : decode cX12_prepare 25 = .ok (.getfield 334, 3) := by decide +kernel
theorem dX12_prepare_28 : decode cX12_prepare 28 = .ok (.if_icmp .ge 117, 3) := by decide +kernel
theorem dX12_prepare_31 : decode cX12_prepare 31 = .ok (.iload_n 2, 1) := by decide +kernel
theorem dX12_prepare_32 : decode cX12_prepare 32 = .ok (.ifCond .eq 113, 3) := by decide +kernel
theorem dX12_prepare_35 : decode cX12_prepare 35 = .ok (.iconst 0, 1) := by decide +kernel
theorem dX12_prepare_36 : decode cX12_prepare 36 = .ok (.istore 4, 2) := by decide +kernel
theorem dX12_prepare_38 : decode cX12_prepare 38 = .ok (.iload 4, 2) := by decide +kernel
theorem dX12_prepare_40 : decode cX12_prepare 40 = .ok (.iconst 2, 1) := by decide +kernel
theorem dX12_prepare_41 : decode cX12_prepare 41 = .ok (.aload_n 0, 1) := by decide +kernel
theorem dX12_prepare_42 : decode cX12_prepare 42 = .ok (.getfield 114, 3) := by decide +kernel
theorem dX12_prepare_45 : decode cX12_prepare 45 = .ok (.imul, 1) := by decide +kernel
theorem dX12_prepare_46 : decode cX12_prepare 46 = .ok (.if_icmp .ge 93, 3) := by decide +kernel
theorem dX12_prepare_139 : decode cX12_prepare 139 = .ok (.iinc 3 1, 3) := by decide +kernel
theorem dX12_prepare_142 : decode cX12_prepare 142 = .ok (.goto (-119), 3) := by decide +kernel
theorem dX12_prepare_145 : decode cX12_prepare 145 = .ok (.iconst (-1), 1) := by decide +kernel
theorem dX12_prepare_146 : decode cX12_prepare 146 = .ok (.istore_n 3, 1) := by decide +kernel
theorem dX12_prepare_147 : decode cX12_prepare 147 = .ok (.iconst 0, 1) := by decide +kernel
theorem dX12_prepare_148 : decode cX12_prepare 148 = .ok (.istore 4, 2) := by decide +kernel
theorem dX12_prepare_150 : decode cX12_prepare 150 = .ok (.iload 4, 2) := by decide +kernel
theorem dX12_prepare_152 : decode cX12_prepare 152 = .ok (.aload_n 0, 1) := by decide +kernel
theorem dX12_prepare_153 : decode cX12_prepare 153 = .ok (.getfield 334, 3) := by decide +kernel
theorem dX12_prepare_156 : decode cX12_prepare 156 = .ok (.if_icmp .ge 35, 3) := by decide +kernel
theorem dX12_prepare_159 : decode cX12_prepare 159 = .ok (.iload_n 2, 1) := by decide +kernel
theorem dX12_prepare_160 : decode cX12_prepare 160 = .ok (.ifCond .eq 31, 3) := by decide +kernel
theorem dX12_prepare_163 : decode cX12_prepare 163 = .ok (.iload_n 3, 1) := by decide +kernel
theorem dX12_prepare_164 : decode cX12_prepare 164 = .ok (.iconst (-1), 1) := by decide +kernel
theorem dX12_prepare_165 : decode cX12_prepare 165 = .ok (.if_icmp .ne 26, 3) := by decide +kernel
theorem dX12_prepare_168 : decode cX12_prepare 168 = .ok (.aload_n 0, 1) := by decide +kernel
theorem dX12_prepare_169 : decode cX12_prepare 169 = .ok (.iload 4, 2) := by decide +kernel
theorem dX12_prepare_171 : decode cX12_prepare 171 = .ok (.invokevirtual 346, 3) := by decide +kernel
theorem dX12_prepare_174 : decode cX12_prepare 174 = .ok (.aload_n 0, 1) := by decide +kernel
theorem dX12_prepare_175 : decode cX12_prepare 175 = .ok (.iload_n 1, 1) := by decide +kernel
theorem dX12_prepare_176 : decode cX12_prepare 176 = .ok (.invokevirtual 331, 3) := by decide +kernel
theorem dX12_prepare_179 : decode cX12_prepare 179 = .ok (.ifCond .eq 6, 3) := by decide +kernel
theorem dX12_prepare_182 : decode cX12_prepare 182 = .ok (.iload 4, 2) := by decide +kernel
theorem dX12_prepare_184 : decode cX12_prepare 184 = .ok (.istore_n 3, 1) := by decide +kernel
theorem dX12_prepare_185 : decode cX12_prepare 185 = .ok (.iinc 4 1, 3) := by decide +kernel
theorem dX12_prepare_188 : decode cX12_prepare 188 = .ok (.goto (-38), 3) := by decide +kernel
theorem dX12_prepare_191 : decode cX12_prepare 191 = .ok (.aload_n 0, 1) := by decide +kernel
theorem dX12_prepare_192 : decode cX12_prepare 192 = .ok (.aload_n 0, 1) := by decide +kernel
theorem dX12_prepare_193 : decode cX12_prepare 193 = .ok (.getfield 77, 3) := by decide +kernel
theorem dX12_prepare_196 : decode cX12_prepare 196 = .ok (.iconst 0, 1) := by decide +kernel
theorem dX12_prepare_197 : decode cX12_prepare 197 = .ok (.invokevirtual 277, 3) := by decide +kernel
theorem dX12_prepare_200 : decode cX12_prepare 200 = .ok (.iload_n 2, 1) := by decide +kernel
theorem dX12_prepare_201 : decode cX12_prepare 201 = .ok (.ifCond .ne 6, 3) := by decide +kernel
theorem dX12_prepare_207 : decode cX12_prepare 207 = .ok (.iload_n 3, 1) := by decide +kernel
theorem dX12_prepare_208 : decode cX12_prepare 208 = .ok (.iconst (-1), 1) := by decide +kernel
theorem dX12_prepare_209 : decode cX12_prepare 209 = .ok (.if_icmp .ne 6, 3) := by decide +kernel
theorem dX12_prepare_215 : decode cX12_prepare 215 = .ok (.aload_n 0, 1) := by decide +kernel
theorem dX12_prepare_216 : decode cX12_prepare 216 = .ok (.iconst 0, 1) := by decide +kernel
theorem dX12_prepare_217 : decode cX12_prepare 217 = .ok (.putfield 104, 3) := by decide +kernel
theorem dX12_prepare_220 : decode cX12_prepare 220 = .ok (.aload_n 0, 1) := by decide +kernel
theorem dX12_prepare_221 : decode cX12_prepare 221 = .ok (.iload_n 3, 1) := by decide +kernel
theorem dX12_prepare_222 : decode cX12_prepare 222 = .ok (.invokevirtual 349, 3) := by decide +kernel
theorem dX12_prepare_225 : decode cX12_prepare 225 = .ok (.ireturn, 1) := by decide +kernel
theorem dX12_areTwo_0 : decode cX12_areTwo 0 = .ok (.aload_n 0, 1) := by decide +kernel
theorem dX12_areTwo_1 : decode cX12_areTwo 1 = .ok (.iload_n 1, 1) := by decide +kernel
theorem dX12_areTwo_2 : decode cX12_areTwo 2 = .ok (.invokevirtual 242, 3) := by decide +kernel
theorem dX12_areTwo_5 : decode cX12_areTwo 5 = .ok (.ifCond .eq 20, 3) := by decide +kernel
theorem dX12_areTwo_25 : decode cX12_areTwo 25 = .ok (.iconst 0, 1) := by decide +kernel
theorem dX12_areTwo_26 : decode cX12_areTwo 26 = .ok (.ireturn, 1) := by decide +kernel
theorem dX12_maySwap_0 : decode cX12_maySwap 0 = .ok (.aload_n 0, 1) := by decide +kernel
theorem dX12_maySwap_1 : decode cX12_maySwap 1 = .ok (.iconst 0, 1) := by decide +kernel
theorem dX12_maySwap_2 : decode cX12_maySwap 2 = .ok (.putfield 101, 3) := by decide +kernel
theorem dX12_maySwap_5 : decode cX12_maySwap 5 = .ok (.aload_n 0, 1) := by decide +kernel
theorem dX12_maySwap_6 : decode cX12_maySwap 6 = .ok (.iload_n 1, 1) := by decide +kernel
theorem dX12_maySwap_7 : decode cX12_maySwap 7 = .ok (.iload_n 2, 1) := by decide +kernel
theorem dX12_maySwap_8 : decode cX12_maySwap 8 = .ok (.invokevirtual 361, 3) := by decide +kernel
theorem dX12_maySwap_11 : decode cX12_maySwap 11 = .ok (.ifCond .ne 5, 3) := by decide +kernel
theorem dX12_maySwap_14 : decode cX12_maySwap 14 = .ok (.iconst (-1), 1) := by decide +kernel
theorem dX12_maySwap_15 : decode cX12_maySwap 15 = .ok (.ireturn, 1) := by decide +kernel
theorem dX12_swap_0 : decode cX12_swap 0 = .ok (.aload_n 0, 1) := by decide +kernel
theorem dX12_swap_1 : decode cX12_swap 1 = .ok (.iconst 0, 1) := by decide +kernel
theorem dX12_swap_2 : decode cX12_swap 2 = .ok (.putfield 101, 3) := by decide +kernel
theorem dX12_swap_5 : decode cX12_swap 5 = .ok (.aload_n 0, 1) := by decide +kernel
theorem dX12_swap_6 : decode cX12_swap 6 = .ok (.iload_n 1, 1) := by decide +kernel
theorem dX12_swap_7 : decode cX12_swap 7 = .ok (.iload_n 2, 1) := by decide +kernel
theorem dX12_swap_8 : decode cX12_swap 8 = .ok (.invokevirtual 361, 3) := by decide +kernel
theorem dX12_swap_11 : decode cX12_swap 11 = .ok (.ifCond .ne 5, 3) := by decide +kernel
theorem dX12_swap_14 : decode cX12_swap 14 = .ok (.iconst (-1), 1) := by decide +kernel
theorem dX12_swap_15 : decode cX12_swap 15 = .ok (.ireturn, 1) := by decide +kernel
theorem dX12_findGood_0 : decode cX12_findGood 0 = .ok (.iconst 0, 1) := by decide +kernel
theorem dX12_findGood_1 : decode cX12_findGood 1 = .ok (.istore_n 1, 1) := by decide +kernel
theorem dX12_findGood_2 : decode cX12_findGood 2 = .ok (.aload_n 0, 1) := by decide +kernel
theorem dX12_findGood_3 : decode cX12_findGood 3 = .ok (.iconst (-1), 1) := by decide +kernel
theorem dX12_findGood_4 : decode cX12_findGood 4 = .ok (.putfield 373, 3) := by decide +kernel
theorem dX12_findGood_7 : decode cX12_findGood 7 = .ok (.iconst 0, 1) := by decide +kernel
theorem dX12_findGood_8 : decode cX12_findGood 8 = .ok (.istore_n 2, 1) := by decide +kernel
theorem dX12_findGood_9 : decode cX12_findGood 9 = .ok (.iload_n 2, 1) := by decide +kernel
theorem dX12_findGood_10 : decode cX12_findGood 10 = .ok (.iconst 2, 1) := by decide +kernel
theorem dX12_findGood_11 : decode cX12_findGood 11 = .ok (.aload_n 0, 1) := by decide +kernel
theorem dX12_findGood_12 : decode cX12_findGood 12 = .ok (.getfield 114, 3) := by decide +kernel
theorem dX12_findGood_15 : decode cX12_findGood 15 = .ok (.imul, 1) := by decide +kernel
theorem dX12_findGood_16 : decode cX12_findGood 16 = .ok (.if_icmp .ge 67, 3) := by decide +kernel
theorem dX12_findGood_83 : decode cX12_findGood 83 = .ok (.iload_n 1, 1) := by decide +kernel
theorem dX12_findGood_84 : decode cX12_findGood 84 = .ok (.ireturn, 1) := by decide +kernel
theorem dX12_good_0 : decode cX12_good 0 = .ok (.aload_n 0, 1) := by decide +kernel
theorem dX12_good_1 : decode cX12_good 1 = .ok (.iconst 0, 1) := by decide +kernel
theorem dX12_good_2 : decode cX12_good 2 = .ok (.putfield 101, 3) := by decide +kernel
theorem dX12_good_5 : decode cX12_good 5 = .ok (.aload_n 0, 1) := by decide +kernel
theorem dX12_good_6 : decode cX12_good 6 = .ok (.invokevirtual 376, 3) := by decide +kernel
theorem dX12_good_9 : decode cX12_good 9 = .ok (.istore_n 1, 1) := by decide +kernel
theorem dX12_good_10 : decode cX12_good 10 = .ok (.aload_n 0, 1) := by decide +kernel
theorem dX12_good_11 : decode cX12_good 11 = .ok (.iconst 0, 1) := by decide +kernel
theorem dX12_good_12 : decode cX12_good 12 = .ok (.putfield 104, 3) := by decide +kernel
theorem dX12_good_15 : decode cX12_good 15 = .ok (.iload_n 1, 1) := by decide +kernel
theorem dX12_good_16 : decode cX12_good 16 = .ok (.ifCond .le 11, 3) := by decide +kernel
theorem dX12_good_27 : decode cX12_good 27 = .ok (.iload_n 1, 1) := by decide +kernel
theorem dX12_good_28 : decode cX12_good 28 = .ok (.ireturn, 1) := by decide +kernel
theorem dX12_rests_0 : decode cX12_rests 0 = .ok (.aload_n 0, 1) := by decide +kernel
theorem dX12_rests_1 : decode cX12_rests 1 = .ok (.iconst 0, 1) := by decide +kernel
theorem dX12_rests_2 : decode cX12_rests 2 = .ok (.putfield 101, 3) := by decide +kernel
theorem dX12_rests_5 : decode cX12_rests 5 = .ok (.iload_n 1, 1) := by decide +kernel
theorem dX12_rests_6 : decode cX12_rests 6 = .ok (.iconst 0, 1) := by decide +kernel
theorem dX12_rests_7 : decode cX12_rests 7 = .ok (.bipush 100, 2) := by decide +kernel
theorem dX12_rests_9 : decode cX12_rests 9 = .ok (.invokestatic 110, 3) := by decide +kernel
theorem dX12_rests_12 : decode cX12_rests 12 = .ok (.ifCond .ne 5, 3) := by decide +kernel
theorem dX12_rests_15 : decode cX12_rests 15 = .ok (.iconst (-1), 1) := by decide +kernel
theorem dX12_rests_16 : decode cX12_rests 16 = .ok (.ireturn, 1) := by decide +kernel
theorem dX12_rests_17 : decode cX12_rests 17 = .ok (.iconst 0, 1) := by decide +kernel
theorem dX12_rests_18 : decode cX12_rests 18 = .ok (.istore_n 2, 1) := by decide +kernel
theorem dX12_rests_19 : decode cX12_rests 19 = .ok (.aload_n 0, 1) := by decide +kernel
theorem dX12_rests_20 : decode cX12_rests 20 = .ok (.invokevirtual 376, 3) := by decide +kernel
theorem dX12_rests_23 : decode cX12_rests 23 = .ok (.istore_n 3, 1) := by decide +kernel
theorem dX12_rests_24 : decode cX12_rests 24 = .ok (.iload_n 2, 1) := by decide +kernel
theorem dX12_rests_25 : decode cX12_rests 25 = .ok (.iload_n 1, 1) := by decide +kernel
theorem dX12_rests_26 : decode cX12_rests 26 = .ok (.if_icmp .ge 40, 3) := by decide +kernel
theorem dX12_rests_29 : decode cX12_rests 29 = .ok (.iload_n 3, 1) := by decide +kernel
theorem dX12_rests_30 : decode cX12_rests 30 = .ok (.ifCond .le 36, 3) := by decide +kernel
theorem dX12_rests_66 : decode cX12_rests 66 = .ok (.aload_n 0, 1) := by decide +kernel
theorem dX12_rests_67 : decode cX12_rests 67 = .ok (.iconst 0, 1) := by decide +kernel
theorem dX12_rests_68 : decode cX12_rests 68 = .ok (.putfield 104, 3) := by decide +kernel
theorem dX12_rests_71 : decode cX12_rests 71 = .ok (.aload_n 0, 1) := by decide +kernel
theorem dX12_rests_72 : decode cX12_rests 72 = .ok (.iload_n 3, 1) := by decide +kernel
theorem dX12_rests_73 : decode cX12_rests 73 = .ok (.ifCond .ne 7, 3) := by decide +kernel
theorem dX12_rests_76 : decode cX12_rests 76 = .ok (.iconst 1, 1) := by decide +kernel
theorem dX12_rests_77 : decode cX12_rests 77 = .ok (.goto 4, 3) := by decide +kernel
theorem dX12_rests_81 : decode cX12_rests 81 = .ok (.invokevirtual 264, 3) := by decide +kernel
theorem dX12_rests_84 : decode cX12_rests 84 = .ok (.aload_n 0, 1) := by decide +kernel
theorem dX12_rests_85 : decode cX12_rests 85 = .ok (.aload_n 0, 1) := by decide +kernel
theorem dX12_rests_86 : decode cX12_rests 86 = .ok (.invokevirtual 370, 3) := by decide +kernel
theorem dX12_rests_89 : decode cX12_rests 89 = .ok (.invokestatic 314, 3) := by decide +kernel
theorem dX12_rests_92 : decode cX12_rests 92 = .ok (.invokevirtual 264, 3) := by decide +kernel
theorem dX12_rests_95 : decode cX12_rests 95 = .ok (.iload_n 2, 1) := by decide +kernel
theorem dX12_rests_96 : decode cX12_rests 96 = .ok (.ireturn, 1) := by decide +kernel
theorem dX12_findSwaps_0 : decode cX12_findSwaps 0 = .ok (.aload_n 0, 1) := by decide +kernel
theorem dX12_findSwaps_1 : decode cX12_findSwaps 1 = .ok (.invokevirtual 343, 3) := by decide +kernel
theorem dX12_findSwaps_4 : decode cX12_findSwaps 4 = .ok (.iconst 1, 1) := by decide +kernel
theorem dX12_findSwaps_5 : decode cX12_findSwaps 5 = .ok (.istore_n 1, 1) := by decide +kernel
theorem dX12_findSwaps_6 : decode cX12_findSwaps 6 = .ok (.iconst 0, 1) := by decide +kernel
theorem dX12_findSwaps_7 : decode cX12_findSwaps 7 = .ok (.istore_n 2, 1) := by decide +kernel
theorem dX12_findSwaps_8 : decode cX12_findSwaps 8 = .ok (.iload_n 2, 1) := by decide +kernel
theorem dX12_findSwaps_9 : decode cX12_findSwaps 9 = .ok (.aload_n 0, 1) := by decide +kernel
theorem dX12_findSwaps_10 : decode cX12_findSwaps 10 = .ok (.getfield 334, 3) := by decide +kernel
theorem dX12_findSwaps_13 : decode cX12_findSwaps 13 = .ok (.if_icmp .ge 104, 3) := by decide +kernel
theorem dX12_findSwaps_16 : decode cX12_findSwaps 16 = .ok (.iload_n 1, 1) := by decide +kernel
theorem dX12_findSwaps_17 : decode cX12_findSwaps 17 = .ok (.ifCond .eq 100, 3) := by decide +kernel
theorem dX12_findSwaps_20 : decode cX12_findSwaps 20 = .ok (.iconst 0, 1) := by decide +kernel
theorem dX12_findSwaps_21 : decode cX12_findSwaps 21 = .ok (.istore_n 3, 1) := by decide +kernel
theorem dX12_findSwaps_22 : decode cX12_findSwaps 22 = .ok (.iload_n 3, 1) := by decide +kernel
theorem dX12_findSwaps_23 : decode cX12_findSwaps 23 = .ok (.iconst 2, 1) := by decide +kernel
theorem dX12_findSwaps_24 : decode cX12_findSwaps 24 = .ok (.aload_n 0, 1) := by decide +kernel
theorem dX12_findSwaps_25 : decode cX12_findSwaps 25 = .ok (.getfield 114, 3) := by decide +kernel
theorem dX12_findSwaps_28 : decode cX12_findSwaps 28 = .ok (.imul, 1) := by decide +kernel
theorem dX12_findSwaps_29 : decode cX12_findSwaps 29 = .ok (.if_icmp .ge 82, 3) := by decide +kernel
theorem dX12_findSwaps_111 : decode cX12_findSwaps 111 = .ok (.iinc 2 1, 3) := by decide +kernel
theorem dX12_findSwaps_114 : decode cX12_findSwaps 114 = .ok (.goto (-106), 3) := by decide +kernel
theorem dX12_findSwaps_117 : decode cX12_findSwaps 117 = .ok (.aload_n 0, 1) := by decide +kernel
theorem dX12_findSwaps_118 : decode cX12_findSwaps 118 = .ok (.aload_n 0, 1) := by decide +kernel
theorem dX12_findSwaps_119 : decode cX12_findSwaps 119 = .ok (.getfield 77, 3) := by decide +kernel
theorem dX12_findSwaps_122 : decode cX12_findSwaps 122 = .ok (.iconst 0, 1) := by decide +kernel
theorem dX12_findSwaps_123 : decode cX12_findSwaps 123 = .ok (.invokevirtual 277, 3) := by decide +kernel
theorem dX12_findSwaps_126 : decode cX12_findSwaps 126 = .ok (.iload_n 1, 1) := by decide +kernel
theorem dX12_findSwaps_127 : decode cX12_findSwaps 127 = .ok (.ireturn, 1) := by decide +kernel
theorem dX12_friends_0 : decode cX12_friends 0 = .ok (.aload_n 0, 1) := by decide +kernel
theorem dX12_friends_1 : decode cX12_friends 1 = .ok (.iconst 0, 1) := by decide +kernel
theorem dX12_friends_2 : decode cX12_friends 2 = .ok (.putfield 101, 3) := by decide +kernel
theorem dX12_friends_5 : decode cX12_friends 5 = .ok (.aload_n 0, 1) := by decide +kernel
theorem dX12_friends_6 : decode cX12_friends 6 = .ok (.invokevirtual 379, 3) := by decide +kernel
theorem dX12_friends_9 : decode cX12_friends 9 = .ok (.ifCond .ne 6, 3) := by decide +kernel
theorem dX12_friends_15 : decode cX12_friends 15 = .ok (.iconst 0, 1) := by decide +kernel
theorem dX12_friends_16 : decode cX12_friends 16 = .ok (.istore_n 1, 1) := by decide +kernel
theorem dX12_friends_17 : decode cX12_friends 17 = .ok (.iconst (-1), 1) := by decide +kernel
theorem dX12_friends_18 : decode cX12_friends 18 = .ok (.istore_n 2, 1) := by decide +kernel
theorem dX12_friends_19 : decode cX12_friends 19 = .ok (.iconst 0, 1) := by decide +kernel
theorem dX12_friends_20 : decode cX12_friends 20 = .ok (.istore_n 3, 1) := by decide +kernel
theorem dX12_friends_21 : decode cX12_friends 21 = .ok (.iload_n 3, 1) := by decide +kernel
theorem dX12_friends_22 : decode cX12_friends 22 = .ok (.aload_n 0, 1) := by decide +kernel
theorem dX12_friends_23 : decode cX12_friends 23 = .ok (.getfield 334, 3) := by decide +kernel
theorem dX12_friends_26 : decode cX12_friends 26 = .ok (.if_icmp .ge 37, 3) := by decide +kernel
theorem dX12_friends_29 : decode cX12_friends 29 = .ok (.aload_n 0, 1) := by decide +kernel
theorem dX12_friends_30 : decode cX12_friends 30 = .ok (.iload_n 3, 1) := by decide +kernel
theorem dX12_friends_31 : decode cX12_friends 31 = .ok (.invokevirtual 346, 3) := by decide +kernel
theorem dX12_friends_34 : decode cX12_friends 34 = .ok (.aload_n 0, 1) := by decide +kernel
theorem dX12_friends_35 : decode cX12_friends 35 = .ok (.invokevirtual 370, 3) := by decide +kernel
theorem dX12_friends_38 : decode cX12_friends 38 = .ok (.invokestatic 314, 3) := by decide +kernel
theorem dX12_friends_41 : decode cX12_friends 41 = .ok (.istore 4, 2) := by decide +kernel
theorem dX12_friends_43 : decode cX12_friends 43 = .ok (.iload 4, 2) := by decide +kernel
theorem dX12_friends_45 : decode cX12_friends 45 = .ok (.iload_n 2, 1) := by decide +kernel
theorem dX12_friends_46 : decode cX12_friends 46 = .ok (.if_icmp .gt 6, 3) := by decide +kernel
theorem dX12_friends_52 : decode cX12_friends 52 = .ok (.iload_n 3, 1) := by decide +kernel
theorem dX12_friends_53 : decode cX12_friends 53 = .ok (.istore_n 1, 1) := by decide +kernel
theorem dX12_friends_54 : decode cX12_friends 54 = .ok (.iload 4, 2) := by decide +kernel
theorem dX12_friends_56 : decode cX12_friends 56 = .ok (.istore_n 2, 1) := by decide +kernel
theorem dX12_friends_57 : decode cX12_friends 57 = .ok (.iinc 3 1, 3) := by decide +kernel
theorem dX12_friends_60 : decode cX12_friends 60 = .ok (.goto (-39), 3) := by decide +kernel
theorem dX12_friends_63 : decode cX12_friends 63 = .ok (.aload_n 0, 1) := by decide +kernel
theorem dX12_friends_64 : decode cX12_friends 64 = .ok (.aload_n 0, 1) := by decide +kernel
theorem dX12_friends_65 : decode cX12_friends 65 = .ok (.getfield 77, 3) := by decide +kernel
theorem dX12_friends_68 : decode cX12_friends 68 = .ok (.iconst 0, 1) := by decide +kernel
theorem dX12_friends_69 : decode cX12_friends 69 = .ok (.invokevirtual 277, 3) := by decide +kernel
theorem dX12_friends_72 : decode cX12_friends 72 = .ok (.aload_n 0, 1) := by decide +kernel
theorem dX12_friends_73 : decode cX12_friends 73 = .ok (.iconst 0, 1) := by decide +kernel
theorem dX12_friends_74 : decode cX12_friends 74 = .ok (.putfield 104, 3) := by decide +kernel
theorem dX12_friends_77 : decode cX12_friends 77 = .ok (.aload_n 0, 1) := by decide +kernel
theorem dX12_friends_78 : decode cX12_friends 78 = .ok (.iload_n 2, 1) := by decide +kernel
theorem dX12_friends_79 : decode cX12_friends 79 = .ok (.invokevirtual 264, 3) := by decide +kernel
theorem dX12_friends_82 : decode cX12_friends 82 = .ok (.aload_n 0, 1) := by decide +kernel
theorem dX12_friends_83 : decode cX12_friends 83 = .ok (.iload_n 1, 1) := by decide +kernel
theorem dX12_friends_84 : decode cX12_friends 84 = .ok (.invokevirtual 349, 3) := by decide +kernel
theorem dX12_friends_87 : decode cX12_friends 87 = .ok (.ireturn, 1) := by decide +kernel
theorem dX12_states_0 : decode cX12_states 0 = .ok (.aload_n 0, 1) := by decide +kernel
theorem dX12_states_1 : decode cX12_states 1 = .ok (.iconst 0, 1) := by decide +kernel
theorem dX12_states_2 : decode cX12_states 2 = .ok (.putfield 101, 3) := by decide +kernel
theorem dX12_states_5 : decode cX12_states 5 = .ok (.aload_n 0, 1) := by decide +kernel
theorem dX12_states_6 : decode cX12_states 6 = .ok (.invokevirtual 379, 3) := by decide +kernel
theorem dX12_states_9 : decode cX12_states 9 = .ok (.ifCond .ne 6, 3) := by decide +kernel
theorem dX12_states_15 : decode cX12_states 15 = .ok (.iconst 0, 1) := by decide +kernel
theorem dX12_states_16 : decode cX12_states 16 = .ok (.istore_n 1, 1) := by decide +kernel
theorem dX12_states_17 : decode cX12_states 17 = .ok (.iconst 0, 1) := by decide +kernel
theorem dX12_states_18 : decode cX12_states 18 = .ok (.istore_n 2, 1) := by decide +kernel
theorem dX12_states_19 : decode cX12_states 19 = .ok (.iconst 0, 1) := by decide +kernel
theorem dX12_states_20 : decode cX12_states 20 = .ok (.istore_n 3, 1) := by decide +kernel
theorem dX12_states_21 : decode cX12_states 21 = .ok (.iload_n 3, 1) := by decide +kernel
theorem dX12_states_22 : decode cX12_states 22 = .ok (.aload_n 0, 1) := by decide +kernel
theorem dX12_states_23 : decode cX12_states 23 = .ok (.getfield 334, 3) := by decide +kernel
theorem dX12_states_26 : decode cX12_states 26 = .ok (.if_icmp .ge 40, 3) := by decide +kernel
theorem dX12_states_29 : decode cX12_states 29 = .ok (.aload_n 0, 1) := by decide +kernel
theorem dX12_states_30 : decode cX12_states 30 = .ok (.iload_n 3, 1) := by decide +kernel
theorem dX12_states_31 : decode cX12_states 31 = .ok (.invokevirtual 346, 3) := by decide +kernel
theorem dX12_states_34 : decode cX12_states 34 = .ok (.iload_n 1, 1) := by decide +kernel
theorem dX12_states_35 : decode cX12_states 35 = .ok (.aload_n 0, 1) := by decide +kernel
theorem dX12_states_36 : decode cX12_states 36 = .ok (.invokevirtual 376, 3) := by decide +kernel
theorem dX12_states_39 : decode cX12_states 39 = .ok (.ifCond .ne 7, 3) := by decide +kernel
theorem dX12_states_42 : decode cX12_states 42 = .ok (.iconst 1, 1) := by decide +kernel
theorem dX12_states_43 : decode cX12_states 43 = .ok (.goto 4, 3) := by decide +kernel
theorem dX12_states_47 : decode cX12_states 47 = .ok (.iadd, 1) := by decide +kernel
theorem dX12_states_48 : decode cX12_states 48 = .ok (.istore_n 1, 1) := by decide +kernel
theorem dX12_states_49 : decode cX12_states 49 = .ok (.iload_n 2, 1) := by decide +kernel
theorem dX12_states_50 : decode cX12_states 50 = .ok (.aload_n 0, 1) := by decide +kernel
theorem dX12_states_51 : decode cX12_states 51 = .ok (.iconst (-1), 1) := by decide +kernel
theorem dX12_states_52 : decode cX12_states 52 = .ok (.iconst (-1), 1) := by decide +kernel
theorem dX12_states_53 : decode cX12_states 53 = .ok (.invokevirtual 311, 3) := by decide +kernel
theorem dX12_states_56 : decode cX12_states 56 = .ok (.invokestatic 214, 3) := by decide +kernel
theorem dX12_states_59 : decode cX12_states 59 = .ok (.istore_n 2, 1) := by decide +kernel
theorem dX12_states_60 : decode cX12_states 60 = .ok (.iinc 3 1, 3) := by decide +kernel
theorem dX12_states_63 : decode cX12_states 63 = .ok (.goto (-42), 3) := by decide +kernel
theorem dX12_states_66 : decode cX12_states 66 = .ok (.aload_n 0, 1) := by decide +kernel
theorem dX12_states_67 : decode cX12_states 67 = .ok (.aload_n 0, 1) := by decide +kernel
theorem dX12_states_68 : decode cX12_states 68 = .ok (.getfield 77, 3) := by decide +kernel
theorem dX12_states_71 : decode cX12_states 71 = .ok (.iconst 0, 1) := by decide +kernel
theorem dX12_states_72 : decode cX12_states 72 = .ok (.invokevirtual 277, 3) := by decide +kernel
theorem dX12_states_75 : decode cX12_states 75 = .ok (.aload_n 0, 1) := by decide +kernel
theorem dX12_states_76 : decode cX12_states 76 = .ok (.iconst 0, 1) := by decide +kernel
theorem dX12_states_77 : decode cX12_states 77 = .ok (.putfield 104, 3) := by decide +kernel
theorem dX12_states_80 : decode cX12_states 80 = .ok (.aload_n 0, 1) := by decide +kernel
theorem dX12_states_81 : decode cX12_states 81 = .ok (.iload_n 1, 1) := by decide +kernel
theorem dX12_states_82 : decode cX12_states 82 = .ok (.invokevirtual 264, 3) := by decide +kernel
theorem dX12_states_85 : decode cX12_states 85 = .ok (.aload_n 0, 1) := by decide +kernel
theorem dX12_states_86 : decode cX12_states 86 = .ok (.iload_n 2, 1) := by decide +kernel
theorem dX12_states_87 : decode cX12_states 87 = .ok (.invokevirtual 264, 3) := by decide +kernel
theorem dX12_states_90 : decode cX12_states 90 = .ok (.aload_n 0, 1) := by decide +kernel
theorem dX12_states_91 : decode cX12_states 91 = .ok (.getfield 334, 3) := by decide +kernel
theorem dX12_states_94 : decode cX12_states 94 = .ok (.ireturn, 1) := by decide +kernel
theorem dX12_estate_0 : decode cX12_estate 0 = .ok (.aload_n 0, 1) := by decide +kernel
theorem dX12_estate_1 : decode cX12_estate 1 = .ok (.iconst 0, 1) := by decide +kernel
theorem dX12_estate_2 : decode cX12_estate 2 = .ok (.putfield 101, 3) := by decide +kernel
theorem dX12_estate_5 : decode cX12_estate 5 = .ok (.aload_n 0, 1) := by decide +kernel
theorem dX12_estate_6 : decode cX12_estate 6 = .ok (.iload_n 1, 1) := by decide +kernel
theorem dX12_estate_7 : decode cX12_estate 7 = .ok (.invokevirtual 223, 3) := by decide +kernel
theorem dX12_estate_10 : decode cX12_estate 10 = .ok (.ifCond .ne 5, 3) := by decide +kernel
theorem dX12_estate_13 : decode cX12_estate 13 = .ok (.iconst (-1), 1) := by decide +kernel
theorem dX12_estate_14 : decode cX12_estate 14 = .ok (.ireturn, 1) := by decide +kernel
theorem dX12_greedy_0 : decode cX12_greedy 0 = .ok (.aload_n 0, 1) := by decide +kernel
theorem dX12_greedy_1 : decode cX12_greedy 1 = .ok (.iconst 0, 1) := by decide +kernel
theorem dX12_greedy_2 : decode cX12_greedy 2 = .ok (.putfield 101, 3) := by decide +kernel
theorem dX12_greedy_5 : decode cX12_greedy 5 = .ok (.aload_n 0, 1) := by decide +kernel
theorem dX12_greedy_6 : decode cX12_greedy 6 = .ok (.iload_n 1, 1) := by decide +kernel
theorem dX12_greedy_7 : decode cX12_greedy 7 = .ok (.invokevirtual 223, 3) := by decide +kernel
theorem dX12_greedy_10 : decode cX12_greedy 10 = .ok (.ifCond .ne 5, 3) := by decide +kernel
theorem dX12_greedy_13 : decode cX12_greedy 13 = .ok (.iconst (-1), 1) := by decide +kernel
theorem dX12_greedy_14 : decode cX12_greedy 14 = .ok (.ireturn, 1) := by decide +kernel
theorem dX12_told_0 : decode cX12_told 0 = .ok (.aload_n 0, 1) := by decide +kernel
theorem dX12_told_1 : decode cX12_told 1 = .ok (.iconst 0, 1) := by decide +kernel
theorem dX12_told_2 : decode cX12_told 2 = .ok (.putfield 101, 3) := by decide +kernel
theorem dX12_told_5 : decode cX12_told 5 = .ok (.aload_n 0, 1) := by decide +kernel
theorem dX12_told_6 : decode cX12_told 6 = .ok (.iload_n 1, 1) := by decide +kernel
theorem dX12_told_7 : decode cX12_told 7 = .ok (.invokevirtual 239, 3) := by decide +kernel
theorem dX12_told_10 : decode cX12_told 10 = .ok (.ifCond .eq 33, 3) := by decide +kernel
theorem dX12_told_43 : decode cX12_told 43 = .ok (.iconst (-1), 1) := by decide +kernel
theorem dX12_told_44 : decode cX12_told 44 = .ok (.ireturn, 1) := by decide +kernel
theorem dX12_explains_0 : decode cX12_explains 0 = .ok (.aload_n 0, 1) := by decide +kernel
theorem dX12_explains_1 : decode cX12_explains 1 = .ok (.iconst 0, 1) := by decide +kernel
theorem dX12_explains_2 : decode cX12_explains 2 = .ok (.putfield 101, 3) := by decide +kernel
theorem dX12_explains_5 : decode cX12_explains 5 = .ok (.aload_n 0, 1) := by decide +kernel
theorem dX12_explains_6 : decode cX12_explains 6 = .ok (.iload_n 1, 1) := by decide +kernel
theorem dX12_explains_7 : decode cX12_explains 7 = .ok (.invokevirtual 239, 3) := by decide +kernel
theorem dX12_explains_10 : decode cX12_explains 10 = .ok (.ifCond .ne 5, 3) := by decide +kernel
theorem dX12_explains_13 : decode cX12_explains 13 = .ok (.iconst (-1), 1) := by decide +kernel
theorem dX12_explains_14 : decode cX12_explains 14 = .ok (.ireturn, 1) := by decide +kernel
theorem dX12_steady_0 : decode cX12_steady 0 = .ok (.aload_n 0, 1) := by decide +kernel
theorem dX12_steady_1 : decode cX12_steady 1 = .ok (.iconst 0, 1) := by decide +kernel
theorem dX12_steady_2 : decode cX12_steady 2 = .ok (.putfield 101, 3) := by decide +kernel
theorem dX12_steady_5 : decode cX12_steady 5 = .ok (.aload_n 0, 1) := by decide +kernel
theorem dX12_steady_6 : decode cX12_steady 6 = .ok (.iload_n 1, 1) := by decide +kernel
theorem dX12_steady_7 : decode cX12_steady 7 = .ok (.invokevirtual 239, 3) := by decide +kernel
theorem dX12_steady_10 : decode cX12_steady 10 = .ok (.ifCond .ne 5, 3) := by decide +kernel
theorem dX12_steady_13 : decode cX12_steady 13 = .ok (.iconst (-1), 1) := by decide +kernel
theorem dX12_steady_14 : decode cX12_steady 14 = .ok (.ireturn, 1) := by decide +kernel
theorem dX12_bear_0 : decode cX12_bear 0 = .ok (.aload_n 0, 1) := by decide +kernel
theorem dX12_bear_1 : decode cX12_bear 1 = .ok (.iconst 0, 1) := by decide +kernel
theorem dX12_bear_2 : decode cX12_bear 2 = .ok (.putfield 101, 3) := by decide +kernel
theorem dX12_bear_5 : decode cX12_bear 5 = .ok (.aload_n 0, 1) := by decide +kernel
theorem dX12_bear_6 : decode cX12_bear 6 = .ok (.iload_n 1, 1) := by decide +kernel
theorem dX12_bear_7 : decode cX12_bear 7 = .ok (.invokevirtual 239, 3) := by decide +kernel
theorem dX12_bear_10 : decode cX12_bear 10 = .ok (.ifCond .eq 12, 3) := by decide +kernel
theorem dX12_bear_22 : decode cX12_bear 22 = .ok (.iconst (-1), 1) := by decide +kernel
theorem dX12_bear_23 : decode cX12_bear 23 = .ok (.ireturn, 1) := by decide +kernel
theorem dX12_today_0 : decode cX12_today 0 = .ok (.aload_n 0, 1) := by decide +kernel
theorem dX12_today_1 : decode cX12_today 1 = .ok (.iconst 0, 1) := by decide +kernel
theorem dX12_today_2 : decode cX12_today 2 = .ok (.putfield 101, 3) := by decide +kernel
theorem dX12_today_5 : decode cX12_today 5 = .ok (.aload_n 0, 1) := by decide +kernel
theorem dX12_today_6 : decode cX12_today 6 = .ok (.getfield 325, 3) := by decide +kernel
theorem dX12_today_9 : decode cX12_today 9 = .ok (.ireturn, 1) := by decide +kernel
theorem dX12_seed_0 : decode cX12_seed 0 = .ok (.aload_n 0, 1) := by decide +kernel
theorem dX12_seed_1 : decode cX12_seed 1 = .ok (.iconst 0, 1) := by decide +kernel
theorem dX12_seed_2 : decode cX12_seed 2 = .ok (.putfield 101, 3) := by decide +kernel
theorem dX12_seed_5 : decode cX12_seed 5 = .ok (.aload_n 0, 1) := by decide +kernel
theorem dX12_seed_6 : decode cX12_seed 6 = .ok (.getfield 32, 3) := by decide +kernel
theorem dX12_seed_9 : decode cX12_seed 9 = .ok (.istore_n 2, 1) := by decide +kernel
theorem dX12_seed_10 : decode cX12_seed 10 = .ok (.aload_n 0, 1) := by decide +kernel
theorem dX12_seed_11 : decode cX12_seed 11 = .ok (.iload_n 1, 1) := by decide +kernel
theorem dX12_seed_12 : decode cX12_seed 12 = .ok (.putfield 32, 3) := by decide +kernel
theorem dX12_seed_15 : decode cX12_seed 15 = .ok (.iload_n 2, 1) := by decide +kernel
theorem dX12_seed_16 : decode cX12_seed 16 = .ok (.ireturn, 1) := by decide +kernel
theorem dX12_keep_0 : decode cX12_keep 0 = .ok (.aload_n 0, 1) := by decide +kernel
theorem dX12_keep_1 : decode cX12_keep 1 = .ok (.iconst 0, 1) := by decide +kernel
theorem dX12_keep_2 : decode cX12_keep 2 = .ok (.putfield 101, 3) := by decide +kernel
theorem dX12_keep_5 : decode cX12_keep 5 = .ok (.iload_n 1, 1) := by decide +kernel
theorem dX12_keep_6 : decode cX12_keep 6 = .ok (.iconst 0, 1) := by decide +kernel
theorem dX12_keep_7 : decode cX12_keep 7 = .ok (.iconst 1, 1) := by decide +kernel
theorem dX12_keep_8 : decode cX12_keep 8 = .ok (.invokestatic 110, 3) := by decide +kernel
theorem dX12_keep_11 : decode cX12_keep 11 = .ok (.ifCond .ne 5, 3) := by decide +kernel
theorem dX12_keep_14 : decode cX12_keep 14 = .ok (.iconst 0, 1) := by decide +kernel
theorem dX12_keep_15 : decode cX12_keep 15 = .ok (.ireturn, 1) := by decide +kernel
theorem dX12_keep_16 : decode cX12_keep 16 = .ok (.aload_n 0, 1) := by decide +kernel
theorem dX12_keep_17 : decode cX12_keep 17 = .ok (.getfield 95, 3) := by decide +kernel
theorem dX12_keep_20 : decode cX12_keep 20 = .ok (.iload_n 1, 1) := by decide +kernel
theorem dX12_keep_21 : decode cX12_keep 21 = .ok (.iconst 1, 1) := by decide +kernel
theorem dX12_keep_22 : decode cX12_keep 22 = .ok (.bastore, 1) := by decide +kernel
theorem dX12_keep_23 : decode cX12_keep 23 = .ok (.aload_n 0, 1) := by decide +kernel
theorem dX12_keep_24 : decode cX12_keep 24 = .ok (.getfield 98, 3) := by decide +kernel
theorem dX12_keep_27 : decode cX12_keep 27 = .ok (.iload_n 1, 1) := by decide +kernel
theorem dX12_keep_28 : decode cX12_keep 28 = .ok (.aload_n 0, 1) := by decide +kernel
theorem dX12_keep_29 : decode cX12_keep 29 = .ok (.getfield 171, 3) := by decide +kernel
theorem dX12_keep_32 : decode cX12_keep 32 = .ok (.iastore, 1) := by decide +kernel
theorem dX12_keep_33 : decode cX12_keep 33 = .ok (.bipush 102, 2) := by decide +kernel
theorem dX12_keep_35 : decode cX12_keep 35 = .ok (.iload_n 1, 1) := by decide +kernel
theorem dX12_keep_36 : decode cX12_keep 36 = .ok (.imul, 1) := by decide +kernel
theorem dX12_keep_37 : decode cX12_keep 37 = .ok (.istore_n 2, 1) := by decide +kernel
theorem dX12_keep_38 : decode cX12_keep 38 = .ok (.aload_n 0, 1) := by decide +kernel
theorem dX12_keep_39 : decode cX12_keep 39 = .ok (.aload_n 0, 1) := by decide +kernel
theorem dX12_keep_40 : decode cX12_keep 40 = .ok (.getfield 92, 3) := by decide +kernel
theorem dX12_keep_43 : decode cX12_keep 43 = .ok (.iload_n 2, 1) := by decide +kernel
theorem dX12_keep_44 : decode cX12_keep 44 = .ok (.invokevirtual 267, 3) := by decide +kernel
theorem dX12_keep_47 : decode cX12_keep 47 = .ok (.iinc 2 28, 3) := by decide +kernel
theorem dX12_keep_50 : decode cX12_keep 50 = .ok (.iconst 0, 1) := by decide +kernel
theorem dX12_keep_51 : decode cX12_keep 51 = .ok (.istore_n 3, 1) := by decide +kernel
theorem dX12_keep_52 : decode cX12_keep 52 = .ok (.iload_n 3, 1) := by decide +kernel
theorem dX12_keep_53 : decode cX12_keep 53 = .ok (.bipush 8, 2) := by decide +kernel
theorem dX12_keep_55 : decode cX12_keep 55 = .ok (.if_icmp .ge 31, 3) := by decide +kernel
theorem dX12_keep_58 : decode cX12_keep 58 = .ok (.aload_n 0, 1) := by decide +kernel
theorem dX12_keep_59 : decode cX12_keep 59 = .ok (.getfield 92, 3) := by decide +kernel
theorem dX12_keep_62 : decode cX12_keep 62 = .ok (.iload_n 2, 1) := by decide +kernel
theorem dX12_keep_63 : decode cX12_keep 63 = .ok (.iload_n 3, 1) := by decide +kernel
theorem dX12_keep_64 : decode cX12_keep 64 = .ok (.iadd, 1) := by decide +kernel
theorem dX12_keep_65 : decode cX12_keep 65 = .ok (.aload_n 0, 1) := by decide +kernel
theorem dX12_keep_66 : decode cX12_keep 66 = .ok (.getfield 16, 3) := by decide +kernel
theorem dX12_keep_69 : decode cX12_keep 69 = .ok (.iload_n 3, 1) := by decide +kernel
theorem dX12_keep_70 : decode cX12_keep 70 = .ok (.baload, 1) := by decide +kernel
theorem dX12_keep_71 : decode cX12_keep 71 = .ok (.ifCond .eq 7, 3) := by decide +kernel
theorem dX12_keep_78 : decode cX12_keep 78 = .ok (.iconst 0, 1) := by decide +kernel
theorem dX12_keep_79 : decode cX12_keep 79 = .ok (.iastore, 1) := by decide +kernel
theorem dX12_keep_80 : decode cX12_keep 80 = .ok (.iinc 3 1, 3) := by decide +kernel
theorem dX12_keep_83 : decode cX12_keep 83 = .ok (.goto (-31), 3) := by decide +kernel
theorem dX12_keep_86 : decode cX12_keep 86 = .ok (.iinc 2 8, 3) := by decide +kernel
theorem dX12_keep_89 : decode cX12_keep 89 = .ok (.iconst 0, 1) := by decide +kernel
theorem dX12_keep_90 : decode cX12_keep 90 = .ok (.istore_n 3, 1) := by decide +kernel
theorem dX12_keep_91 : decode cX12_keep 91 = .ok (.iload_n 3, 1) := by decide +kernel
theorem dX12_keep_92 : decode cX12_keep 92 = .ok (.bipush 64, 2) := by decide +kernel
theorem dX12_keep_94 : decode cX12_keep 94 = .ok (.if_icmp .ge 23, 3) := by decide +kernel
theorem dX12_keep_97 : decode cX12_keep 97 = .ok (.aload_n 0, 1) := by decide +kernel
theorem dX12_keep_98 : decode cX12_keep 98 = .ok (.getfield 92, 3) := by decide +kernel
theorem dX12_keep_101 : decode cX12_keep 101 = .ok (.iload_n 2, 1) := by decide +kernel
theorem dX12_keep_102 : decode cX12_keep 102 = .ok (.iload_n 3, 1) := by decide +kernel
theorem dX12_keep_103 : decode cX12_keep 103 = .ok (.iadd, 1) := by decide +kernel
theorem dX12_keep_104 : decode cX12_keep 104 = .ok (.aload_n 0, 1) := by decide +kernel
theorem dX12_keep_105 : decode cX12_keep 105 = .ok (.getfield 13, 3) := by decide +kernel
theorem dX12_keep_108 : decode cX12_keep 108 = .ok (.iload_n 3, 1) := by decide +kernel
theorem dX12_keep_109 : decode cX12_keep 109 = .ok (.iaload, 1) := by decide +kernel
theorem dX12_keep_110 : decode cX12_keep 110 = .ok (.iastore, 1) := by decide +kernel
theorem dX12_keep_111 : decode cX12_keep 111 = .ok (.iinc 3 1, 3) := by decide +kernel
theorem dX12_keep_114 : decode cX12_keep 114 = .ok (.goto (-23), 3) := by decide +kernel
theorem dX12_keep_117 : decode cX12_keep 117 = .ok (.iinc 2 64, 3) := by decide +kernel
theorem dX12_keep_120 : decode cX12_keep 120 = .ok (.aload_n 0, 1) := by decide +kernel
theorem dX12_keep_121 : decode cX12_keep 121 = .ok (.getfield 92, 3) := by decide +kernel
theorem dX12_keep_124 : decode cX12_keep 124 = .ok (.iload_n 2, 1) := by decide +kernel
theorem dX12_keep_125 : decode cX12_keep 125 = .ok (.aload_n 0, 1) := by decide +kernel
theorem dX12_keep_126 : decode cX12_keep 126 = .ok (.getfield 325, 3) := by decide +kernel
theorem dX12_keep_129 : decode cX12_keep 129 = .ok (.iastore, 1) := by decide +kernel
theorem dX12_keep_130 : decode cX12_keep 130 = .ok (.aload_n 0, 1) := by decide +kernel
theorem dX12_keep_131 : decode cX12_keep 131 = .ok (.getfield 92, 3) := by decide +kernel
theorem dX12_keep_134 : decode cX12_keep 134 = .ok (.iload_n 2, 1) := by decide +kernel
theorem dX12_keep_135 : decode cX12_keep 135 = .ok (.iconst 1, 1) := by decide +kernel
theorem dX12_keep_136 : decode cX12_keep 136 = .ok (.iadd, 1) := by decide +kernel
theorem dX12_keep_137 : decode cX12_keep 137 = .ok (.aload_n 0, 1) := by decide +kernel
theorem dX12_keep_138 : decode cX12_keep 138 = .ok (.getfield 32, 3) := by decide +kernel
theorem dX12_keep_141 : decode cX12_keep 141 = .ok (.iastore, 1) := by decide +kernel
theorem dX12_keep_142 : decode cX12_keep 142 = .ok (.iconst 1, 1) := by decide +kernel
theorem dX12_keep_143 : decode cX12_keep 143 = .ok (.ireturn, 1) := by decide +kernel
theorem dX12_again_0 : decode cX12_again 0 = .ok (.aload_n 0, 1) := by decide +kernel
theorem dX12_again_1 : decode cX12_again 1 = .ok (.iconst 0, 1) := by decide +kernel
theorem dX12_again_2 : decode cX12_again 2 = .ok (.putfield 101, 3) := by decide +kernel
theorem dX12_again_5 : decode cX12_again 5 = .ok (.iload_n 1, 1) := by decide +kernel
theorem dX12_again_6 : decode cX12_again 6 = .ok (.iconst 0, 1) := by decide +kernel
theorem dX12_again_7 : decode cX12_again 7 = .ok (.iconst 1, 1) := by decide +kernel
theorem dX12_again_8 : decode cX12_again 8 = .ok (.invokestatic 110, 3) := by decide +kernel
theorem dX12_again_11 : decode cX12_again 11 = .ok (.ifCond .eq 25, 3) := by decide +kernel
theorem dX12_again_14 : decode cX12_again 14 = .ok (.aload_n 0, 1) := by decide +kernel
theorem dX12_again_15 : decode cX12_again 15 = .ok (.getfield 95, 3) := by decide +kernel
theorem dX12_again_18 : decode cX12_again 18 = .ok (.iload_n 1, 1) := by decide +kernel
theorem dX12_again_19 : decode cX12_again 19 = .ok (.baload, 1) := by decide +kernel
theorem dX12_again_20 : decode cX12_again 20 = .ok (.ifCond .eq 16, 3) := by decide +kernel
theorem dX12_again_36 : decode cX12_again 36 = .ok (.iconst 0, 1) := by decide +kernel
theorem dX12_again_37 : decode cX12_again 37 = .ok (.ireturn, 1) := by decide +kernel
theorem dX12_count_0 : decode cX12_count 0 = .ok (.aload_n 0, 1) := by decide +kernel
theorem dX12_count_1 : decode cX12_count 1 = .ok (.iconst 0, 1) := by decide +kernel
theorem dX12_count_2 : decode cX12_count 2 = .ok (.putfield 101, 3) := by decide +kernel
theorem dX12_count_5 : decode cX12_count 5 = .ok (.iconst 0, 1) := by decide +kernel
theorem dX12_count_6 : decode cX12_count 6 = .ok (.istore_n 2, 1) := by decide +kernel
theorem dX12_count_7 : decode cX12_count 7 = .ok (.iload_n 1, 1) := by decide +kernel
theorem dX12_count_8 : decode cX12_count 8 = .ok (.tableswitch 110 0 7 #[48, 53, 58, 63, 68, 73, 100, 105], 48) := by decide +kernel
theorem dX12_count_56 : decode cX12_count 56 = .ok (.aload_n 0, 1) := by decide +kernel
theorem dX12_count_57 : decode cX12_count 57 = .ok (.getfield 107, 3) := by decide +kernel
theorem dX12_count_60 : decode cX12_count 60 = .ok (.ireturn, 1) := by decide +kernel
theorem dX12_count_61 : decode cX12_count 61 = .ok (.aload_n 0, 1) := by decide +kernel
theorem dX12_count_62 : decode cX12_count 62 = .ok (.getfield 114, 3) := by decide +kernel
theorem dX12_count_65 : decode cX12_count 65 = .ok (.ireturn, 1) := by decide +kernel
theorem dX12_count_66 : decode cX12_count 66 = .ok (.aload_n 0, 1) := by decide +kernel
theorem dX12_count_67 : decode cX12_count 67 = .ok (.invokevirtual 370, 3) := by decide +kernel
theorem dX12_count_70 : decode cX12_count 70 = .ok (.ireturn, 1) := by decide +kernel
theorem dX12_count_71 : decode cX12_count 71 = .ok (.aload_n 0, 1) := by decide +kernel
theorem dX12_count_72 : decode cX12_count 72 = .ok (.getfield 174, 3) := by decide +kernel
theorem dX12_count_75 : decode cX12_count 75 = .ok (.ireturn, 1) := by decide +kernel
theorem dX12_count_76 : decode cX12_count 76 = .ok (.aload_n 0, 1) := by decide +kernel
theorem dX12_count_77 : decode cX12_count 77 = .ok (.getfield 391, 3) := by decide +kernel
theorem dX12_count_80 : decode cX12_count 80 = .ok (.ireturn, 1) := by decide +kernel
theorem dX12_count_81 : decode cX12_count 81 = .ok (.iconst 0, 1) := by decide +kernel
theorem dX12_count_82 : decode cX12_count 82 = .ok (.istore_n 3, 1) := by decide +kernel
theorem dX12_count_83 : decode cX12_count 83 = .ok (.iload_n 3, 1) := by decide +kernel
theorem dX12_count_84 : decode cX12_count 84 = .ok (.aload_n 0, 1) := by decide +kernel
theorem dX12_count_85 : decode cX12_count 85 = .ok (.getfield 107, 3) := by decide +kernel
theorem dX12_count_88 : decode cX12_count 88 = .ok (.if_icmp .ge 18, 3) := by decide +kernel
theorem dX12_count_106 : decode cX12_count 106 = .ok (.iload_n 2, 1) := by decide +kernel
theorem dX12_count_107 : decode cX12_count 107 = .ok (.ireturn, 1) := by decide +kernel
theorem dX12_count_108 : decode cX12_count 108 = .ok (.aload_n 0, 1) := by decide +kernel
theorem dX12_count_109 : decode cX12_count 109 = .ok (.getfield 104, 3) := by decide +kernel
theorem dX12_count_112 : decode cX12_count 112 = .ok (.ireturn, 1) := by decide +kernel
theorem dX12_count_113 : decode cX12_count 113 = .ok (.aload_n 0, 1) := by decide +kernel
theorem dX12_count_114 : decode cX12_count 114 = .ok (.getfield 117, 3) := by decide +kernel
theorem dX12_count_117 : decode cX12_count 117 = .ok (.ireturn, 1) := by decide +kernel
theorem dX12_count_118 : decode cX12_count 118 = .ok (.iconst (-1), 1) := by decide +kernel
theorem dX12_count_119 : decode cX12_count 119 = .ok (.ireturn, 1) := by decide +kernel
theorem dX12_row_0 : decode cX12_row 0 = .ok (.aload_n 0, 1) := by decide +kernel
theorem dX12_row_1 : decode cX12_row 1 = .ok (.iconst 0, 1) := by decide +kernel
theorem dX12_row_2 : decode cX12_row 2 = .ok (.putfield 101, 3) := by decide +kernel
theorem dX12_row_5 : decode cX12_row 5 = .ok (.iload_n 1, 1) := by decide +kernel
theorem dX12_row_6 : decode cX12_row 6 = .ok (.iconst 0, 1) := by decide +kernel
theorem dX12_row_7 : decode cX12_row 7 = .ok (.aload_n 0, 1) := by decide +kernel
theorem dX12_row_8 : decode cX12_row 8 = .ok (.getfield 104, 3) := by decide +kernel
theorem dX12_row_11 : decode cX12_row 11 = .ok (.iconst 1, 1) := by decide +kernel
theorem dX12_row_12 : decode cX12_row 12 = .ok (.isub, 1) := by decide +kernel
theorem dX12_row_13 : decode cX12_row 13 = .ok (.invokestatic 110, 3) := by decide +kernel
theorem dX12_row_16 : decode cX12_row 16 = .ok (.ifCond .eq 12, 3) := by decide +kernel
theorem dX12_row_28 : decode cX12_row 28 = .ok (.aload_n 0, 1) := by decide +kernel
theorem dX12_row_29 : decode cX12_row 29 = .ok (.invokevirtual 227, 3) := by decide +kernel
theorem dX12_row_32 : decode cX12_row 32 = .ok (.ireturn, 1) := by decide +kernel
theorem dJ6_bitCount_0f7a4_0 : decode cJ6_bitCount_0f7a4 0 = .ok (.iload_n 0, 1) := by decide +kernel
theorem dJ6_bitCount_0f7a4_1 : decode cJ6_bitCount_0f7a4 1 = .ok (.iload_n 0, 1) := by decide +kernel
theorem dJ6_bitCount_0f7a4_2 : decode cJ6_bitCount_0f7a4 2 = .ok (.iconst 1, 1) := by decide +kernel
theorem dJ6_bitCount_0f7a4_3 : decode cJ6_bitCount_0f7a4 3 = .ok (.iushr, 1) := by decide +kernel
theorem dJ6_bitCount_0f7a4_4 : decode cJ6_bitCount_0f7a4 4 = .ok (.ldc_w 265, 3) := by decide +kernel
theorem dJ6_bitCount_0f7a4_7 : decode cJ6_bitCount_0f7a4 7 = .ok (.iand, 1) := by decide +kernel
theorem dJ6_bitCount_0f7a4_8 : decode cJ6_bitCount_0f7a4 8 = .ok (.isub, 1) := by decide +kernel
theorem dJ6_bitCount_0f7a4_9 : decode cJ6_bitCount_0f7a4 9 = .ok (.istore_n 0, 1) := by decide +kernel
theorem dJ6_bitCount_0f7a4_10 : decode cJ6_bitCount_0f7a4 10 = .ok (.iload_n 0, 1) := by decide +kernel
theorem dJ6_bitCount_0f7a4_11 : decode cJ6_bitCount_0f7a4 11 = .ok (.ldc_w 266, 3) := by decide +kernel
theorem dJ6_bitCount_0f7a4_14 : decode cJ6_bitCount_0f7a4 14 = .ok (.iand, 1) := by decide +kernel
theorem dJ6_bitCount_0f7a4_15 : decode cJ6_bitCount_0f7a4 15 = .ok (.iload_n 0, 1) := by decide +kernel
theorem dJ6_bitCount_0f7a4_16 : decode cJ6_bitCount_0f7a4 16 = .ok (.iconst 2, 1) := by decide +kernel
theorem dJ6_bitCount_0f7a4_17 : decode cJ6_bitCount_0f7a4 17 = .ok (.iushr, 1) := by decide +kernel
theorem dJ6_bitCount_0f7a4_18 : decode cJ6_bitCount_0f7a4 18 = .ok (.ldc_w 266, 3) := by decide +kernel
theorem dJ6_bitCount_0f7a4_21 : decode cJ6_bitCount_0f7a4 21 = .ok (.iand, 1) := by decide +kernel
theorem dJ6_bitCount_0f7a4_22 : decode cJ6_bitCount_0f7a4 22 = .ok (.iadd, 1) := by decide +kernel
theorem dJ6_bitCount_0f7a4_23 : decode cJ6_bitCount_0f7a4 23 = .ok (.istore_n 0, 1) := by decide +kernel
theorem dJ6_bitCount_0f7a4_24 : decode cJ6_bitCount_0f7a4 24 = .ok (.iload_n 0, 1) := by decide +kernel
theorem dJ6_bitCount_0f7a4_25 : decode cJ6_bitCount_0f7a4 25 = .ok (.iload_n 0, 1) := by decide +kernel
theorem dJ6_bitCount_0f7a4_26 : decode cJ6_bitCount_0f7a4 26 = .ok (.iconst 4, 1) := by decide +kernel
theorem dJ6_bitCount_0f7a4_27 : decode cJ6_bitCount_0f7a4 27 = .ok (.iushr, 1) := by decide +kernel
theorem dJ6_bitCount_0f7a4_28 : decode cJ6_bitCount_0f7a4 28 = .ok (.iadd, 1) := by decide +kernel
theorem dJ6_bitCount_0f7a4_29 : decode cJ6_bitCount_0f7a4 29 = .ok (.ldc_w 267, 3) := by decide +kernel
theorem dJ6_bitCount_0f7a4_32 : decode cJ6_bitCount_0f7a4 32 = .ok (.iand, 1) := by decide +kernel
theorem dJ6_bitCount_0f7a4_33 : decode cJ6_bitCount_0f7a4 33 = .ok (.istore_n 0, 1) := by decide +kernel
theorem dJ6_bitCount_0f7a4_34 : decode cJ6_bitCount_0f7a4 34 = .ok (.iload_n 0, 1) := by decide +kernel
theorem dJ6_bitCount_0f7a4_35 : decode cJ6_bitCount_0f7a4 35 = .ok (.iload_n 0, 1) := by decide +kernel
theorem dJ6_bitCount_0f7a4_36 : decode cJ6_bitCount_0f7a4 36 = .ok (.bipush 8, 2) := by decide +kernel
theorem dJ6_bitCount_0f7a4_38 : decode cJ6_bitCount_0f7a4 38 = .ok (.iushr, 1) := by decide +kernel
theorem dJ6_bitCount_0f7a4_39 : decode cJ6_bitCount_0f7a4 39 = .ok (.iadd, 1) := by decide +kernel
theorem dJ6_bitCount_0f7a4_40 : decode cJ6_bitCount_0f7a4 40 = .ok (.istore_n 0, 1) := by decide +kernel
theorem dJ6_bitCount_0f7a4_41 : decode cJ6_bitCount_0f7a4 41 = .ok (.iload_n 0, 1) := by decide +kernel
theorem dJ6_bitCount_0f7a4_42 : decode cJ6_bitCount_0f7a4 42 = .ok (.iload_n 0, 1) := by decide +kernel
theorem dJ6_bitCount_0f7a4_43 : decode cJ6_bitCount_0f7a4 43 = .ok (.bipush 16, 2) := by decide +kernel
theorem dJ6_bitCount_0f7a4_45 : decode cJ6_bitCount_0f7a4 45 = .ok (.iushr, 1) := by decide +kernel
theorem dJ6_bitCount_0f7a4_46 : decode cJ6_bitCount_0f7a4 46 = .ok (.iadd, 1) := by decide +kernel
theorem dJ6_bitCount_0f7a4_47 : decode cJ6_bitCount_0f7a4 47 = .ok (.istore_n 0, 1) := by decide +kernel
theorem dJ6_bitCount_0f7a4_48 : decode cJ6_bitCount_0f7a4 48 = .ok (.iload_n 0, 1) := by decide +kernel
theorem dJ6_bitCount_0f7a4_49 : decode cJ6_bitCount_0f7a4 49 = .ok (.bipush 63, 2) := by decide +kernel
theorem dJ6_bitCount_0f7a4_51 : decode cJ6_bitCount_0f7a4 51 = .ok (.iand, 1) := by decide +kernel
theorem dJ6_bitCount_0f7a4_52 : decode cJ6_bitCount_0f7a4 52 = .ok (.ireturn, 1) := by decide +kernel
theorem dJ7_fill_53178_0 : decode cJ7_fill_53178 0 = .ok (.iconst 0, 1) := by decide +kernel
theorem dJ7_fill_53178_1 : decode cJ7_fill_53178 1 = .ok (.istore_n 2, 1) := by decide +kernel
theorem dJ7_fill_53178_2 : decode cJ7_fill_53178 2 = .ok (.aload_n 0, 1) := by decide +kernel
theorem dJ7_fill_53178_3 : decode cJ7_fill_53178 3 = .ok (.arraylength, 1) := by decide +kernel
theorem dJ7_fill_53178_4 : decode cJ7_fill_53178 4 = .ok (.istore_n 3, 1) := by decide +kernel
theorem dJ7_fill_53178_5 : decode cJ7_fill_53178 5 = .ok (.iload_n 2, 1) := by decide +kernel
theorem dJ7_fill_53178_6 : decode cJ7_fill_53178 6 = .ok (.iload_n 3, 1) := by decide +kernel
theorem dJ7_fill_53178_7 : decode cJ7_fill_53178 7 = .ok (.if_icmp .ge 13, 3) := by decide +kernel
theorem dJ7_fill_53178_10 : decode cJ7_fill_53178 10 = .ok (.aload_n 0, 1) := by decide +kernel
theorem dJ7_fill_53178_11 : decode cJ7_fill_53178 11 = .ok (.iload_n 2, 1) := by decide +kernel
theorem dJ7_fill_53178_12 : decode cJ7_fill_53178 12 = .ok (.iload_n 1, 1) := by decide +kernel
theorem dJ7_fill_53178_13 : decode cJ7_fill_53178 13 = .ok (.iastore, 1) := by decide +kernel
theorem dJ7_fill_53178_14 : decode cJ7_fill_53178 14 = .ok (.iinc 2 1, 3) := by decide +kernel
theorem dJ7_fill_53178_17 : decode cJ7_fill_53178 17 = .ok (.goto (-12), 3) := by decide +kernel
theorem dJ7_fill_53178_20 : decode cJ7_fill_53178 20 = .ok (.return_, 1) := by decide +kernel
theorem dL_of_0 : decode cL_of 0 = .ok (.aload_n 3, 1) := by decide +kernel
theorem dL_of_1 : decode cL_of 1 = .ok (.iconst 0, 1) := by decide +kernel
theorem dL_of_2 : decode cL_of 2 = .ok (.aload_n 0, 1) := by decide +kernel
theorem dL_of_3 : decode cL_of 3 = .ok (.iload_n 1, 1) := by decide +kernel
theorem dL_of_4 : decode cL_of 4 = .ok (.iload_n 2, 1) := by decide +kernel
theorem dL_of_5 : decode cL_of 5 = .ok (.invokevirtual 7, 3) := by decide +kernel
theorem dL_of_8 : decode cL_of 8 = .ok (.i2l, 1) := by decide +kernel
theorem dL_of_9 : decode cL_of 9 = .ok (.lastore, 1) := by decide +kernel
theorem dL_of_10 : decode cL_of 10 = .ok (.goto 7, 3) := by decide +kernel
theorem dL_of_13 : decode cL_of 13 = .ok (.astore 4, 2) := by decide +kernel
theorem dL_of_15 : decode cL_of 15 = .ok (.iconst 1, 1) := by decide +kernel
theorem dL_of_16 : decode cL_of 16 = .ok (.ireturn, 1) := by decide +kernel
theorem dL_of_17 : decode cL_of 17 = .ok (.iconst 0, 1) := by decide +kernel
theorem dL_of_18 : decode cL_of 18 = .ok (.ireturn, 1) := by decide +kernel
theorem dL_thing_0 : decode cL_thing 0 = .ok (.aload_n 3, 1) := by decide +kernel
theorem dL_thing_1 : decode cL_thing 1 = .ok (.iconst 0, 1) := by decide +kernel
theorem dL_thing_2 : decode cL_thing 2 = .ok (.aload_n 0, 1) := by decide +kernel
theorem dL_thing_3 : decode cL_thing 3 = .ok (.iload_n 1, 1) := by decide +kernel
theorem dL_thing_4 : decode cL_thing 4 = .ok (.iload_n 2, 1) := by decide +kernel
theorem dL_thing_5 : decode cL_thing 5 = .ok (.invokevirtual 15, 3) := by decide +kernel
theorem dL_thing_8 : decode cL_thing 8 = .ok (.i2l, 1) := by decide +kernel
theorem dL_thing_9 : decode cL_thing 9 = .ok (.lastore, 1) := by decide +kernel
theorem dL_thing_10 : decode cL_thing 10 = .ok (.goto 7, 3) := by decide +kernel
theorem dL_thing_13 : decode cL_thing 13 = .ok (.astore 4, 2) := by decide +kernel
theorem dL_thing_15 : decode cL_thing 15 = .ok (.iconst 1, 1) := by decide +kernel
theorem dL_thing_16 : decode cL_thing 16 = .ok (.ireturn, 1) := by decide +kernel
theorem dL_thing_17 : decode cL_thing 17 = .ok (.iconst 0, 1) := by decide +kernel
theorem dL_thing_18 : decode cL_thing 18 = .ok (.ireturn, 1) := by decide +kernel
theorem dL_row_0 : decode cL_row 0 = .ok (.aload_n 2, 1) := by decide +kernel
theorem dL_row_1 : decode cL_row 1 = .ok (.iconst 0, 1) := by decide +kernel
theorem dL_row_2 : decode cL_row 2 = .ok (.aload_n 0, 1) := by decide +kernel
theorem dL_row_3 : decode cL_row 3 = .ok (.iload_n 1, 1) := by decide +kernel
theorem dL_row_4 : decode cL_row 4 = .ok (.invokevirtual 18, 3) := by decide +kernel
theorem dL_row_7 : decode cL_row 7 = .ok (.i2l, 1) := by decide +kernel
theorem dL_row_8 : decode cL_row 8 = .ok (.lastore, 1) := by decide +kernel
theorem dL_row_9 : decode cL_row 9 = .ok (.goto 6, 3) := by decide +kernel
theorem dL_row_12 : decode cL_row 12 = .ok (.astore_n 3, 1) := by decide +kernel
theorem dL_row_13 : decode cL_row 13 = .ok (.iconst 1, 1) := by decide +kernel
theorem dL_row_14 : decode cL_row 14 = .ok (.ireturn, 1) := by decide +kernel
theorem dL_row_15 : decode cL_row 15 = .ok (.iconst 0, 1) := by decide +kernel
theorem dL_row_16 : decode cL_row 16 = .ok (.ireturn, 1) := by decide +kernel
set_option maxRecDepth 20000 in
theorem ggX11_init_X9_init_n11 : GoodIn wsX11_init wsX9_init := (goodIn_ca (goodIn_r _ [57, 58, 2, 3, 4, 59] (by decide +kernel) (by decide +kernel)) (goodIn_sub (fun _ h => List.mem_cons_of_mem _ (List.mem_append_right _ h)) gwX9))
set_option maxRecDepth 20000 in
theorem gX11_init_X9_init_n11 : GoodIn wsX11_init wsX9_init := ggX11_init_X9_init_n11
set_option maxRecDepth 20000 in
theorem ggX11_init_X2_init : GoodIn wsX11_init wsX2_init := (goodIn_ca (goodIn_r _ [60, 61, 2, 3, 62, 63, 64] (by decide +kernel) (by decide +kernel)) (goodIn_sub (fun _ h => List.mem_cons_of_mem _ (List.mem_append_left _ (List.mem_append_left _ (List.mem_append_left _ (List.mem_append_left _ (List.mem_append_left _ (List.mem_append_right _ h))))))) gwX2))
set_option maxRecDepth 20000 in
theorem gX11_init_X2_init : GoodIn wsX11_init wsX2_init := ggX11_init_X2_init
set_option maxRecDepth 20000 in
theorem ggX11_init_X5_init_n38 : GoodIn wsX11_init wsX5_init := (goodIn_ca (goodIn_r _ [65, 66, 2, 3, 4, 67, 68] (by decide +kernel) (by decide +kernel)) (goodIn_sub (fun _ h => List.mem_cons_of_mem _ (List.mem_append_left _ (List.mem_append_left _ (List.mem_append_right _ h)))) gwX5))
set_option maxRecDepth 20000 in
theorem gX11_init_X5_init_n38 : GoodIn wsX11_init wsX5_init := ggX11_init_X5_init_n38
set_option maxRecDepth 20000 in
theorem ggX11_init_X10_init : GoodIn wsX11_init wsX10_init := (goodIn_ca (goodIn_r _ [69, 70, 2, 3, 71] (by decide +kernel) (by decide +kernel)) (goodIn_sub (fun _ h => List.mem_cons_of_mem _ (List.mem_append_left _ (List.mem_append_left _ (List.mem_append_left _ (List.mem_append_left _ (List.mem_append_left _ (List.mem_append_left _ (List.mem_append_left _ (List.mem_append_right _ h))))))))) gwX10))
set_option maxRecDepth 20000 in
theorem gX11_init_X10_init : GoodIn wsX11_init wsX10_init := ggX11_init_X10_init
set_option maxRecDepth 20000 in
theorem ggX11_init_X6_init_n54 : GoodIn wsX11_init wsX6_init := (goodIn_ca (goodIn_r _ [72, 73, 2, 3, 4, 74] (by decide +kernel) (by decide +kernel)) (goodIn_sub (fun _ h => List.mem_cons_of_mem _ (List.mem_append_left _ (List.mem_append_right _ h))) gwX6))
set_option maxRecDepth 20000 in
theorem gX11_init_X6_init_n54 : GoodIn wsX11_init wsX6_init := ggX11_init_X6_init_n54
set_option maxRecDepth 20000 in
theorem ggX11_init_X3_init_n61 : GoodIn wsX11_init wsX3_init := (goodIn_r _ [75, 76, 2, 3] (by decide +kernel) (by decide +kernel))
set_option maxRecDepth 20000 in
theorem gX11_init_X3_init_n61 : GoodIn wsX11_init wsX3_init := ggX11_init_X3_init_n61
set_option maxRecDepth 20000 in
theorem ggX11_init_X4_init_n68 : GoodIn wsX11_init wsX4_init := (goodIn_ca (goodIn_r _ [77, 78, 2, 3, 79, 80, 81, 82] (by decide +kernel) (by decide +kernel)) (goodIn_sub (fun _ h => List.mem_cons_of_mem _ (List.mem_append_left _ (List.mem_append_left _ (List.mem_append_left _ (List.mem_append_right _ h))))) gwX4))
set_option maxRecDepth 20000 in
theorem gX11_init_X4_init_n68 : GoodIn wsX11_init wsX4_init := ggX11_init_X4_init_n68
set_option maxRecDepth 20000 in
theorem ggX11_init_X1_init_n75 : GoodIn wsX11_init wsX1_init := (goodIn_r _ [83, 84, 2, 3] (by decide +kernel) (by decide +kernel))
set_option maxRecDepth 20000 in
theorem gX11_init_X1_init_n75 : GoodIn wsX11_init wsX1_init := ggX11_init_X1_init_n75
set_option maxRecDepth 20000 in
theorem ggX11_init_X0_init_n82 : GoodIn wsX11_init wsX0_init := (goodIn_ca (goodIn_r _ [85, 86, 2, 3, 4, 87, 88] (by decide +kernel) (by decide +kernel)) (goodIn_sub (fun _ h => List.mem_cons_of_mem _ (List.mem_append_left _ (List.mem_append_left _ (List.mem_append_left _ (List.mem_append_left _ (List.mem_append_left _ (List.mem_append_left _ (List.mem_append_left _ (List.mem_append_left _ (List.mem_append_left _ (List.mem_append_right _ h))))))))))) gwX0))
set_option maxRecDepth 20000 in
theorem gX11_init_X0_init_n82 : GoodIn wsX11_init wsX0_init := ggX11_init_X0_init_n82
set_option maxRecDepth 20000 in
theorem ggX11_of_X2_hasPerson : GoodIn wsX11_of wsX2_hasPerson := (goodIn_ca (goodIn_r _ [8, 9] (by decide +kernel) (by decide +kernel)) (goodIn_sub (fun _ h => List.mem_cons_of_mem _ (List.mem_append_left _ (List.mem_append_right _ h))) gwX2))
set_option maxRecDepth 20000 in
theorem gX11_of_X2_hasPerson : GoodIn wsX11_of (wsV RX11 112 RX2 yX2_hasPerson wsX2_hasPerson) := goodIn_app (goodIn_of _ (by decide +kernel)) ggX11_of_X2_hasPerson
set_option maxRecDepth 20000 in
theorem ggL_of_X11_of : GoodIn wsL_of wsX11_of := (goodIn_ca (goodIn_ca (goodIn_ca (goodIn_r _ [6, 7, 8, 9, 10, 11, 12, 13, 14, 15] (by decide +kernel) (by decide +kernel)) (goodIn_sub (fun _ h => List.mem_cons_of_mem _ (List.mem_append_left _ (List.mem_append_left _ (List.mem_append_right _ h)))) gwX11)) (goodIn_sub (fun _ h => List.mem_cons_of_mem _ (List.mem_append_left _ (List.mem_append_right _ h))) gwX2)) (goodIn_sub (fun _ h => List.mem_cons_of_mem _ (List.mem_append_right _ h)) gwx))
set_option maxRecDepth 20000 in
theorem gL_of_X11_of : GoodIn wsL_of (wsV RL 7 RX11 yX11_of wsX11_of) := goodIn_app (goodIn_of _ (by decide +kernel)) ggL_of_X11_of
set_option maxRecDepth 20000 in
theorem ggX11_thing_X2_hasThing : GoodIn wsX11_thing wsX2_hasThing := (goodIn_ca (goodIn_r _ [8, 9] (by decide +kernel) (by decide +kernel)) (goodIn_sub (fun _ h => List.mem_cons_of_mem _ (List.mem_append_left _ (List.mem_append_right _ h))) gwX2))
set_option maxRecDepth 20000 in
theorem gX11_thing_X2_hasThing : GoodIn wsX11_thing (wsV RX11 141 RX2 yX2_hasThing wsX2_hasThing) := goodIn_app (goodIn_of _ (by decide +kernel)) ggX11_thing_X2_hasThing
set_option maxRecDepth 20000 in
theorem ggL_thing_X11_thing : GoodIn wsL_thing wsX11_thing := (goodIn_ca (goodIn_ca (goodIn_ca (goodIn_r _ [6, 7, 8, 9, 10, 11, 12, 13, 14, 15] (by decide +kernel) (by decide +kernel)) (goodIn_sub (fun _ h => List.mem_cons_of_mem _ (List.mem_append_left _ (List.mem_append_left _ (List.mem_append_right _ h)))) gwX11)) (goodIn_sub (fun _ h => List.mem_cons_of_mem _ (List.mem_append_left _ (List.mem_append_right _ h))) gwX2)) (goodIn_sub (fun _ h => List.mem_cons_of_mem _ (List.mem_append_right _ h)) gwx))
set_option maxRecDepth 20000 in
theorem gL_thing_X11_thing : GoodIn wsL_thing (wsV RL 15 RX11 yX11_thing wsX11_thing) := goodIn_app (goodIn_of _ (by decide +kernel)) ggL_thing_X11_thing
set_option maxRecDepth 20000 in
theorem ggL_row_X11_row : GoodIn wsL_row wsX11_row := (goodIn_ca (goodIn_ca (goodIn_r _ [6, 7, 8, 9] (by decide +kernel) (by decide +kernel)) (goodIn_sub (fun _ h => List.mem_cons_of_mem _ (List.mem_append_left _ (List.mem_append_right _ h))) gwX11)) (goodIn_sub (fun _ h => List.mem_cons_of_mem _ (List.mem_append_right _ h)) gwx))
set_option maxRecDepth 20000 in
theorem gL_row_X11_row : GoodIn wsL_row (wsV RL 18 RX11 yX11_row wsX11_row) := goodIn_app (goodIn_of _ (by decide +kernel)) ggL_row_X11_row
set_option maxRecDepth 20000 in
theorem ggX11_sign_X9_addFour : GoodIn wsX11_sign wsX9_addFour := (goodIn_ca (goodIn_r _ [6, 7, 8] (by decide +kernel) (by decide +kernel)) (goodIn_sub (fun _ h => List.mem_cons_of_mem _ (List.mem_append_right _ h)) gwX9))
set_option maxRecDepth 20000 in
theorem gX11_sign_X9_addFour : GoodIn wsX11_sign (wsV RX11 91 RX9 yX9_addFour wsX9_addFour) := goodIn_app (goodIn_of _ (by decide +kernel)) ggX11_sign_X9_addFour
set_option maxRecDepth 20000 in
theorem ggX11_sign_X9_length : GoodIn wsX11_sign wsX9_length := (goodIn_ca (goodIn_r _ [12, 7] (by decide +kernel) (by decide +kernel)) (goodIn_sub (fun _ h => List.mem_cons_of_mem _ (List.mem_append_right _ h)) gwX9))
set_option maxRecDepth 20000 in
theorem gX11_sign_X9_length : GoodIn wsX11_sign (wsV RX11 95 RX9 yX9_length wsX9_length) := goodIn_app (goodIn_of _ (by decide +kernel)) ggX11_sign_X9_length
set_option maxRecDepth 20000 in
theorem ggX11_end_X9_cut : GoodIn wsX11_end wsX9_cut := (goodIn_ca (goodIn_r _ [6, 7] (by decide +kernel) (by decide +kernel)) (goodIn_sub (fun _ h => List.mem_cons_of_mem _ (List.mem_append_right _ h)) gwX9))
set_option maxRecDepth 20000 in
theorem gX11_end_X9_cut : GoodIn wsX11_end (wsV RX11 99 RX9 yX9_cut wsX9_cut) := goodIn_app (goodIn_of _ (by decide +kernel)) ggX11_end_X9_cut
set_option maxRecDepth 20000 in
theorem ggX12_end_X12_in : GoodIn wsX12_end wsX12_in := (goodIn_r _ [6] (by decide +kernel) (by decide +kernel))
set_option maxRecDepth 20000 in
theorem gX12_end_X12_in : GoodIn wsX12_end (va_wsS RX12 110 yX12_in wsX12_in) := goodIn_app (goodIn_of _ (by decide +kernel)) ggX12_end_X12_in
set_option maxRecDepth 20000 in
theorem ggX3_read_X9_length : GoodIn wsX3_read wsX9_length := (goodIn_ca (goodIn_r _ [5, 6] (by decide +kernel) (by decide +kernel)) (goodIn_sub (fun _ h => List.mem_cons_of_mem _ (List.mem_append_right _ h)) gwX9))
set_option maxRecDepth 20000 in
theorem gX3_read_X9_length : GoodIn wsX3_read (wsV RX3 9 RX9 yX9_length wsX9_length) := goodIn_app (goodIn_of _ (by decide +kernel)) ggX3_read_X9_length
set_option maxRecDepth 20000 in
theorem ggX11_market_X3_read : GoodIn wsX11_market wsX3_read := (goodIn_ca (goodIn_r _ [8, 9, 10, 11, 12, 13, 14] (by decide +kernel) (by decide +kernel)) (goodIn_sub (fun _ h => List.mem_cons_of_mem _ (List.mem_append_right _ h)) gwX9))
set_option maxRecDepth 20000 in
theorem gX11_market_X3_read : GoodIn wsX11_market (wsV RX11 102 RX3 yX3_read wsX3_read) := goodIn_app (goodIn_of _ (by decide +kernel)) ggX11_market_X3_read
set_option maxRecDepth 20000 in
theorem ggX11_market_X9_cut : GoodIn wsX11_market wsX9_cut := (goodIn_ca (goodIn_r _ [18, 14] (by decide +kernel) (by decide +kernel)) (goodIn_sub (fun _ h => List.mem_cons_of_mem _ (List.mem_append_right _ h)) gwX9))
set_option maxRecDepth 20000 in
theorem gX11_market_X9_cut : GoodIn wsX11_market (wsV RX11 99 RX9 yX9_cut wsX9_cut) := goodIn_app (goodIn_of _ (by decide +kernel)) ggX11_market_X9_cut
set_option maxRecDepth 20000 in
theorem ggX12_market_X12_begin : GoodIn wsX12_market wsX12_begin := (goodIn_ca (goodIn_r _ [9, 10, 4, 11, 12, 13] (by decide +kernel) (by decide +kernel)) (goodIn_sub (fun _ h => List.mem_cons_of_mem _ (List.mem_append_right _ h)) gwX12))
set_option maxRecDepth 20000 in
theorem gX12_market_X12_begin : GoodIn wsX12_market (wsV RX12 151 RX12 yX12_begin wsX12_begin) := goodIn_app (goodIn_of _ (by decide +kernel)) ggX12_market_X12_begin
set_option maxRecDepth 20000 in
theorem ggX6_read_X9_startReading : GoodIn wsX6_read wsX9_startReading := (goodIn_ca (goodIn_r _ [7, 8, 9, 10, 11, 12, 13, 14] (by decide +kernel) (by decide +kernel)) (goodIn_sub (fun _ h => List.mem_cons_of_mem _ (List.mem_append_left _ (List.mem_append_right _ h))) gwX9))
set_option maxRecDepth 20000 in
theorem gX6_read_X9_startReading : GoodIn wsX6_read (wsV RX6 21 RX9 yX9_startReading wsX9_startReading) := goodIn_app (goodIn_of _ (by decide +kernel)) ggX6_read_X9_startReading
set_option maxRecDepth 20000 in
theorem ggX6_read_X9_length : GoodIn wsX6_read wsX9_length := (goodIn_ca (goodIn_r _ [18, 9] (by decide +kernel) (by decide +kernel)) (goodIn_sub (fun _ h => List.mem_cons_of_mem _ (List.mem_append_left _ (List.mem_append_right _ h))) gwX9))
set_option maxRecDepth 20000 in
theorem gX6_read_X9_length : GoodIn wsX6_read (wsV RX6 27 RX9 yX9_length wsX9_length) := goodIn_app (goodIn_of _ (by decide +kernel)) ggX6_read_X9_length
set_option maxRecDepth 20000 in
theorem ggX6_read_X5_take : GoodIn wsX6_read wsX5_take := (goodIn_ca (goodIn_r _ [23, 24] (by decide +kernel) (by decide +kernel)) (goodIn_sub (fun _ h => List.mem_cons_of_mem _ (List.mem_append_right _ h)) gwX5))
set_option maxRecDepth 20000 in
theorem gX6_read_X5_take : GoodIn wsX6_read (wsV RX6 45 RX5 yX5_take wsX5_take) := goodIn_app (goodIn_of _ (by decide +kernel)) ggX6_read_X5_take
set_option maxRecDepth 20000 in
theorem ggX11_rule_X6_read : GoodIn wsX11_rule wsX6_read := (goodIn_ca (goodIn_ca (goodIn_ca (goodIn_r _ [8, 9, 10, 11, 12, 13, 14, 15, 16, 17, 18, 19, 20, 21, 22, 23, 24, 25, 26, 27, 28, 29, 30, 31, 32] (by decide +kernel) (by decide +kernel)) (goodIn_sub (fun _ h => List.mem_cons_of_mem _ (List.mem_append_left _ (List.mem_append_left _ (List.mem_append_right _ h)))) gwX6)) (goodIn_sub (fun _ h => List.mem_cons_of_mem _ (List.mem_append_left _ (List.mem_append_right _ h))) gwX9)) (goodIn_sub (fun _ h => List.mem_cons_of_mem _ (List.mem_append_right _ h)) gwX5))
set_option maxRecDepth 20000 in
theorem gX11_rule_X6_read : GoodIn wsX11_rule (wsV RX11 109 RX6 yX6_read wsX6_read) := goodIn_app (goodIn_of _ (by decide +kernel)) ggX11_rule_X6_read
set_option maxRecDepth 20000 in
theorem ggX11_rule_X9_cut : GoodIn wsX11_rule wsX9_cut := (goodIn_ca (goodIn_r _ [36, 17] (by decide +kernel) (by decide +kernel)) (goodIn_sub (fun _ h => List.mem_cons_of_mem _ (List.mem_append_left _ (List.mem_append_right _ h))) gwX9))
set_option maxRecDepth 20000 in
theorem gX11_rule_X9_cut : GoodIn wsX11_rule (wsV RX11 99 RX9 yX9_cut wsX9_cut) := goodIn_app (goodIn_of _ (by decide +kernel)) ggX11_rule_X9_cut
set_option maxRecDepth 20000 in
theorem ggX12_rule_X12_begin : GoodIn wsX12_rule wsX12_begin := (goodIn_ca (goodIn_r _ [10, 11, 12, 13, 14, 15] (by decide +kernel) (by decide +kernel)) (goodIn_sub (fun _ h => List.mem_cons_of_mem _ (List.mem_append_right _ h)) gwX12))
set_option maxRecDepth 20000 in
theorem gX12_rule_X12_begin : GoodIn wsX12_rule (wsV RX12 151 RX12 yX12_begin wsX12_begin) := goodIn_app (goodIn_of _ (by decide +kernel)) ggX12_rule_X12_begin
set_option maxRecDepth 20000 in
theorem ggX12_isOne_X12_in : GoodIn wsX12_isOne wsX12_in := (goodIn_r _ [5] (by decide +kernel) (by decide +kernel))
set_option maxRecDepth 20000 in
theorem gX12_isOne_X12_in : GoodIn wsX12_isOne (va_wsS RX12 110 yX12_in wsX12_in) := goodIn_app (goodIn_of _ (by decide +kernel)) ggX12_isOne_X12_in
set_option maxRecDepth 20000 in
theorem ggX12_of_X12_isOne : GoodIn wsX12_of wsX12_isOne := (goodIn_ca (goodIn_r _ [6, 7, 8, 9, 5, 10] (by decide +kernel) (by decide +kernel)) (goodIn_sub (fun _ h => List.mem_cons_of_mem _ (List.mem_append_right _ h)) gwX12))
set_option maxRecDepth 20000 in
theorem gX12_of_X12_isOne : GoodIn wsX12_of (wsV RX12 223 RX12 yX12_isOne wsX12_isOne) := goodIn_app (goodIn_of _ (by decide +kernel)) ggX12_of_X12_isOne
set_option maxRecDepth 20000 in
theorem ggX12_of_X12_lost : GoodIn wsX12_of wsX12_lost := (goodIn_ca (goodIn_r _ [14, 1] (by decide +kernel) (by decide +kernel)) (goodIn_sub (fun _ h => List.mem_cons_of_mem _ (List.mem_append_right _ h)) gwX12))
set_option maxRecDepth 20000 in
theorem gX12_of_X12_lost : GoodIn wsX12_of (wsV RX12 227 RX12 yX12_lost wsX12_lost) := goodIn_app (goodIn_of _ (by decide +kernel)) ggX12_of_X12_lost
set_option maxRecDepth 20000 in
theorem ggX12_isThing_X12_in : GoodIn wsX12_isThing wsX12_in := (goodIn_r _ [5] (by decide +kernel) (by decide +kernel))
set_option maxRecDepth 20000 in
theorem gX12_isThing_X12_in : GoodIn wsX12_isThing (va_wsS RX12 110 yX12_in wsX12_in) := goodIn_app (goodIn_of _ (by decide +kernel)) ggX12_isThing_X12_in
set_option maxRecDepth 20000 in
theorem ggX12_thing_X12_isThing : GoodIn wsX12_thing wsX12_isThing := (goodIn_ca (goodIn_r _ [6, 7, 8, 9, 5, 10] (by decide +kernel) (by decide +kernel)) (goodIn_sub (fun _ h => List.mem_cons_of_mem _ (List.mem_append_right _ h)) gwX12))
set_option maxRecDepth 20000 in
theorem gX12_thing_X12_isThing : GoodIn wsX12_thing (wsV RX12 239 RX12 yX12_isThing wsX12_isThing) := goodIn_app (goodIn_of _ (by decide +kernel)) ggX12_thing_X12_isThing
set_option maxRecDepth 20000 in
theorem ggX12_thing_X12_lost : GoodIn wsX12_thing wsX12_lost := (goodIn_ca (goodIn_r _ [14, 1] (by decide +kernel) (by decide +kernel)) (goodIn_sub (fun _ h => List.mem_cons_of_mem _ (List.mem_append_right _ h)) gwX12))
set_option maxRecDepth 20000 in
theorem gX12_thing_X12_lost : GoodIn wsX12_thing (wsV RX12 227 RX12 yX12_lost wsX12_lost) := goodIn_app (goodIn_of _ (by decide +kernel)) ggX12_thing_X12_lost
set_option maxRecDepth 20000 in
theorem ggX11_areTwo_X2_hasPerson : GoodIn wsX11_areTwo wsX2_hasPerson := (goodIn_ca (goodIn_r _ [6, 7] (by decide +kernel) (by decide +kernel)) (goodIn_sub (fun _ h => List.mem_cons_of_mem _ (List.mem_append_right _ h)) gwX2))
set_option maxRecDepth 20000 in
theorem gX11_areTwo_X2_hasPerson : GoodIn wsX11_areTwo (wsV RX11 112 RX2 yX2_hasPerson wsX2_hasPerson) := goodIn_app (goodIn_of _ (by decide +kernel)) ggX11_areTwo_X2_hasPerson
set_option maxRecDepth 20000 in
theorem ggX11_between_X11_areTwo : GoodIn wsX11_between wsX11_areTwo := (goodIn_ca (goodIn_ca (goodIn_r _ [5, 6, 7, 8, 9, 10, 11, 12] (by decide +kernel) (by decide +kernel)) (goodIn_sub (fun _ h => List.mem_cons_of_mem _ (List.mem_append_left _ (List.mem_append_right _ h))) gwX11)) (goodIn_sub (fun _ h => List.mem_cons_of_mem _ (List.mem_append_right _ h)) gwX2))
set_option maxRecDepth 20000 in
theorem gX11_between_X11_areTwo : GoodIn wsX11_between (wsV RX11 160 RX11 yX11_areTwo wsX11_areTwo) := goodIn_app (goodIn_of _ (by decide +kernel)) ggX11_between_X11_areTwo
set_option maxRecDepth 20000 in
theorem ggX12_between_X12_isOne : GoodIn wsX12_between wsX12_isOne := (goodIn_ca (goodIn_r _ [6, 7, 8, 9, 5, 10] (by decide +kernel) (by decide +kernel)) (goodIn_sub (fun _ h => List.mem_cons_of_mem _ (List.mem_append_right _ h)) gwX12))
set_option maxRecDepth 20000 in
theorem gX12_between_X12_isOne : GoodIn wsX12_between (wsV RX12 223 RX12 yX12_isOne wsX12_isOne) := goodIn_app (goodIn_of _ (by decide +kernel)) ggX12_between_X12_isOne
set_option maxRecDepth 20000 in
theorem ggX12_law_X12_in : GoodIn wsX12_law wsX12_in := (goodIn_r _ [6] (by decide +kernel) (by decide +kernel))
set_option maxRecDepth 20000 in
theorem gX12_law_X12_in : GoodIn wsX12_law (va_wsS RX12 110 yX12_in wsX12_in) := goodIn_app (goodIn_of _ (by decide +kernel)) ggX12_law_X12_in
set_option maxRecDepth 20000 in
theorem ggX11_sheet_X2_setAllValues : GoodIn wsX11_sheet wsX2_setAllValues := (goodIn_ca (goodIn_r _ [7, 8] (by decide +kernel) (by decide +kernel)) (goodIn_sub (fun _ h => List.mem_cons_of_mem _ (List.mem_append_right _ h)) gwX2))
set_option maxRecDepth 20000 in
theorem gX11_sheet_X2_setAllValues : GoodIn wsX11_sheet (wsV RX11 178 RX2 yX2_setAllValues wsX2_setAllValues) := goodIn_app (goodIn_of _ (by decide +kernel)) ggX11_sheet_X2_setAllValues
set_option maxRecDepth 20000 in
theorem ggX12_sheet_X12_in : GoodIn wsX12_sheet wsX12_in := (goodIn_r _ [6] (by decide +kernel) (by decide +kernel))
set_option maxRecDepth 20000 in
theorem gX12_sheet_X12_in : GoodIn wsX12_sheet (va_wsS RX12 110 yX12_in wsX12_in) := goodIn_app (goodIn_of _ (by decide +kernel)) ggX12_sheet_X12_in
set_option maxRecDepth 20000 in
theorem ggX2_hasHalf_X2_halves : GoodIn wsX2_hasHalf wsX2_halves := (goodIn_ca (goodIn_r _ [5, 6] (by decide +kernel) (by decide +kernel)) (goodIn_sub (fun _ h => List.mem_cons_of_mem _ (List.mem_append_right _ h)) gwX2))
set_option maxRecDepth 20000 in
theorem gX2_hasHalf_X2_halves : GoodIn wsX2_hasHalf (wsV RX2 50 RX2 yX2_halves wsX2_halves) := goodIn_app (goodIn_of _ (by decide +kernel)) ggX2_hasHalf_X2_halves
set_option maxRecDepth 20000 in
theorem ggX11_areHalfAndPerson_X2_hasHalf : GoodIn wsX11_areHalfAndPerson wsX2_hasHalf := (goodIn_ca (goodIn_r _ [6, 7, 8, 9, 5, 10, 11] (by decide +kernel) (by decide +kernel)) (goodIn_sub (fun _ h => List.mem_cons_of_mem _ (List.mem_append_right _ h)) gwX2))
set_option maxRecDepth 20000 in
theorem gX11_areHalfAndPerson_X2_hasHalf : GoodIn wsX11_areHalfAndPerson (wsV RX11 435 RX2 yX2_hasHalf wsX2_hasHalf) := goodIn_app (goodIn_of _ (by decide +kernel)) ggX11_areHalfAndPerson_X2_hasHalf
set_option maxRecDepth 20000 in
theorem ggX11_worth_X11_areHalfAndPerson : GoodIn wsX11_worth wsX11_areHalfAndPerson := (goodIn_ca (goodIn_ca (goodIn_r _ [5, 6, 7, 8, 9, 10, 11, 12, 13, 14, 15, 16] (by decide +kernel) (by decide +kernel)) (goodIn_sub (fun _ h => List.mem_cons_of_mem _ (List.mem_append_left _ (List.mem_append_right _ h))) gwX11)) (goodIn_sub (fun _ h => List.mem_cons_of_mem _ (List.mem_append_right _ h)) gwX2))
set_option maxRecDepth 20000 in
theorem gX11_worth_X11_areHalfAndPerson : GoodIn wsX11_worth (wsV RX11 192 RX11 yX11_areHalfAndPerson wsX11_areHalfAndPerson) := goodIn_app (goodIn_of _ (by decide +kernel)) ggX11_worth_X11_areHalfAndPerson
set_option maxRecDepth 20000 in
theorem ggX12_isHalf_X12_in : GoodIn wsX12_isHalf wsX12_in := (goodIn_r _ [5] (by decide +kernel) (by decide +kernel))
set_option maxRecDepth 20000 in
theorem gX12_isHalf_X12_in : GoodIn wsX12_isHalf (va_wsS RX12 110 yX12_in wsX12_in) := goodIn_app (goodIn_of _ (by decide +kernel)) ggX12_isHalf_X12_in
set_option maxRecDepth 20000 in
theorem ggX12_worth_X12_isHalf : GoodIn wsX12_worth wsX12_isHalf := (goodIn_ca (goodIn_r _ [6, 7, 8, 9, 5, 10] (by decide +kernel) (by decide +kernel)) (goodIn_sub (fun _ h => List.mem_cons_of_mem _ (List.mem_append_right _ h)) gwX12))
set_option maxRecDepth 20000 in
theorem gX12_worth_X12_isHalf : GoodIn wsX12_worth (wsV RX12 242 RX12 yX12_isHalf wsX12_isHalf) := goodIn_app (goodIn_of _ (by decide +kernel)) ggX12_worth_X12_isHalf
set_option maxRecDepth 20000 in
theorem ggX11_can_X11_areHalfAndPerson : GoodIn wsX11_can wsX11_areHalfAndPerson := (goodIn_ca (goodIn_ca (goodIn_r _ [5, 6, 7, 8, 9, 10, 11, 12, 13, 14, 15, 16] (by decide +kernel) (by decide +kernel)) (goodIn_sub (fun _ h => List.mem_cons_of_mem _ (List.mem_append_left _ (List.mem_append_right _ h))) gwX11)) (goodIn_sub (fun _ h => List.mem_cons_of_mem _ (List.mem_append_right _ h)) gwX2))
set_option maxRecDepth 20000 in
theorem gX11_can_X11_areHalfAndPerson : GoodIn wsX11_can (wsV RX11 192 RX11 yX11_areHalfAndPerson wsX11_areHalfAndPerson) := goodIn_app (goodIn_of _ (by decide +kernel)) ggX11_can_X11_areHalfAndPerson
set_option maxRecDepth 20000 in
theorem ggX12_can_X12_isHalf : GoodIn wsX12_can wsX12_isHalf := (goodIn_ca (goodIn_r _ [6, 7, 8, 9, 5, 10] (by decide +kernel) (by decide +kernel)) (goodIn_sub (fun _ h => List.mem_cons_of_mem _ (List.mem_append_right _ h)) gwX12))
set_option maxRecDepth 20000 in
theorem gX12_can_X12_isHalf : GoodIn wsX12_can (wsV RX12 242 RX12 yX12_isHalf wsX12_isHalf) := goodIn_app (goodIn_of _ (by decide +kernel)) ggX12_can_X12_isHalf
set_option maxRecDepth 20000 in
theorem ggX11_sell_X11_areHalfAndPerson : GoodIn wsX11_sell wsX11_areHalfAndPerson := (goodIn_ca (goodIn_ca (goodIn_r _ [5, 6, 7, 8, 9, 10, 11, 12, 13, 14, 15, 16] (by decide +kernel) (by decide +kernel)) (goodIn_sub (fun _ h => List.mem_cons_of_mem _ (List.mem_append_left _ (List.mem_append_right _ h))) gwX11)) (goodIn_sub (fun _ h => List.mem_cons_of_mem _ (List.mem_append_right _ h)) gwX2))
set_option maxRecDepth 20000 in
theorem gX11_sell_X11_areHalfAndPerson : GoodIn wsX11_sell (wsV RX11 192 RX11 yX11_areHalfAndPerson wsX11_areHalfAndPerson) := goodIn_app (goodIn_of _ (by decide +kernel)) ggX11_sell_X11_areHalfAndPerson
set_option maxRecDepth 20000 in
theorem ggX12_sell_X12_isHalf : GoodIn wsX12_sell wsX12_isHalf := (goodIn_ca (goodIn_r _ [6, 7, 8, 9, 5, 10] (by decide +kernel) (by decide +kernel)) (goodIn_sub (fun _ h => List.mem_cons_of_mem _ (List.mem_append_right _ h)) gwX12))
set_option maxRecDepth 20000 in
theorem gX12_sell_X12_isHalf : GoodIn wsX12_sell (wsV RX12 242 RX12 yX12_isHalf wsX12_isHalf) := goodIn_app (goodIn_of _ (by decide +kernel)) ggX12_sell_X12_isHalf
set_option maxRecDepth 20000 in
theorem ggX11_undo_X4_takeBack : GoodIn wsX11_undo wsX4_takeBack := (goodIn_ca (goodIn_r _ [7, 8, 9] (by decide +kernel) (by decide +kernel)) (goodIn_sub (fun _ h => List.mem_cons_of_mem _ (List.mem_append_right _ h)) gwX4))
set_option maxRecDepth 20000 in
theorem gX11_undo_X4_takeBack : GoodIn wsX11_undo (wsV RX11 224 RX4 yX4_takeBack wsX4_takeBack) := goodIn_app (goodIn_of _ (by decide +kernel)) ggX11_undo_X4_takeBack
set_option maxRecDepth 20000 in
theorem ggX10_makeTold_X2_hasHalf : GoodIn wsX10_makeTold wsX2_hasHalf := (goodIn_ca (goodIn_r _ [5, 6, 7, 8, 4, 9, 10] (by decide +kernel) (by decide +kernel)) (goodIn_sub (fun _ h => List.mem_cons_of_mem _ (List.mem_append_right _ h)) gwX2))
set_option maxRecDepth 20000 in
theorem gX10_makeTold_X2_hasHalf : GoodIn wsX10_makeTold (wsV RX10 53 RX2 yX2_hasHalf wsX2_hasHalf) := goodIn_app (goodIn_of _ (by decide +kernel)) ggX10_makeTold_X2_hasHalf
set_option maxRecDepth 20000 in
theorem ggX11_judge_X2_copy : GoodIn wsX11_judge wsX2_copy := (goodIn_ca (goodIn_r _ [8, 9, 10, 11, 12, 13, 14, 15, 16, 17, 18] (by decide +kernel) (by decide +kernel)) (goodIn_sub (fun _ h => List.mem_cons_of_mem _ (List.mem_append_right _ h)) gwX2))
set_option maxRecDepth 20000 in
theorem gX11_judge_X2_copy : GoodIn wsX11_judge (wsV RX11 231 RX2 yX2_copy wsX2_copy) := goodIn_app (goodIn_of _ (by decide +kernel)) ggX11_judge_X2_copy
set_option maxRecDepth 20000 in
theorem ggX11_judge_X11_clearRow : GoodIn wsX11_judge wsX11_clearRow := (goodIn_ca (goodIn_r _ [23, 24] (by decide +kernel) (by decide +kernel)) (goodIn_sub (fun _ h => List.mem_cons_of_mem _ (List.mem_append_left _ (List.mem_append_right _ h))) gwX11))
set_option maxRecDepth 20000 in
theorem gX11_judge_X11_clearRow : GoodIn wsX11_judge (wsV RX11 206 RX11 yX11_clearRow wsX11_clearRow) := goodIn_app (goodIn_of _ (by decide +kernel)) ggX11_judge_X11_clearRow
set_option maxRecDepth 20000 in
theorem ggX11_judge_X11_tell : GoodIn wsX11_judge wsX11_tell := (goodIn_ca (goodIn_r _ [28, 24, 29] (by decide +kernel) (by decide +kernel)) (goodIn_sub (fun _ h => List.mem_cons_of_mem _ (List.mem_append_left _ (List.mem_append_right _ h))) gwX11))
set_option maxRecDepth 20000 in
theorem gX11_judge_X11_tell : GoodIn wsX11_judge (wsV RX11 212 RX11 yX11_tell wsX11_tell) := goodIn_app (goodIn_of _ (by decide +kernel)) ggX11_judge_X11_tell
set_option maxRecDepth 20000 in
theorem ggX11_judge_X10_makeTold : GoodIn wsX11_judge wsX10_makeTold := (goodIn_ca (goodIn_r _ [34, 35, 36, 37, 7, 38, 39, 40, 41, 42, 10] (by decide +kernel) (by decide +kernel)) (goodIn_sub (fun _ h => List.mem_cons_of_mem _ (List.mem_append_right _ h)) gwX2))
set_option maxRecDepth 20000 in
theorem gX11_judge_X10_makeTold : GoodIn wsX11_judge (wsV RX11 235 RX10 yX10_makeTold wsX10_makeTold) := goodIn_app (goodIn_of _ (by decide +kernel)) ggX11_judge_X10_makeTold
set_option maxRecDepth 20000 in
theorem ggX12_judge_X12_in : GoodIn wsX12_judge wsX12_in := (goodIn_r _ [7] (by decide +kernel) (by decide +kernel))
set_option maxRecDepth 20000 in
theorem gX12_judge_X12_in : GoodIn wsX12_judge (va_wsS RX12 110 yX12_in wsX12_in) := goodIn_app (goodIn_of _ (by decide +kernel)) ggX12_judge_X12_in
set_option maxRecDepth 20000 in
theorem ggX12_judge_X12_lay : GoodIn wsX12_judge wsX12_lay := (goodIn_ca (goodIn_r _ [11, 12, 13] (by decide +kernel) (by decide +kernel)) (goodIn_sub (fun _ h => List.mem_cons_of_mem _ (List.mem_append_right _ h)) gwX12))
set_option maxRecDepth 20000 in
theorem gX12_judge_X12_lay : GoodIn wsX12_judge (wsV RX12 267 RX12 yX12_lay wsX12_lay) := goodIn_app (goodIn_of _ (by decide +kernel)) ggX12_judge_X12_lay
set_option maxRecDepth 20000 in
theorem ggX12_judge_X12_bring : GoodIn wsX12_judge wsX12_bring := (goodIn_ca (goodIn_r _ [17, 18, 19] (by decide +kernel) (by decide +kernel)) (goodIn_sub (fun _ h => List.mem_cons_of_mem _ (List.mem_append_right _ h)) gwX12))
set_option maxRecDepth 20000 in
theorem gX12_judge_X12_bring : GoodIn wsX12_judge (wsV RX12 277 RX12 yX12_bring wsX12_bring) := goodIn_app (goodIn_of _ (by decide +kernel)) ggX12_judge_X12_bring
set_option maxRecDepth 20000 in
theorem ggX12_judge_X12_tell : GoodIn wsX12_judge wsX12_tell := (goodIn_ca (goodIn_r _ [23, 24, 3] (by decide +kernel) (by decide +kernel)) (goodIn_sub (fun _ h => List.mem_cons_of_mem _ (List.mem_append_right _ h)) gwX12))
set_option maxRecDepth 20000 in
theorem gX12_judge_X12_tell : GoodIn wsX12_judge (wsV RX12 264 RX12 yX12_tell wsX12_tell) := goodIn_app (goodIn_of _ (by decide +kernel)) ggX12_judge_X12_tell
set_option maxRecDepth 20000 in
theorem ggX12_judge_X12_isHalf : GoodIn wsX12_judge wsX12_isHalf := (goodIn_ca (goodIn_r _ [28, 19, 4, 5, 6, 7] (by decide +kernel) (by decide +kernel)) (goodIn_sub (fun _ h => List.mem_cons_of_mem _ (List.mem_append_right _ h)) gwX12))
set_option maxRecDepth 20000 in
theorem gX12_judge_X12_isHalf : GoodIn wsX12_judge (wsV RX12 242 RX12 yX12_isHalf wsX12_isHalf) := goodIn_app (goodIn_of _ (by decide +kernel)) ggX12_judge_X12_isHalf
set_option maxRecDepth 20000 in
theorem ggX10_survey_X2_halves : GoodIn wsX10_survey wsX2_halves := (goodIn_ca (goodIn_r _ [8, 9] (by decide +kernel) (by decide +kernel)) (goodIn_sub (fun _ h => List.mem_cons_of_mem _ (List.mem_append_right _ h)) gwX2))
set_option maxRecDepth 20000 in
theorem gX10_survey_X2_halves : GoodIn wsX10_survey (wsV RX10 81 RX2 yX2_halves wsX2_halves) := goodIn_app (goodIn_of _ (by decide +kernel)) ggX10_survey_X2_halves
set_option maxRecDepth 20000 in
theorem ggX11_open_X10_survey : GoodIn wsX11_open wsX10_survey := (goodIn_ca (goodIn_ca (goodIn_r _ [8, 9, 10, 11, 12, 13, 14, 15, 16, 17] (by decide +kernel) (by decide +kernel)) (goodIn_sub (fun _ h => List.mem_cons_of_mem _ (List.mem_append_left _ (List.mem_append_left _ (List.mem_append_right _ h)))) gwX10)) (goodIn_sub (fun _ h => List.mem_cons_of_mem _ (List.mem_append_right _ h)) gwX2))
set_option maxRecDepth 20000 in
theorem gX11_open_X10_survey : GoodIn wsX11_open (wsV RX11 239 RX10 yX10_survey wsX10_survey) := goodIn_app (goodIn_of _ (by decide +kernel)) ggX11_open_X10_survey
set_option maxRecDepth 20000 in
theorem ggX11_open_X11_clearRow : GoodIn wsX11_open wsX11_clearRow := (goodIn_ca (goodIn_r _ [22, 23] (by decide +kernel) (by decide +kernel)) (goodIn_sub (fun _ h => List.mem_cons_of_mem _ (List.mem_append_left _ (List.mem_append_right _ h))) gwX11))
set_option maxRecDepth 20000 in
theorem gX11_open_X11_clearRow : GoodIn wsX11_open (wsV RX11 206 RX11 yX11_clearRow wsX11_clearRow) := goodIn_app (goodIn_of _ (by decide +kernel)) ggX11_open_X11_clearRow
set_option maxRecDepth 20000 in
theorem ggX12_open_X12_findOpen : GoodIn wsX12_open wsX12_findOpen := (goodIn_ca (goodIn_r _ [8, 3, 9, 10, 11] (by decide +kernel) (by decide +kernel)) (goodIn_sub (fun _ h => List.mem_cons_of_mem _ (List.mem_append_right _ h)) gwX12))
set_option maxRecDepth 20000 in
theorem gX12_open_X12_findOpen : GoodIn wsX12_open (wsV RX12 289 RX12 yX12_findOpen wsX12_findOpen) := goodIn_app (goodIn_of _ (by decide +kernel)) ggX12_open_X12_findOpen
set_option maxRecDepth 20000 in
theorem ggX11_run_X10_survey : GoodIn wsX11_run wsX10_survey := (goodIn_ca (goodIn_ca (goodIn_r _ [8, 9, 10, 11, 12, 13, 14, 15, 16, 17] (by decide +kernel) (by decide +kernel)) (goodIn_sub (fun _ h => List.mem_cons_of_mem _ (List.mem_append_left _ (List.mem_append_left _ (List.mem_append_right _ h)))) gwX10)) (goodIn_sub (fun _ h => List.mem_cons_of_mem _ (List.mem_append_right _ h)) gwX2))
set_option maxRecDepth 20000 in
theorem gX11_run_X10_survey : GoodIn wsX11_run (wsV RX11 239 RX10 yX10_survey wsX10_survey) := goodIn_app (goodIn_of _ (by decide +kernel)) ggX11_run_X10_survey
set_option maxRecDepth 20000 in
theorem ggX11_run_X11_clearRow : GoodIn wsX11_run wsX11_clearRow := (goodIn_ca (goodIn_r _ [22, 23] (by decide +kernel) (by decide +kernel)) (goodIn_sub (fun _ h => List.mem_cons_of_mem _ (List.mem_append_left _ (List.mem_append_right _ h))) gwX11))
set_option maxRecDepth 20000 in
theorem gX11_run_X11_clearRow : GoodIn wsX11_run (wsV RX11 206 RX11 yX11_clearRow wsX11_clearRow) := goodIn_app (goodIn_of _ (by decide +kernel)) ggX11_run_X11_clearRow
set_option maxRecDepth 20000 in
theorem ggX11_run_X11_tell : GoodIn wsX11_run wsX11_tell := (goodIn_ca (goodIn_r _ [27, 23, 28] (by decide +kernel) (by decide +kernel)) (goodIn_sub (fun _ h => List.mem_cons_of_mem _ (List.mem_append_left _ (List.mem_append_right _ h))) gwX11))
set_option maxRecDepth 20000 in
theorem gX11_run_X11_tell : GoodIn wsX11_run (wsV RX11 212 RX11 yX11_tell wsX11_tell) := goodIn_app (goodIn_of _ (by decide +kernel)) ggX11_run_X11_tell
set_option maxRecDepth 20000 in
theorem ggX12_run_X12_in : GoodIn wsX12_run wsX12_in := (goodIn_r _ [7] (by decide +kernel) (by decide +kernel))
set_option maxRecDepth 20000 in
theorem gX12_run_X12_in : GoodIn wsX12_run (va_wsS RX12 110 yX12_in wsX12_in) := goodIn_app (goodIn_of _ (by decide +kernel)) ggX12_run_X12_in
set_option maxRecDepth 20000 in
theorem ggX12_run_X12_findOpen : GoodIn wsX12_run wsX12_findOpen := (goodIn_ca (goodIn_r _ [11, 3, 12, 13, 14] (by decide +kernel) (by decide +kernel)) (goodIn_sub (fun _ h => List.mem_cons_of_mem _ (List.mem_append_right _ h)) gwX12))
set_option maxRecDepth 20000 in
theorem gX12_run_X12_findOpen : GoodIn wsX12_run (wsV RX12 289 RX12 yX12_findOpen wsX12_findOpen) := goodIn_app (goodIn_of _ (by decide +kernel)) ggX12_run_X12_findOpen
set_option maxRecDepth 20000 in
theorem ggX12_run_X12_tell : GoodIn wsX12_run wsX12_tell := (goodIn_ca (goodIn_r _ [18, 19, 2] (by decide +kernel) (by decide +kernel)) (goodIn_sub (fun _ h => List.mem_cons_of_mem _ (List.mem_append_right _ h)) gwX12))
set_option maxRecDepth 20000 in
theorem gX12_run_X12_tell : GoodIn wsX12_run (wsV RX12 264 RX12 yX12_tell wsX12_tell) := goodIn_app (goodIn_of _ (by decide +kernel)) ggX12_run_X12_tell
set_option maxRecDepth 20000 in
theorem ggX11_partner_X11_areHalfAndPerson : GoodIn wsX11_partner wsX11_areHalfAndPerson := (goodIn_ca (goodIn_ca (goodIn_r _ [5, 6, 7, 8, 9, 10, 11, 12, 13, 14, 15, 16] (by decide +kernel) (by decide +kernel)) (goodIn_sub (fun _ h => List.mem_cons_of_mem _ (List.mem_append_left _ (List.mem_append_right _ h))) gwX11)) (goodIn_sub (fun _ h => List.mem_cons_of_mem _ (List.mem_append_right _ h)) gwX2))
set_option maxRecDepth 20000 in
theorem gX11_partner_X11_areHalfAndPerson : GoodIn wsX11_partner (wsV RX11 192 RX11 yX11_areHalfAndPerson wsX11_areHalfAndPerson) := goodIn_app (goodIn_of _ (by decide +kernel)) ggX11_partner_X11_areHalfAndPerson
set_option maxRecDepth 20000 in
theorem ggX12_partner_X12_isHalf : GoodIn wsX12_partner wsX12_isHalf := (goodIn_ca (goodIn_r _ [6, 7, 8, 9, 5, 10] (by decide +kernel) (by decide +kernel)) (goodIn_sub (fun _ h => List.mem_cons_of_mem _ (List.mem_append_right _ h)) gwX12))
set_option maxRecDepth 20000 in
theorem gX12_partner_X12_isHalf : GoodIn wsX12_partner (wsV RX12 242 RX12 yX12_isHalf wsX12_isHalf) := goodIn_app (goodIn_of _ (by decide +kernel)) ggX12_partner_X12_isHalf
set_option maxRecDepth 20000 in
theorem ggX1_mostOf_X2_allThings : GoodIn wsX1_mostOf wsX2_allThings := (goodIn_ca (goodIn_r _ [10, 11] (by decide +kernel) (by decide +kernel)) (goodIn_sub (fun _ h => List.mem_cons_of_mem _ (List.mem_append_right _ h)) gwX2))
set_option maxRecDepth 20000 in
theorem gX1_mostOf_X2_allThings : GoodIn wsX1_mostOf (wsV RX1 13 RX2 yX2_allThings wsX2_allThings) := goodIn_app (goodIn_of _ (by decide +kernel)) ggX1_mostOf_X2_allThings
set_option maxRecDepth 20000 in
theorem ggX1_mostOf_X2_barredBits : GoodIn wsX1_mostOf wsX2_barredBits := (goodIn_ca (goodIn_r _ [15, 11] (by decide +kernel) (by decide +kernel)) (goodIn_sub (fun _ h => List.mem_cons_of_mem _ (List.mem_append_right _ h)) gwX2))
set_option maxRecDepth 20000 in
theorem gX1_mostOf_X2_barredBits : GoodIn wsX1_mostOf (wsV RX1 19 RX2 yX2_barredBits wsX2_barredBits) := goodIn_app (goodIn_of _ (by decide +kernel)) ggX1_mostOf_X2_barredBits
set_option maxRecDepth 20000 in
theorem ggX1_mostOf_X1_choose : GoodIn wsX1_mostOf wsX1_choose := (goodIn_ca (goodIn_r _ [20, 3, 1, 4] (by decide +kernel) (by decide +kernel)) (goodIn_sub (fun _ h => List.mem_cons_of_mem _ (List.mem_append_left _ (List.mem_append_right _ h))) gwX1))
set_option maxRecDepth 20000 in
theorem gX1_mostOf_X1_choose : GoodIn wsX1_mostOf (wsV RX1 39 RX1 yX1_choose wsX1_choose) := goodIn_app (goodIn_of _ (by decide +kernel)) ggX1_mostOf_X1_choose
set_option maxRecDepth 20000 in
theorem ggX11_day_X1_mostOf : GoodIn wsX11_day wsX1_mostOf := (goodIn_ca (goodIn_ca (goodIn_r _ [8, 9, 10, 11, 12, 13, 14, 15, 16, 17, 18, 19, 20, 21, 22, 23, 24, 25, 26, 7, 27] (by decide +kernel) (by decide +kernel)) (goodIn_sub (fun _ h => List.mem_cons_of_mem _ (List.mem_append_left _ (List.mem_append_left _ (List.mem_append_right _ h)))) gwX1)) (goodIn_sub (fun _ h => List.mem_cons_of_mem _ (List.mem_append_right _ h)) gwX2))
set_option maxRecDepth 20000 in
theorem gX11_day_X1_mostOf : GoodIn wsX11_day (wsV RX11 271 RX1 yX1_mostOf wsX1_mostOf) := goodIn_app (goodIn_of _ (by decide +kernel)) ggX11_day_X1_mostOf
set_option maxRecDepth 20000 in
theorem ggX11_day_X11_clearRow : GoodIn wsX11_day wsX11_clearRow := (goodIn_ca (goodIn_r _ [32, 33] (by decide +kernel) (by decide +kernel)) (goodIn_sub (fun _ h => List.mem_cons_of_mem _ (List.mem_append_left _ (List.mem_append_right _ h))) gwX11))
set_option maxRecDepth 20000 in
theorem gX11_day_X11_clearRow : GoodIn wsX11_day (wsV RX11 206 RX11 yX11_clearRow wsX11_clearRow) := goodIn_app (goodIn_of _ (by decide +kernel)) ggX11_day_X11_clearRow
set_option maxRecDepth 20000 in
theorem ggX11_day_X11_tell : GoodIn wsX11_day wsX11_tell := (goodIn_ca (goodIn_r _ [37, 33, 38] (by decide +kernel) (by decide +kernel)) (goodIn_sub (fun _ h => List.mem_cons_of_mem _ (List.mem_append_left _ (List.mem_append_right _ h))) gwX11))
set_option maxRecDepth 20000 in
theorem gX11_day_X11_tell : GoodIn wsX11_day (wsV RX11 212 RX11 yX11_tell wsX11_tell) := goodIn_app (goodIn_of _ (by decide +kernel)) ggX11_day_X11_tell
set_option maxRecDepth 20000 in
theorem ggX12_day_X12_findDay : GoodIn wsX12_day wsX12_findDay := (goodIn_ca (goodIn_r _ [8, 3, 9] (by decide +kernel) (by decide +kernel)) (goodIn_sub (fun _ h => List.mem_cons_of_mem _ (List.mem_append_right _ h)) gwX12))
set_option maxRecDepth 20000 in
theorem gX12_day_X12_findDay : GoodIn wsX12_day (wsV RX12 311 RX12 yX12_findDay wsX12_findDay) := goodIn_app (goodIn_of _ (by decide +kernel)) ggX12_day_X12_findDay
set_option maxRecDepth 20000 in
theorem ggX12_day_X12_tell : GoodIn wsX12_day wsX12_tell := (goodIn_ca (goodIn_r _ [13, 14, 2] (by decide +kernel) (by decide +kernel)) (goodIn_sub (fun _ h => List.mem_cons_of_mem _ (List.mem_append_right _ h)) gwX12))
set_option maxRecDepth 20000 in
theorem gX12_day_X12_tell : GoodIn wsX12_day (wsV RX12 264 RX12 yX12_tell wsX12_tell) := goodIn_app (goodIn_of _ (by decide +kernel)) ggX12_day_X12_tell
set_option maxRecDepth 20000 in
theorem ggX11_quarrel_X11_areTwo : GoodIn wsX11_quarrel wsX11_areTwo := (goodIn_ca (goodIn_ca (goodIn_r _ [5, 6, 7, 8, 9, 10, 11, 12] (by decide +kernel) (by decide +kernel)) (goodIn_sub (fun _ h => List.mem_cons_of_mem _ (List.mem_append_left _ (List.mem_append_right _ h))) gwX11)) (goodIn_sub (fun _ h => List.mem_cons_of_mem _ (List.mem_append_right _ h)) gwX2))
set_option maxRecDepth 20000 in
theorem gX11_quarrel_X11_areTwo : GoodIn wsX11_quarrel (wsV RX11 160 RX11 yX11_areTwo wsX11_areTwo) := goodIn_app (goodIn_of _ (by decide +kernel)) ggX11_quarrel_X11_areTwo
set_option maxRecDepth 20000 in
theorem ggX12_quarrel_X12_isOne : GoodIn wsX12_quarrel wsX12_isOne := (goodIn_ca (goodIn_r _ [6, 7, 8, 9, 5, 10] (by decide +kernel) (by decide +kernel)) (goodIn_sub (fun _ h => List.mem_cons_of_mem _ (List.mem_append_right _ h)) gwX12))
set_option maxRecDepth 20000 in
theorem gX12_quarrel_X12_isOne : GoodIn wsX12_quarrel (wsV RX12 223 RX12 yX12_isOne wsX12_isOne) := goodIn_app (goodIn_of _ (by decide +kernel)) ggX12_quarrel_X12_isOne
set_option maxRecDepth 20000 in
theorem ggX11_bars_X2_hasThing : GoodIn wsX11_bars wsX2_hasThing := (goodIn_ca (goodIn_r _ [6, 7] (by decide +kernel) (by decide +kernel)) (goodIn_sub (fun _ h => List.mem_cons_of_mem _ (List.mem_append_right _ h)) gwX2))
set_option maxRecDepth 20000 in
theorem gX11_bars_X2_hasThing : GoodIn wsX11_bars (wsV RX11 141 RX2 yX2_hasThing wsX2_hasThing) := goodIn_app (goodIn_of _ (by decide +kernel)) ggX11_bars_X2_hasThing
set_option maxRecDepth 20000 in
theorem ggX12_bars_X12_isThing : GoodIn wsX12_bars wsX12_isThing := (goodIn_ca (goodIn_r _ [6, 7, 8, 9, 5, 10] (by decide +kernel) (by decide +kernel)) (goodIn_sub (fun _ h => List.mem_cons_of_mem _ (List.mem_append_right _ h)) gwX12))
set_option maxRecDepth 20000 in
theorem gX12_bars_X12_isThing : GoodIn wsX12_bars (wsV RX12 239 RX12 yX12_isThing wsX12_isThing) := goodIn_app (goodIn_of _ (by decide +kernel)) ggX12_bars_X12_isThing
set_option maxRecDepth 20000 in
theorem ggX11_without_X2_hasPerson : GoodIn wsX11_without wsX2_hasPerson := (goodIn_ca (goodIn_r _ [6, 7] (by decide +kernel) (by decide +kernel)) (goodIn_sub (fun _ h => List.mem_cons_of_mem _ (List.mem_append_right _ h)) gwX2))
set_option maxRecDepth 20000 in
theorem gX11_without_X2_hasPerson : GoodIn wsX11_without (wsV RX11 112 RX2 yX2_hasPerson wsX2_hasPerson) := goodIn_app (goodIn_of _ (by decide +kernel)) ggX11_without_X2_hasPerson
set_option maxRecDepth 20000 in
theorem ggX12_without_X12_isOne : GoodIn wsX12_without wsX12_isOne := (goodIn_ca (goodIn_r _ [6, 7, 8, 9, 5, 10] (by decide +kernel) (by decide +kernel)) (goodIn_sub (fun _ h => List.mem_cons_of_mem _ (List.mem_append_right _ h)) gwX12))
set_option maxRecDepth 20000 in
theorem gX12_without_X12_isOne : GoodIn wsX12_without (wsV RX12 223 RX12 yX12_isOne wsX12_isOne) := goodIn_app (goodIn_of _ (by decide +kernel)) ggX12_without_X12_isOne
set_option maxRecDepth 20000 in
theorem ggX11_wealth_X2_hasPerson : GoodIn wsX11_wealth wsX2_hasPerson := (goodIn_ca (goodIn_r _ [6, 7] (by decide +kernel) (by decide +kernel)) (goodIn_sub (fun _ h => List.mem_cons_of_mem _ (List.mem_append_right _ h)) gwX2))
set_option maxRecDepth 20000 in
theorem gX11_wealth_X2_hasPerson : GoodIn wsX11_wealth (wsV RX11 112 RX2 yX2_hasPerson wsX2_hasPerson) := goodIn_app (goodIn_of _ (by decide +kernel)) ggX11_wealth_X2_hasPerson
set_option maxRecDepth 20000 in
theorem ggX12_wealth_X12_isOne : GoodIn wsX12_wealth wsX12_isOne := (goodIn_ca (goodIn_r _ [6, 7, 8, 9, 5, 10] (by decide +kernel) (by decide +kernel)) (goodIn_sub (fun _ h => List.mem_cons_of_mem _ (List.mem_append_right _ h)) gwX12))
set_option maxRecDepth 20000 in
theorem gX12_wealth_X12_isOne : GoodIn wsX12_wealth (wsV RX12 223 RX12 yX12_isOne wsX12_isOne) := goodIn_app (goodIn_of _ (by decide +kernel)) ggX12_wealth_X12_isOne
set_option maxRecDepth 20000 in
theorem ggX11_use_X2_hasThing : GoodIn wsX11_use wsX2_hasThing := (goodIn_ca (goodIn_r _ [6, 7] (by decide +kernel) (by decide +kernel)) (goodIn_sub (fun _ h => List.mem_cons_of_mem _ (List.mem_append_right _ h)) gwX2))
set_option maxRecDepth 20000 in
theorem gX11_use_X2_hasThing : GoodIn wsX11_use (wsV RX11 141 RX2 yX2_hasThing wsX2_hasThing) := goodIn_app (goodIn_of _ (by decide +kernel)) ggX11_use_X2_hasThing
set_option maxRecDepth 20000 in
theorem ggX12_use_X12_isThing : GoodIn wsX12_use wsX12_isThing := (goodIn_ca (goodIn_r _ [6, 7, 8, 9, 5, 10] (by decide +kernel) (by decide +kernel)) (goodIn_sub (fun _ h => List.mem_cons_of_mem _ (List.mem_append_right _ h)) gwX12))
set_option maxRecDepth 20000 in
theorem gX12_use_X12_isThing : GoodIn wsX12_use (wsV RX12 239 RX12 yX12_isThing wsX12_isThing) := goodIn_app (goodIn_of _ (by decide +kernel)) ggX12_use_X12_isThing
set_option maxRecDepth 20000 in
theorem ggX11_days_X4_forget : GoodIn wsX11_days wsX4_forget := (goodIn_ca (goodIn_r _ [11, 12] (by decide +kernel) (by decide +kernel)) (goodIn_sub (fun _ h => List.mem_cons_of_mem _ (List.mem_append_left _ (List.mem_append_right _ h))) gwX4))
set_option maxRecDepth 20000 in
theorem gX11_days_X4_forget : GoodIn wsX11_days (wsV RX11 106 RX4 yX4_forget wsX4_forget) := goodIn_app (goodIn_of _ (by decide +kernel)) ggX11_days_X4_forget
set_option maxRecDepth 20000 in
theorem ggX11_days_X1_mostOf : GoodIn wsX11_days wsX1_mostOf := (goodIn_ca (goodIn_ca (goodIn_r _ [17, 18, 19, 20, 21, 22, 23, 24, 25, 26, 27, 28, 29, 30, 31, 32, 33, 34, 35, 16, 36] (by decide +kernel) (by decide +kernel)) (goodIn_sub (fun _ h => List.mem_cons_of_mem _ (List.mem_append_right _ h)) gwX1)) (goodIn_sub (fun _ h => List.mem_cons_of_mem _ (List.mem_append_left _ (List.mem_append_left _ (List.mem_append_right _ h)))) gwX2))
set_option maxRecDepth 20000 in
theorem gX11_days_X1_mostOf : GoodIn wsX11_days (wsV RX11 271 RX1 yX1_mostOf wsX1_mostOf) := goodIn_app (goodIn_of _ (by decide +kernel)) ggX11_days_X1_mostOf
set_option maxRecDepth 20000 in
theorem ggX12_days_X12_in : GoodIn wsX12_days wsX12_in := (goodIn_r _ [9] (by decide +kernel) (by decide +kernel))
set_option maxRecDepth 20000 in
theorem gX12_days_X12_in : GoodIn wsX12_days (va_wsS RX12 110 yX12_in wsX12_in) := goodIn_app (goodIn_of _ (by decide +kernel)) ggX12_days_X12_in
set_option maxRecDepth 20000 in
theorem ggX12_days_X12_findDay : GoodIn wsX12_days wsX12_findDay := (goodIn_ca (goodIn_r _ [13, 14, 2] (by decide +kernel) (by decide +kernel)) (goodIn_sub (fun _ h => List.mem_cons_of_mem _ (List.mem_append_right _ h)) gwX12))
set_option maxRecDepth 20000 in
theorem gX12_days_X12_findDay : GoodIn wsX12_days (wsV RX12 311 RX12 yX12_findDay wsX12_findDay) := goodIn_app (goodIn_of _ (by decide +kernel)) ggX12_days_X12_findDay
set_option maxRecDepth 20000 in
theorem ggX2_hasThings_X2_allThings : GoodIn wsX2_hasThings wsX2_allThings := (goodIn_ca (goodIn_r _ [5, 6] (by decide +kernel) (by decide +kernel)) (goodIn_sub (fun _ h => List.mem_cons_of_mem _ (List.mem_append_right _ h)) gwX2))
set_option maxRecDepth 20000 in
theorem gX2_hasThings_X2_allThings : GoodIn wsX2_hasThings (wsV RX2 54 RX2 yX2_allThings wsX2_allThings) := goodIn_app (goodIn_of _ (by decide +kernel)) ggX2_hasThings_X2_allThings
set_option maxRecDepth 20000 in
theorem ggX11_feast_X2_hasThings : GoodIn wsX11_feast wsX2_hasThings := (goodIn_ca (goodIn_r _ [6, 7, 8, 9, 5, 10, 11] (by decide +kernel) (by decide +kernel)) (goodIn_sub (fun _ h => List.mem_cons_of_mem _ (List.mem_append_right _ h)) gwX2))
set_option maxRecDepth 20000 in
theorem gX11_feast_X2_hasThings : GoodIn wsX11_feast (wsV RX11 308 RX2 yX2_hasThings wsX2_hasThings) := goodIn_app (goodIn_of _ (by decide +kernel)) ggX11_feast_X2_hasThings
set_option maxRecDepth 20000 in
theorem ggX11_feast_X2_firstBarred : GoodIn wsX11_feast wsX2_firstBarred := (goodIn_ca (goodIn_r _ [15, 11] (by decide +kernel) (by decide +kernel)) (goodIn_sub (fun _ h => List.mem_cons_of_mem _ (List.mem_append_right _ h)) gwX2))
set_option maxRecDepth 20000 in
theorem gX11_feast_X2_firstBarred : GoodIn wsX11_feast (wsV RX11 311 RX2 yX2_firstBarred wsX2_firstBarred) := goodIn_app (goodIn_of _ (by decide +kernel)) ggX11_feast_X2_firstBarred
set_option maxRecDepth 20000 in
theorem ggX11_feast_X2_firstClash : GoodIn wsX11_feast wsX2_firstClash := (goodIn_ca (goodIn_r _ [19, 11] (by decide +kernel) (by decide +kernel)) (goodIn_sub (fun _ h => List.mem_cons_of_mem _ (List.mem_append_right _ h)) gwX2))
set_option maxRecDepth 20000 in
theorem gX11_feast_X2_firstClash : GoodIn wsX11_feast (wsV RX11 314 RX2 yX2_firstClash wsX2_firstClash) := goodIn_app (goodIn_of _ (by decide +kernel)) ggX11_feast_X2_firstClash
set_option maxRecDepth 20000 in
theorem ggX12_areThings_X12_in : GoodIn wsX12_areThings wsX12_in := (goodIn_r _ [5] (by decide +kernel) (by decide +kernel))
set_option maxRecDepth 20000 in
theorem gX12_areThings_X12_in : GoodIn wsX12_areThings (va_wsS RX12 110 yX12_in wsX12_in) := goodIn_app (goodIn_of _ (by decide +kernel)) ggX12_areThings_X12_in
set_option maxRecDepth 20000 in
theorem ggX12_feast_X12_areThings : GoodIn wsX12_feast wsX12_areThings := (goodIn_ca (goodIn_r _ [6, 7, 8, 9, 5, 10] (by decide +kernel) (by decide +kernel)) (goodIn_sub (fun _ h => List.mem_cons_of_mem _ (List.mem_append_right _ h)) gwX12))
set_option maxRecDepth 20000 in
theorem gX12_feast_X12_areThings : GoodIn wsX12_feast (wsV RX12 328 RX12 yX12_areThings wsX12_areThings) := goodIn_app (goodIn_of _ (by decide +kernel)) ggX12_feast_X12_areThings
set_option maxRecDepth 20000 in
theorem ggX12_feast_X12_canFeast : GoodIn wsX12_feast wsX12_canFeast := (goodIn_ca (goodIn_r _ [14, 7] (by decide +kernel) (by decide +kernel)) (goodIn_sub (fun _ h => List.mem_cons_of_mem _ (List.mem_append_right _ h)) gwX12))
set_option maxRecDepth 20000 in
theorem gX12_feast_X12_canFeast : GoodIn wsX12_feast (wsV RX12 331 RX12 yX12_canFeast wsX12_canFeast) := goodIn_app (goodIn_of _ (by decide +kernel)) ggX12_feast_X12_canFeast
set_option maxRecDepth 20000 in
theorem ggX7_init_X8_init_n11 : GoodIn wsX7_init wsX8_init := (goodIn_ca (goodIn_r _ [17, 18, 2, 3, 19, 20, 21, 22, 9, 23, 24, 25] (by decide +kernel) (by decide +kernel)) (goodIn_sub (fun _ h => List.mem_cons_of_mem _ (List.mem_append_right _ h)) gwX8))
set_option maxRecDepth 20000 in
theorem gX7_init_X8_init_n11 : GoodIn wsX7_init wsX8_init := ggX7_init_X8_init_n11
set_option maxRecDepth 20000 in
theorem ggX11_searching_X7_init : GoodIn wsX11_searching wsX7_init := (goodIn_ca (goodIn_ca (goodIn_r _ [9, 10, 11, 12, 13, 14, 15, 16, 17, 18, 19, 20, 21, 22, 23, 24, 25, 26, 27, 28, 29, 30, 31, 32, 33, 34] (by decide +kernel) (by decide +kernel)) (goodIn_sub (fun _ h => List.mem_cons_of_mem _ (List.mem_append_left _ (List.mem_append_right _ h))) gwX7)) (goodIn_sub (fun _ h => List.mem_cons_of_mem _ (List.mem_append_right _ h)) gwX8))
set_option maxRecDepth 20000 in
theorem gX11_searching_X7_init : GoodIn wsX11_searching wsX7_init := ggX11_searching_X7_init
set_option maxRecDepth 20000 in
theorem ggX8_clear_J7_fill_53178 : GoodIn wsX8_clear wsJ7_fill_53178 := (goodIn_r _ [7] (by decide +kernel) (by decide +kernel))
set_option maxRecDepth 20000 in
theorem gX8_clear_J7_fill_53178 : GoodIn wsX8_clear (va_wsS RX8 39 yJ7_fill_53178 wsJ7_fill_53178) := goodIn_app (goodIn_of _ (by decide +kernel)) ggX8_clear_J7_fill_53178
set_option maxRecDepth 20000 in
theorem ggX8_add_X8_slotOf : GoodIn wsX8_add wsX8_slotOf := (goodIn_ca (goodIn_ca (goodIn_r _ [15, 4, 16, 6, 8, 1] (by decide +kernel) (by decide +kernel)) (goodIn_sub (fun _ h => List.mem_cons_of_mem _ (List.mem_append_left _ (List.mem_append_right _ h))) gwX2)) (goodIn_sub (fun _ h => List.mem_cons_of_mem _ (List.mem_append_right _ h)) gwX8))
set_option maxRecDepth 20000 in
theorem gX8_add_X8_slotOf : GoodIn wsX8_add (wsV RX8 54 RX8 yX8_slotOf wsX8_slotOf) := goodIn_app (goodIn_of _ (by decide +kernel)) ggX8_add_X8_slotOf
set_option maxRecDepth 20000 in
theorem ggX7_begin_X2_copy : GoodIn wsX7_begin wsX2_copy := (goodIn_ca (goodIn_r _ [7, 8, 9, 10, 11, 12, 13, 14, 15, 16, 17] (by decide +kernel) (by decide +kernel)) (goodIn_sub (fun _ h => List.mem_cons_of_mem _ (List.mem_append_left _ (List.mem_append_right _ h))) gwX2))
set_option maxRecDepth 20000 in
theorem gX7_begin_X2_copy : GoodIn wsX7_begin (wsV RX7 46 RX2 yX2_copy wsX2_copy) := goodIn_app (goodIn_of _ (by decide +kernel)) ggX7_begin_X2_copy
set_option maxRecDepth 20000 in
theorem ggX7_begin_X8_clear : GoodIn wsX7_begin wsX8_clear := (goodIn_ca (goodIn_r _ [22, 23, 24, 25, 26, 27, 28, 29] (by decide +kernel) (by decide +kernel)) (goodIn_sub (fun _ h => List.mem_cons_of_mem _ (List.mem_append_right _ h)) gwX8))
set_option maxRecDepth 20000 in
theorem gX7_begin_X8_clear : GoodIn wsX7_begin (wsV RX7 52 RX8 yX8_clear wsX8_clear) := goodIn_app (goodIn_of _ (by decide +kernel)) ggX7_begin_X8_clear
set_option maxRecDepth 20000 in
theorem ggX7_begin_X8_add : GoodIn wsX7_begin wsX8_add := (goodIn_ca (goodIn_ca (goodIn_r _ [33, 23, 24, 34, 35, 36, 37, 38, 39, 40, 41, 42, 43, 44, 21, 45, 46] (by decide +kernel) (by decide +kernel)) (goodIn_sub (fun _ h => List.mem_cons_of_mem _ (List.mem_append_left _ (List.mem_append_right _ h))) gwX2)) (goodIn_sub (fun _ h => List.mem_cons_of_mem _ (List.mem_append_right _ h)) gwX8))
set_option maxRecDepth 20000 in
theorem gX7_begin_X8_add : GoodIn wsX7_begin (wsV RX7 55 RX8 yX8_add wsX8_add) := goodIn_app (goodIn_of _ (by decide +kernel)) ggX7_begin_X8_add
set_option maxRecDepth 20000 in
theorem ggX7_addGifts_X2_halves : GoodIn wsX7_addGifts wsX2_halves := (goodIn_ca (goodIn_r _ [6, 7] (by decide +kernel) (by decide +kernel)) (goodIn_sub (fun _ h => List.mem_cons_of_mem _ (List.mem_append_right _ h)) gwX2))
set_option maxRecDepth 20000 in
theorem gX7_addGifts_X2_halves : GoodIn wsX7_addGifts (wsV RX7 74 RX2 yX2_halves wsX2_halves) := goodIn_app (goodIn_of _ (by decide +kernel)) ggX7_addGifts_X2_halves
set_option maxRecDepth 20000 in
theorem ggX7_spreadGifts_X7_begin : GoodIn wsX7_spreadGifts wsX7_begin := (goodIn_ca (goodIn_ca (goodIn_ca (goodIn_r _ [7, 2, 1, 8, 9, 10, 11, 12, 13, 14, 15, 16, 17, 18, 19, 20, 21, 22, 23, 24, 25, 26, 27, 28, 29, 30, 31, 32, 33, 34, 35, 36, 37, 38, 39, 40, 41, 42, 43, 44, 45, 46, 47, 48, 49, 50, 51] (by decide +kernel) (by decide +kernel)) (goodIn_sub (fun _ h => List.mem_cons_of_mem _ (List.mem_append_left _ (List.mem_append_left _ (List.mem_append_right _ h)))) gwX7)) (goodIn_sub (fun _ h => List.mem_cons_of_mem _ (List.mem_append_left _ (List.mem_append_right _ h))) gwX2)) (goodIn_sub (fun _ h => List.mem_cons_of_mem _ (List.mem_append_right _ h)) gwX8))
set_option maxRecDepth 20000 in
theorem gX7_spreadGifts_X7_begin : GoodIn wsX7_spreadGifts (wsV RX7 59 RX7 yX7_begin wsX7_begin) := goodIn_app (goodIn_of _ (by decide +kernel)) ggX7_spreadGifts_X7_begin
set_option maxRecDepth 20000 in
theorem ggX7_spreadGifts_X8_size : GoodIn wsX7_spreadGifts wsX8_size := (goodIn_ca (goodIn_r _ [55, 29] (by decide +kernel) (by decide +kernel)) (goodIn_sub (fun _ h => List.mem_cons_of_mem _ (List.mem_append_right _ h)) gwX8))
set_option maxRecDepth 20000 in
theorem gX7_spreadGifts_X8_size : GoodIn wsX7_spreadGifts (wsV RX7 42 RX8 yX8_size wsX8_size) := goodIn_app (goodIn_of _ (by decide +kernel)) ggX7_spreadGifts_X8_size
set_option maxRecDepth 20000 in
theorem ggX7_spreadGifts_X8_isOver : GoodIn wsX7_spreadGifts wsX8_isOver := (goodIn_ca (goodIn_r _ [59, 30] (by decide +kernel) (by decide +kernel)) (goodIn_sub (fun _ h => List.mem_cons_of_mem _ (List.mem_append_right _ h)) gwX8))
set_option maxRecDepth 20000 in
theorem gX7_spreadGifts_X8_isOver : GoodIn wsX7_spreadGifts (wsV RX7 62 RX8 yX8_isOver wsX8_isOver) := goodIn_app (goodIn_of _ (by decide +kernel)) ggX7_spreadGifts_X8_isOver
set_option maxRecDepth 20000 in
theorem ggX7_spreadGifts_X8_load : GoodIn wsX7_spreadGifts wsX8_load := (goodIn_ca (goodIn_ca (goodIn_r _ [63, 29, 39, 40, 41, 42, 43, 44] (by decide +kernel) (by decide +kernel)) (goodIn_sub (fun _ h => List.mem_cons_of_mem _ (List.mem_append_left _ (List.mem_append_right _ h))) gwX2)) (goodIn_sub (fun _ h => List.mem_cons_of_mem _ (List.mem_append_right _ h)) gwX8))
set_option maxRecDepth 20000 in
theorem gX7_spreadGifts_X8_load : GoodIn wsX7_spreadGifts (wsV RX7 66 RX8 yX8_load wsX8_load) := goodIn_app (goodIn_of _ (by decide +kernel)) ggX7_spreadGifts_X8_load
set_option maxRecDepth 20000 in
theorem ggX7_spreadGifts_X7_addGifts : GoodIn wsX7_spreadGifts wsX7_addGifts := (goodIn_ca (goodIn_ca (goodIn_r _ [67, 2, 68, 69, 70, 11, 71, 14] (by decide +kernel) (by decide +kernel)) (goodIn_sub (fun _ h => List.mem_cons_of_mem _ (List.mem_append_left _ (List.mem_append_left _ (List.mem_append_right _ h)))) gwX7)) (goodIn_sub (fun _ h => List.mem_cons_of_mem _ (List.mem_append_left _ (List.mem_append_right _ h))) gwX2))
set_option maxRecDepth 20000 in
theorem gX7_spreadGifts_X7_addGifts : GoodIn wsX7_spreadGifts (wsV RX7 87 RX7 yX7_addGifts wsX7_addGifts) := goodIn_app (goodIn_of _ (by decide +kernel)) ggX7_spreadGifts_X7_addGifts
set_option maxRecDepth 20000 in
theorem ggX7_firstFeast_X8_size : GoodIn wsX7_firstFeast wsX8_size := (goodIn_ca (goodIn_r _ [7, 8] (by decide +kernel) (by decide +kernel)) (goodIn_sub (fun _ h => List.mem_cons_of_mem _ (List.mem_append_left _ (List.mem_append_right _ h))) gwX8))
set_option maxRecDepth 20000 in
theorem gX7_firstFeast_X8_size : GoodIn wsX7_firstFeast (wsV RX7 42 RX8 yX8_size wsX8_size) := goodIn_app (goodIn_of _ (by decide +kernel)) ggX7_firstFeast_X8_size
set_option maxRecDepth 20000 in
theorem ggX7_firstFeast_X8_load : GoodIn wsX7_firstFeast wsX8_load := (goodIn_ca (goodIn_ca (goodIn_r _ [12, 8, 13, 14, 15, 16, 17, 18] (by decide +kernel) (by decide +kernel)) (goodIn_sub (fun _ h => List.mem_cons_of_mem _ (List.mem_append_right _ h)) gwX2)) (goodIn_sub (fun _ h => List.mem_cons_of_mem _ (List.mem_append_left _ (List.mem_append_right _ h))) gwX8))
set_option maxRecDepth 20000 in
theorem gX7_firstFeast_X8_load : GoodIn wsX7_firstFeast (wsV RX7 66 RX8 yX8_load wsX8_load) := goodIn_app (goodIn_of _ (by decide +kernel)) ggX7_firstFeast_X8_load
set_option maxRecDepth 20000 in
theorem ggX7_firstFeast_X2_firstBarred : GoodIn wsX7_firstFeast wsX2_firstBarred := (goodIn_ca (goodIn_r _ [23, 24] (by decide +kernel) (by decide +kernel)) (goodIn_sub (fun _ h => List.mem_cons_of_mem _ (List.mem_append_right _ h)) gwX2))
set_option maxRecDepth 20000 in
theorem gX7_firstFeast_X2_firstBarred : GoodIn wsX7_firstFeast (wsV RX7 105 RX2 yX2_firstBarred wsX2_firstBarred) := goodIn_app (goodIn_of _ (by decide +kernel)) ggX7_firstFeast_X2_firstBarred
set_option maxRecDepth 20000 in
theorem ggX7_firstFeast_X2_firstClash : GoodIn wsX7_firstFeast wsX2_firstClash := (goodIn_ca (goodIn_r _ [28, 24] (by decide +kernel) (by decide +kernel)) (goodIn_sub (fun _ h => List.mem_cons_of_mem _ (List.mem_append_right _ h)) gwX2))
set_option maxRecDepth 20000 in
theorem gX7_firstFeast_X2_firstClash : GoodIn wsX7_firstFeast (wsV RX7 108 RX2 yX2_firstClash wsX2_firstClash) := goodIn_app (goodIn_of _ (by decide +kernel)) ggX7_firstFeast_X2_firstClash
set_option maxRecDepth 20000 in
theorem ggX11_prepare_X2_hasThings : GoodIn wsX11_prepare wsX2_hasThings := (goodIn_ca (goodIn_r _ [6, 7, 8, 9, 5, 10, 11] (by decide +kernel) (by decide +kernel)) (goodIn_sub (fun _ h => List.mem_cons_of_mem _ (List.mem_append_left _ (List.mem_append_left _ (List.mem_append_right _ h)))) gwX2))
set_option maxRecDepth 20000 in
theorem gX11_prepare_X2_hasThings : GoodIn wsX11_prepare (wsV RX11 308 RX2 yX2_hasThings wsX2_hasThings) := goodIn_app (goodIn_of _ (by decide +kernel)) ggX11_prepare_X2_hasThings
set_option maxRecDepth 20000 in
theorem ggX11_prepare_X11_searching : GoodIn wsX11_prepare wsX11_searching := (goodIn_ca (goodIn_ca (goodIn_ca (goodIn_r _ [16, 17, 18, 19, 20, 21, 22, 23, 24, 25, 26, 27, 28, 29, 30, 31, 32, 33, 34, 35, 36, 37, 38, 39, 40, 41, 42, 43, 44, 45, 46, 47, 48, 49, 50] (by decide +kernel) (by decide +kernel)) (goodIn_sub (fun _ h => List.mem_cons_of_mem _ (List.mem_append_left _ (List.mem_append_left _ (List.mem_append_left _ (List.mem_append_right _ h))))) gwX11)) (goodIn_sub (fun _ h => List.mem_cons_of_mem _ (List.mem_append_left _ (List.mem_append_right _ h))) gwX7)) (goodIn_sub (fun _ h => List.mem_cons_of_mem _ (List.mem_append_right _ h)) gwX8))
set_option maxRecDepth 20000 in
theorem gX11_prepare_X11_searching : GoodIn wsX11_prepare (wsV RX11 317 RX11 yX11_searching wsX11_searching) := goodIn_app (goodIn_of _ (by decide +kernel)) ggX11_prepare_X11_searching
set_option maxRecDepth 20000 in
theorem ggX11_prepare_X7_spreadGifts : GoodIn wsX11_prepare wsX7_spreadGifts := (goodIn_ca (goodIn_ca (goodIn_ca (goodIn_r _ [54, 33, 41, 55, 56, 57, 20, 58, 59, 60, 61, 5, 62, 63, 11, 64, 65, 66, 67, 68, 69, 70, 71, 72, 73, 74, 31, 75, 50, 76, 77, 78, 79, 80, 81, 82, 83, 84, 85, 45, 86, 46, 87, 47, 88, 48, 49, 89, 90, 91, 92, 93, 94, 95, 96, 97, 98, 99, 100, 101, 102, 103, 104, 105, 106, 107, 108, 109, 110, 111, 112, 113] (by decide +kernel) (by decide +kernel)) (goodIn_sub (fun _ h => List.mem_cons_of_mem _ (List.mem_append_left _ (List.mem_append_right _ h))) gwX7)) (goodIn_sub (fun _ h => List.mem_cons_of_mem _ (List.mem_append_left _ (List.mem_append_left _ (List.mem_append_right _ h)))) gwX2)) (goodIn_sub (fun _ h => List.mem_cons_of_mem _ (List.mem_append_right _ h)) gwX8))
set_option maxRecDepth 20000 in
theorem gX11_prepare_X7_spreadGifts : GoodIn wsX11_prepare (wsV RX11 321 RX7 yX7_spreadGifts wsX7_spreadGifts) := goodIn_app (goodIn_of _ (by decide +kernel)) ggX11_prepare_X7_spreadGifts
set_option maxRecDepth 20000 in
theorem ggX11_prepare_X7_firstFeast : GoodIn wsX11_prepare wsX7_firstFeast := (goodIn_ca (goodIn_ca (goodIn_ca (goodIn_r _ [117, 33, 41, 94, 95, 96, 31, 97, 76, 102, 103, 104, 105, 45, 86, 46, 87, 47, 88, 118, 119, 120, 5, 121, 11, 122, 123, 124, 125] (by decide +kernel) (by decide +kernel)) (goodIn_sub (fun _ h => List.mem_cons_of_mem _ (List.mem_append_left _ (List.mem_append_right _ h))) gwX7)) (goodIn_sub (fun _ h => List.mem_cons_of_mem _ (List.mem_append_right _ h)) gwX8)) (goodIn_sub (fun _ h => List.mem_cons_of_mem _ (List.mem_append_left _ (List.mem_append_left _ (List.mem_append_right _ h)))) gwX2))
set_option maxRecDepth 20000 in
theorem gX11_prepare_X7_firstFeast : GoodIn wsX11_prepare (wsV RX11 326 RX7 yX7_firstFeast wsX7_firstFeast) := goodIn_app (goodIn_of _ (by decide +kernel)) ggX11_prepare_X7_firstFeast
set_option maxRecDepth 20000 in
theorem ggX11_prepare_X11_clearRow : GoodIn wsX11_prepare wsX11_clearRow := (goodIn_ca (goodIn_r _ [129, 130] (by decide +kernel) (by decide +kernel)) (goodIn_sub (fun _ h => List.mem_cons_of_mem _ (List.mem_append_left _ (List.mem_append_left _ (List.mem_append_left _ (List.mem_append_right _ h))))) gwX11))
set_option maxRecDepth 20000 in
theorem gX11_prepare_X11_clearRow : GoodIn wsX11_prepare (wsV RX11 206 RX11 yX11_clearRow wsX11_clearRow) := goodIn_app (goodIn_of _ (by decide +kernel)) ggX11_prepare_X11_clearRow
set_option maxRecDepth 20000 in
theorem ggX11_prepare_X7_tracePath : GoodIn wsX11_prepare wsX7_tracePath := (goodIn_r _ [134] (by decide +kernel) (by decide +kernel))
set_option maxRecDepth 20000 in
theorem gX11_prepare_X7_tracePath : GoodIn wsX11_prepare (wsV RX11 329 RX7 yX7_tracePath wsX7_tracePath) := goodIn_app (goodIn_of _ (by decide +kernel)) ggX11_prepare_X7_tracePath
set_option maxRecDepth 20000 in
theorem ggX11_prepare_X11_tellPath : GoodIn wsX11_prepare wsX11_tellPath := (goodIn_r _ [138] (by decide +kernel) (by decide +kernel))
set_option maxRecDepth 20000 in
theorem gX11_prepare_X11_tellPath : GoodIn wsX11_prepare (wsV RX11 332 RX11 yX11_tellPath wsX11_tellPath) := goodIn_app (goodIn_of _ (by decide +kernel)) ggX11_prepare_X11_tellPath
set_option maxRecDepth 20000 in
theorem ggX12_clearStates_X12_lay : GoodIn wsX12_clearStates wsX12_lay := (goodIn_ca (goodIn_r _ [8, 9, 10] (by decide +kernel) (by decide +kernel)) (goodIn_sub (fun _ h => List.mem_cons_of_mem _ (List.mem_append_right _ h)) gwX12))
set_option maxRecDepth 20000 in
theorem gX12_clearStates_X12_lay : GoodIn wsX12_clearStates (wsV RX12 267 RX12 yX12_lay wsX12_lay) := goodIn_app (goodIn_of _ (by decide +kernel)) ggX12_clearStates_X12_lay
set_option maxRecDepth 20000 in
theorem ggX12_clearStates_X12_stateNow : GoodIn wsX12_clearStates wsX12_stateNow := (goodIn_ca (goodIn_r _ [14, 15, 16, 1, 2, 17, 10, 18, 9, 19, 20, 21] (by decide +kernel) (by decide +kernel)) (goodIn_sub (fun _ h => List.mem_cons_of_mem _ (List.mem_append_right _ h)) gwX12))
set_option maxRecDepth 20000 in
theorem gX12_clearStates_X12_stateNow : GoodIn wsX12_clearStates (wsV RX12 337 RX12 yX12_stateNow wsX12_stateNow) := goodIn_app (goodIn_of _ (by decide +kernel)) ggX12_clearStates_X12_stateNow
set_option maxRecDepth 20000 in
theorem ggX12_prepare_X12_areThings : GoodIn wsX12_prepare wsX12_areThings := (goodIn_ca (goodIn_r _ [10, 3, 11, 12, 9, 13] (by decide +kernel) (by decide +kernel)) (goodIn_sub (fun _ h => List.mem_cons_of_mem _ (List.mem_append_right _ h)) gwX12))
set_option maxRecDepth 20000 in
theorem gX12_prepare_X12_areThings : GoodIn wsX12_prepare (wsV RX12 328 RX12 yX12_areThings wsX12_areThings) := goodIn_app (goodIn_of _ (by decide +kernel)) ggX12_prepare_X12_areThings
set_option maxRecDepth 20000 in
theorem ggX12_prepare_X12_clearStates : GoodIn wsX12_prepare wsX12_clearStates := (goodIn_ca (goodIn_r _ [17, 18, 2, 4, 19, 20, 21, 9, 22, 23, 24, 25, 26, 27, 28, 3, 29, 30, 31, 32, 33, 34] (by decide +kernel) (by decide +kernel)) (goodIn_sub (fun _ h => List.mem_cons_of_mem _ (List.mem_append_right _ h)) gwX12))
set_option maxRecDepth 20000 in
theorem gX12_prepare_X12_clearStates : GoodIn wsX12_prepare (wsV RX12 343 RX12 yX12_clearStates wsX12_clearStates) := goodIn_app (goodIn_of _ (by decide +kernel)) ggX12_prepare_X12_clearStates
set_option maxRecDepth 20000 in
theorem ggX12_prepare_X12_load : GoodIn wsX12_prepare wsX12_load := (goodIn_ca (goodIn_r _ [38, 3, 29] (by decide +kernel) (by decide +kernel)) (goodIn_sub (fun _ h => List.mem_cons_of_mem _ (List.mem_append_right _ h)) gwX12))
set_option maxRecDepth 20000 in
theorem gX12_prepare_X12_load : GoodIn wsX12_prepare (wsV RX12 346 RX12 yX12_load wsX12_load) := goodIn_app (goodIn_of _ (by decide +kernel)) ggX12_prepare_X12_load
set_option maxRecDepth 20000 in
theorem ggX12_prepare_X12_canFeast : GoodIn wsX12_prepare wsX12_canFeast := (goodIn_ca (goodIn_r _ [42, 3] (by decide +kernel) (by decide +kernel)) (goodIn_sub (fun _ h => List.mem_cons_of_mem _ (List.mem_append_right _ h)) gwX12))
set_option maxRecDepth 20000 in
theorem gX12_prepare_X12_canFeast : GoodIn wsX12_prepare (wsV RX12 331 RX12 yX12_canFeast wsX12_canFeast) := goodIn_app (goodIn_of _ (by decide +kernel)) ggX12_prepare_X12_canFeast
set_option maxRecDepth 20000 in
theorem ggX12_prepare_X12_bring : GoodIn wsX12_prepare wsX12_bring := (goodIn_ca (goodIn_r _ [46, 29, 3] (by decide +kernel) (by decide +kernel)) (goodIn_sub (fun _ h => List.mem_cons_of_mem _ (List.mem_append_right _ h)) gwX12))
set_option maxRecDepth 20000 in
theorem gX12_prepare_X12_bring : GoodIn wsX12_prepare (wsV RX12 277 RX12 yX12_bring wsX12_bring) := goodIn_app (goodIn_of _ (by decide +kernel)) ggX12_prepare_X12_bring
set_option maxRecDepth 20000 in
theorem ggX12_prepare_X12_tellWay : GoodIn wsX12_prepare wsX12_tellWay := (goodIn_ca (goodIn_r _ [50, 34] (by decide +kernel) (by decide +kernel)) (goodIn_sub (fun _ h => List.mem_cons_of_mem _ (List.mem_append_right _ h)) gwX12))
set_option maxRecDepth 20000 in
theorem gX12_prepare_X12_tellWay : GoodIn wsX12_prepare (wsV RX12 349 RX12 yX12_tellWay wsX12_tellWay) := goodIn_app (goodIn_of _ (by decide +kernel)) ggX12_prepare_X12_tellWay
set_option maxRecDepth 20000 in
theorem ggX11_areTwoHalves_X2_hasHalf : GoodIn wsX11_areTwoHalves wsX2_hasHalf := (goodIn_ca (goodIn_r _ [6, 7, 8, 9, 5, 10, 11] (by decide +kernel) (by decide +kernel)) (goodIn_sub (fun _ h => List.mem_cons_of_mem _ (List.mem_append_right _ h)) gwX2))
set_option maxRecDepth 20000 in
theorem gX11_areTwoHalves_X2_hasHalf : GoodIn wsX11_areTwoHalves (wsV RX11 435 RX2 yX2_hasHalf wsX2_hasHalf) := goodIn_app (goodIn_of _ (by decide +kernel)) ggX11_areTwoHalves_X2_hasHalf
set_option maxRecDepth 20000 in
theorem ggX11_maySwap_X11_areTwoHalves : GoodIn wsX11_maySwap wsX11_areTwoHalves := (goodIn_ca (goodIn_ca (goodIn_r _ [5, 6, 7, 8, 9, 10, 11, 12, 13, 14, 15, 16] (by decide +kernel) (by decide +kernel)) (goodIn_sub (fun _ h => List.mem_cons_of_mem _ (List.mem_append_left _ (List.mem_append_right _ h))) gwX11)) (goodIn_sub (fun _ h => List.mem_cons_of_mem _ (List.mem_append_right _ h)) gwX2))
set_option maxRecDepth 20000 in
theorem gX11_maySwap_X11_areTwoHalves : GoodIn wsX11_maySwap (wsV RX11 336 RX11 yX11_areTwoHalves wsX11_areTwoHalves) := goodIn_app (goodIn_of _ (by decide +kernel)) ggX11_maySwap_X11_areTwoHalves
set_option maxRecDepth 20000 in
theorem ggX12_areTwo_X12_isHalf : GoodIn wsX12_areTwo wsX12_isHalf := (goodIn_ca (goodIn_r _ [5, 6, 7, 8, 4, 9] (by decide +kernel) (by decide +kernel)) (goodIn_sub (fun _ h => List.mem_cons_of_mem _ (List.mem_append_right _ h)) gwX12))
set_option maxRecDepth 20000 in
theorem gX12_areTwo_X12_isHalf : GoodIn wsX12_areTwo (wsV RX12 242 RX12 yX12_isHalf wsX12_isHalf) := goodIn_app (goodIn_of _ (by decide +kernel)) ggX12_areTwo_X12_isHalf
set_option maxRecDepth 20000 in
theorem ggX12_maySwap_X12_areTwo : GoodIn wsX12_maySwap wsX12_areTwo := (goodIn_ca (goodIn_r _ [6, 7, 8, 9, 5, 10, 11, 12, 13, 14] (by decide +kernel) (by decide +kernel)) (goodIn_sub (fun _ h => List.mem_cons_of_mem _ (List.mem_append_right _ h)) gwX12))
set_option maxRecDepth 20000 in
theorem gX12_maySwap_X12_areTwo : GoodIn wsX12_maySwap (wsV RX12 361 RX12 yX12_areTwo wsX12_areTwo) := goodIn_app (goodIn_of _ (by decide +kernel)) ggX12_maySwap_X12_areTwo
set_option maxRecDepth 20000 in
theorem ggX11_swap_X11_areTwoHalves : GoodIn wsX11_swap wsX11_areTwoHalves := (goodIn_ca (goodIn_ca (goodIn_r _ [5, 6, 7, 8, 9, 10, 11, 12, 13, 14, 15, 16] (by decide +kernel) (by decide +kernel)) (goodIn_sub (fun _ h => List.mem_cons_of_mem _ (List.mem_append_left _ (List.mem_append_right _ h))) gwX11)) (goodIn_sub (fun _ h => List.mem_cons_of_mem _ (List.mem_append_right _ h)) gwX2))
set_option maxRecDepth 20000 in
theorem gX11_swap_X11_areTwoHalves : GoodIn wsX11_swap (wsV RX11 336 RX11 yX11_areTwoHalves wsX11_areTwoHalves) := goodIn_app (goodIn_of _ (by decide +kernel)) ggX11_swap_X11_areTwoHalves
set_option maxRecDepth 20000 in
theorem ggX12_swap_X12_areTwo : GoodIn wsX12_swap wsX12_areTwo := (goodIn_ca (goodIn_r _ [6, 7, 8, 9, 5, 10, 11, 12, 13, 14] (by decide +kernel) (by decide +kernel)) (goodIn_sub (fun _ h => List.mem_cons_of_mem _ (List.mem_append_right _ h)) gwX12))
set_option maxRecDepth 20000 in
theorem gX12_swap_X12_areTwo : GoodIn wsX12_swap (wsV RX12 361 RX12 yX12_areTwo wsX12_areTwo) := goodIn_app (goodIn_of _ (by decide +kernel)) ggX12_swap_X12_areTwo
set_option maxRecDepth 20000 in
theorem ggX10_countGood_X2_halves : GoodIn wsX10_countGood wsX2_halves := (goodIn_ca (goodIn_r _ [5, 6] (by decide +kernel) (by decide +kernel)) (goodIn_sub (fun _ h => List.mem_cons_of_mem _ (List.mem_append_right _ h)) gwX2))
set_option maxRecDepth 20000 in
theorem gX10_countGood_X2_halves : GoodIn wsX10_countGood (wsV RX10 81 RX2 yX2_halves wsX2_halves) := goodIn_app (goodIn_of _ (by decide +kernel)) ggX10_countGood_X2_halves
set_option maxRecDepth 20000 in
theorem ggX11_good_X10_countGood : GoodIn wsX11_good wsX10_countGood := (goodIn_ca (goodIn_r _ [7, 8, 9, 10, 11, 12, 13] (by decide +kernel) (by decide +kernel)) (goodIn_sub (fun _ h => List.mem_cons_of_mem _ (List.mem_append_right _ h)) gwX2))
set_option maxRecDepth 20000 in
theorem gX11_good_X10_countGood : GoodIn wsX11_good (wsV RX11 352 RX10 yX10_countGood wsX10_countGood) := goodIn_app (goodIn_of _ (by decide +kernel)) ggX11_good_X10_countGood
set_option maxRecDepth 20000 in
theorem ggX11_good_X11_clearRow : GoodIn wsX11_good wsX11_clearRow := (goodIn_ca (goodIn_r _ [18, 19] (by decide +kernel) (by decide +kernel)) (goodIn_sub (fun _ h => List.mem_cons_of_mem _ (List.mem_append_left _ (List.mem_append_right _ h))) gwX11))
set_option maxRecDepth 20000 in
theorem gX11_good_X11_clearRow : GoodIn wsX11_good (wsV RX11 206 RX11 yX11_clearRow wsX11_clearRow) := goodIn_app (goodIn_of _ (by decide +kernel)) ggX11_good_X11_clearRow
set_option maxRecDepth 20000 in
theorem ggX12_good_X12_findGood : GoodIn wsX12_good wsX12_findGood := (goodIn_ca (goodIn_r _ [7, 8, 9] (by decide +kernel) (by decide +kernel)) (goodIn_sub (fun _ h => List.mem_cons_of_mem _ (List.mem_append_right _ h)) gwX12))
set_option maxRecDepth 20000 in
theorem gX12_good_X12_findGood : GoodIn wsX12_good (wsV RX12 376 RX12 yX12_findGood wsX12_findGood) := goodIn_app (goodIn_of _ (by decide +kernel)) ggX12_good_X12_findGood
set_option maxRecDepth 20000 in
theorem ggX10_firstGood_X2_halves : GoodIn wsX10_firstGood wsX2_halves := (goodIn_ca (goodIn_r _ [5, 6] (by decide +kernel) (by decide +kernel)) (goodIn_sub (fun _ h => List.mem_cons_of_mem _ (List.mem_append_right _ h)) gwX2))
set_option maxRecDepth 20000 in
theorem gX10_firstGood_X2_halves : GoodIn wsX10_firstGood (wsV RX10 81 RX2 yX2_halves wsX2_halves) := goodIn_app (goodIn_of _ (by decide +kernel)) ggX10_firstGood_X2_halves
set_option maxRecDepth 20000 in
theorem ggX2_countTogether_X2_togetherBits : GoodIn wsX2_countTogether wsX2_togetherBits := (goodIn_ca (goodIn_r _ [5, 6] (by decide +kernel) (by decide +kernel)) (goodIn_sub (fun _ h => List.mem_cons_of_mem _ (List.mem_append_right _ h)) gwX2))
set_option maxRecDepth 20000 in
theorem gX2_countTogether_X2_togetherBits : GoodIn wsX2_countTogether (wsV RX2 103 RX2 yX2_togetherBits wsX2_togetherBits) := goodIn_app (goodIn_of _ (by decide +kernel)) ggX2_countTogether_X2_togetherBits
set_option maxRecDepth 20000 in
theorem ggX2_countTogether_J6_bitCount_0f7a4 : GoodIn wsX2_countTogether wsJ6_bitCount_0f7a4 := (goodIn_r _ [10, 11, 12, 13] (by decide +kernel) (by decide +kernel))
set_option maxRecDepth 20000 in
theorem gX2_countTogether_J6_bitCount_0f7a4 : GoodIn wsX2_countTogether (va_wsS RX2 106 yJ6_bitCount_0f7a4 wsJ6_bitCount_0f7a4) := goodIn_app (goodIn_of _ (by decide +kernel)) ggX2_countTogether_J6_bitCount_0f7a4
set_option maxRecDepth 20000 in
theorem ggX11_rests_X10_firstGood : GoodIn wsX11_rests wsX10_firstGood := (goodIn_ca (goodIn_r _ [7, 8, 9, 10, 11, 12, 13] (by decide +kernel) (by decide +kernel)) (goodIn_sub (fun _ h => List.mem_cons_of_mem _ (List.mem_append_right _ h)) gwX2))
set_option maxRecDepth 20000 in
theorem gX11_rests_X10_firstGood : GoodIn wsX11_rests (wsV RX11 356 RX10 yX10_firstGood wsX10_firstGood) := goodIn_app (goodIn_of _ (by decide +kernel)) ggX11_rests_X10_firstGood
set_option maxRecDepth 20000 in
theorem ggX11_rests_X11_clearRow : GoodIn wsX11_rests wsX11_clearRow := (goodIn_ca (goodIn_r _ [18, 19] (by decide +kernel) (by decide +kernel)) (goodIn_sub (fun _ h => List.mem_cons_of_mem _ (List.mem_append_left _ (List.mem_append_right _ h))) gwX11))
set_option maxRecDepth 20000 in
theorem gX11_rests_X11_clearRow : GoodIn wsX11_rests (wsV RX11 206 RX11 yX11_clearRow wsX11_clearRow) := goodIn_app (goodIn_of _ (by decide +kernel)) ggX11_rests_X11_clearRow
set_option maxRecDepth 20000 in
theorem ggX11_rests_X11_tell : GoodIn wsX11_rests wsX11_tell := (goodIn_ca (goodIn_r _ [23, 19, 24] (by decide +kernel) (by decide +kernel)) (goodIn_sub (fun _ h => List.mem_cons_of_mem _ (List.mem_append_left _ (List.mem_append_right _ h))) gwX11))
set_option maxRecDepth 20000 in
theorem gX11_rests_X11_tell : GoodIn wsX11_rests (wsV RX11 212 RX11 yX11_tell wsX11_tell) := goodIn_app (goodIn_of _ (by decide +kernel)) ggX11_rests_X11_tell
set_option maxRecDepth 20000 in
theorem ggX11_rests_X2_countTogether : GoodIn wsX11_rests wsX2_countTogether := (goodIn_ca (goodIn_r _ [28, 29, 30, 31, 11, 32, 13, 33, 34, 35, 36, 37, 38, 39] (by decide +kernel) (by decide +kernel)) (goodIn_sub (fun _ h => List.mem_cons_of_mem _ (List.mem_append_right _ h)) gwX2))
set_option maxRecDepth 20000 in
theorem gX11_rests_X2_countTogether : GoodIn wsX11_rests (wsV RX11 349 RX2 yX2_countTogether wsX2_countTogether) := goodIn_app (goodIn_of _ (by decide +kernel)) ggX11_rests_X2_countTogether
set_option maxRecDepth 20000 in
theorem ggX12_rests_X12_in : GoodIn wsX12_rests wsX12_in := (goodIn_r _ [6] (by decide +kernel) (by decide +kernel))
set_option maxRecDepth 20000 in
theorem gX12_rests_X12_in : GoodIn wsX12_rests (va_wsS RX12 110 yX12_in wsX12_in) := goodIn_app (goodIn_of _ (by decide +kernel)) ggX12_rests_X12_in
set_option maxRecDepth 20000 in
theorem ggX12_rests_X12_findGood : GoodIn wsX12_rests wsX12_findGood := (goodIn_ca (goodIn_r _ [10, 11, 12] (by decide +kernel) (by decide +kernel)) (goodIn_sub (fun _ h => List.mem_cons_of_mem _ (List.mem_append_right _ h)) gwX12))
set_option maxRecDepth 20000 in
theorem gX12_rests_X12_findGood : GoodIn wsX12_rests (wsV RX12 376 RX12 yX12_findGood wsX12_findGood) := goodIn_app (goodIn_of _ (by decide +kernel)) ggX12_rests_X12_findGood
set_option maxRecDepth 20000 in
theorem ggX12_rests_X12_tell : GoodIn wsX12_rests wsX12_tell := (goodIn_ca (goodIn_r _ [16, 17, 2] (by decide +kernel) (by decide +kernel)) (goodIn_sub (fun _ h => List.mem_cons_of_mem _ (List.mem_append_right _ h)) gwX12))
set_option maxRecDepth 20000 in
theorem gX12_rests_X12_tell : GoodIn wsX12_rests (wsV RX12 264 RX12 yX12_tell wsX12_tell) := goodIn_app (goodIn_of _ (by decide +kernel)) ggX12_rests_X12_tell
set_option maxRecDepth 20000 in
theorem ggX12_rests_X12_together : GoodIn wsX12_rests wsX12_together := (goodIn_ca (goodIn_r _ [21, 12] (by decide +kernel) (by decide +kernel)) (goodIn_sub (fun _ h => List.mem_cons_of_mem _ (List.mem_append_right _ h)) gwX12))
set_option maxRecDepth 20000 in
theorem gX12_rests_X12_together : GoodIn wsX12_rests (wsV RX12 370 RX12 yX12_together wsX12_together) := goodIn_app (goodIn_of _ (by decide +kernel)) ggX12_rests_X12_together
set_option maxRecDepth 20000 in
theorem ggX12_rests_J6_bitCount_0f7a4 : GoodIn wsX12_rests wsJ6_bitCount_0f7a4 := (goodIn_r _ [25, 26, 27, 28] (by decide +kernel) (by decide +kernel))
set_option maxRecDepth 20000 in
theorem gX12_rests_J6_bitCount_0f7a4 : GoodIn wsX12_rests (va_wsS RX12 314 yJ6_bitCount_0f7a4 wsJ6_bitCount_0f7a4) := goodIn_app (goodIn_of _ (by decide +kernel)) ggX12_rests_J6_bitCount_0f7a4
set_option maxRecDepth 20000 in
theorem ggX7_addSwaps_X2_halves : GoodIn wsX7_addSwaps wsX2_halves := (goodIn_ca (goodIn_r _ [6, 7] (by decide +kernel) (by decide +kernel)) (goodIn_sub (fun _ h => List.mem_cons_of_mem _ (List.mem_append_right _ h)) gwX2))
set_option maxRecDepth 20000 in
theorem gX7_addSwaps_X2_halves : GoodIn wsX7_addSwaps (wsV RX7 74 RX2 yX2_halves wsX2_halves) := goodIn_app (goodIn_of _ (by decide +kernel)) ggX7_addSwaps_X2_halves
set_option maxRecDepth 20000 in
theorem ggX7_spreadSwaps_X7_begin : GoodIn wsX7_spreadSwaps wsX7_begin := (goodIn_ca (goodIn_ca (goodIn_ca (goodIn_r _ [7, 2, 1, 8, 9, 10, 11, 12, 13, 14, 15, 16, 17, 18, 19, 20, 21, 22, 23, 24, 25, 26, 27, 28, 29, 30, 31, 32, 33, 34, 35, 36, 37, 38, 39, 40, 41, 42, 43, 44, 45, 46, 47, 48, 49, 50, 51] (by decide +kernel) (by decide +kernel)) (goodIn_sub (fun _ h => List.mem_cons_of_mem _ (List.mem_append_left _ (List.mem_append_left _ (List.mem_append_right _ h)))) gwX7)) (goodIn_sub (fun _ h => List.mem_cons_of_mem _ (List.mem_append_left _ (List.mem_append_right _ h))) gwX2)) (goodIn_sub (fun _ h => List.mem_cons_of_mem _ (List.mem_append_right _ h)) gwX8))
set_option maxRecDepth 20000 in
theorem gX7_spreadSwaps_X7_begin : GoodIn wsX7_spreadSwaps (wsV RX7 59 RX7 yX7_begin wsX7_begin) := goodIn_app (goodIn_of _ (by decide +kernel)) ggX7_spreadSwaps_X7_begin
set_option maxRecDepth 20000 in
theorem ggX7_spreadSwaps_X8_size : GoodIn wsX7_spreadSwaps wsX8_size := (goodIn_ca (goodIn_r _ [55, 29] (by decide +kernel) (by decide +kernel)) (goodIn_sub (fun _ h => List.mem_cons_of_mem _ (List.mem_append_right _ h)) gwX8))
set_option maxRecDepth 20000 in
theorem gX7_spreadSwaps_X8_size : GoodIn wsX7_spreadSwaps (wsV RX7 42 RX8 yX8_size wsX8_size) := goodIn_app (goodIn_of _ (by decide +kernel)) ggX7_spreadSwaps_X8_size
set_option maxRecDepth 20000 in
theorem ggX7_spreadSwaps_X8_isOver : GoodIn wsX7_spreadSwaps wsX8_isOver := (goodIn_ca (goodIn_r _ [59, 30] (by decide +kernel) (by decide +kernel)) (goodIn_sub (fun _ h => List.mem_cons_of_mem _ (List.mem_append_right _ h)) gwX8))
set_option maxRecDepth 20000 in
theorem gX7_spreadSwaps_X8_isOver : GoodIn wsX7_spreadSwaps (wsV RX7 62 RX8 yX8_isOver wsX8_isOver) := goodIn_app (goodIn_of _ (by decide +kernel)) ggX7_spreadSwaps_X8_isOver
set_option maxRecDepth 20000 in
theorem ggX7_spreadSwaps_X8_load : GoodIn wsX7_spreadSwaps wsX8_load := (goodIn_ca (goodIn_ca (goodIn_r _ [63, 29, 39, 40, 41, 42, 43, 44] (by decide +kernel) (by decide +kernel)) (goodIn_sub (fun _ h => List.mem_cons_of_mem _ (List.mem_append_left _ (List.mem_append_right _ h))) gwX2)) (goodIn_sub (fun _ h => List.mem_cons_of_mem _ (List.mem_append_right _ h)) gwX8))
set_option maxRecDepth 20000 in
theorem gX7_spreadSwaps_X8_load : GoodIn wsX7_spreadSwaps (wsV RX7 66 RX8 yX8_load wsX8_load) := goodIn_app (goodIn_of _ (by decide +kernel)) ggX7_spreadSwaps_X8_load
set_option maxRecDepth 20000 in
theorem ggX7_spreadSwaps_X7_addSwaps : GoodIn wsX7_spreadSwaps wsX7_addSwaps := (goodIn_ca (goodIn_ca (goodIn_r _ [67, 2, 68, 69, 70, 11, 71, 14] (by decide +kernel) (by decide +kernel)) (goodIn_sub (fun _ h => List.mem_cons_of_mem _ (List.mem_append_left _ (List.mem_append_left _ (List.mem_append_right _ h)))) gwX7)) (goodIn_sub (fun _ h => List.mem_cons_of_mem _ (List.mem_append_left _ (List.mem_append_right _ h))) gwX2))
set_option maxRecDepth 20000 in
theorem gX7_spreadSwaps_X7_addSwaps : GoodIn wsX7_spreadSwaps (wsV RX7 70 RX7 yX7_addSwaps wsX7_addSwaps) := goodIn_app (goodIn_of _ (by decide +kernel)) ggX7_spreadSwaps_X7_addSwaps
set_option maxRecDepth 20000 in
theorem ggX7_firstFriendliest_X8_size : GoodIn wsX7_firstFriendliest wsX8_size := (goodIn_ca (goodIn_r _ [8, 9] (by decide +kernel) (by decide +kernel)) (goodIn_sub (fun _ h => List.mem_cons_of_mem _ (List.mem_append_left _ (List.mem_append_right _ h))) gwX8))
set_option maxRecDepth 20000 in
theorem gX7_firstFriendliest_X8_size : GoodIn wsX7_firstFriendliest (wsV RX7 42 RX8 yX8_size wsX8_size) := goodIn_app (goodIn_of _ (by decide +kernel)) ggX7_firstFriendliest_X8_size
set_option maxRecDepth 20000 in
theorem ggX7_firstFriendliest_X8_load : GoodIn wsX7_firstFriendliest wsX8_load := (goodIn_ca (goodIn_ca (goodIn_r _ [13, 9, 14, 15, 16, 17, 18, 19] (by decide +kernel) (by decide +kernel)) (goodIn_sub (fun _ h => List.mem_cons_of_mem _ (List.mem_append_right _ h)) gwX2)) (goodIn_sub (fun _ h => List.mem_cons_of_mem _ (List.mem_append_left _ (List.mem_append_right _ h))) gwX8))
set_option maxRecDepth 20000 in
theorem gX7_firstFriendliest_X8_load : GoodIn wsX7_firstFriendliest (wsV RX7 66 RX8 yX8_load wsX8_load) := goodIn_app (goodIn_of _ (by decide +kernel)) ggX7_firstFriendliest_X8_load
set_option maxRecDepth 20000 in
theorem ggX7_firstFriendliest_X2_countTogether : GoodIn wsX7_firstFriendliest wsX2_countTogether := (goodIn_ca (goodIn_r _ [24, 25, 26, 27, 23, 28, 29, 30, 31, 32, 33, 34, 35, 36] (by decide +kernel) (by decide +kernel)) (goodIn_sub (fun _ h => List.mem_cons_of_mem _ (List.mem_append_right _ h)) gwX2))
set_option maxRecDepth 20000 in
theorem gX7_firstFriendliest_X2_countTogether : GoodIn wsX7_firstFriendliest (wsV RX7 114 RX2 yX2_countTogether wsX2_countTogether) := goodIn_app (goodIn_of _ (by decide +kernel)) ggX7_firstFriendliest_X2_countTogether
set_option maxRecDepth 20000 in
theorem ggX11_friends_X11_searching : GoodIn wsX11_friends wsX11_searching := (goodIn_ca (goodIn_ca (goodIn_ca (goodIn_r _ [7, 8, 9, 10, 11, 12, 13, 14, 15, 16, 17, 18, 19, 20, 21, 22, 23, 24, 25, 26, 27, 28, 29, 30, 31, 32, 33, 34, 35, 36, 37, 38, 39, 40, 41] (by decide +kernel) (by decide +kernel)) (goodIn_sub (fun _ h => List.mem_cons_of_mem _ (List.mem_append_left _ (List.mem_append_left _ (List.mem_append_left _ (List.mem_append_right _ h))))) gwX11)) (goodIn_sub (fun _ h => List.mem_cons_of_mem _ (List.mem_append_left _ (List.mem_append_left _ (List.mem_append_right _ h)))) gwX7)) (goodIn_sub (fun _ h => List.mem_cons_of_mem _ (List.mem_append_left _ (List.mem_append_right _ h))) gwX8))
set_option maxRecDepth 20000 in
theorem gX11_friends_X11_searching : GoodIn wsX11_friends (wsV RX11 317 RX11 yX11_searching wsX11_searching) := goodIn_app (goodIn_of _ (by decide +kernel)) ggX11_friends_X11_searching
set_option maxRecDepth 20000 in
theorem ggX11_friends_X7_spreadSwaps : GoodIn wsX11_friends wsX7_spreadSwaps := (goodIn_ca (goodIn_ca (goodIn_ca (goodIn_r _ [45, 24, 32, 46, 47, 48, 11, 49, 50, 51, 52, 53, 54, 55, 56, 57, 58, 59, 60, 61, 62, 63, 64, 65, 66, 67, 22, 68, 41, 69, 70, 71, 72, 73, 74, 75, 76, 77, 78, 36, 79, 37, 80, 38, 81, 39, 40, 82, 83, 84, 85, 86, 87, 88, 89, 90, 91, 92, 93, 94, 95, 96, 97, 98, 99, 100, 101, 102, 103, 104, 105, 106] (by decide +kernel) (by decide +kernel)) (goodIn_sub (fun _ h => List.mem_cons_of_mem _ (List.mem_append_left _ (List.mem_append_left _ (List.mem_append_right _ h)))) gwX7)) (goodIn_sub (fun _ h => List.mem_cons_of_mem _ (List.mem_append_right _ h)) gwX2)) (goodIn_sub (fun _ h => List.mem_cons_of_mem _ (List.mem_append_left _ (List.mem_append_right _ h))) gwX8))
set_option maxRecDepth 20000 in
theorem gX11_friends_X7_spreadSwaps : GoodIn wsX11_friends (wsV RX11 359 RX7 yX7_spreadSwaps wsX7_spreadSwaps) := goodIn_app (goodIn_of _ (by decide +kernel)) ggX11_friends_X7_spreadSwaps
set_option maxRecDepth 20000 in
theorem ggX11_friends_X7_firstFriendliest : GoodIn wsX11_friends wsX7_firstFriendliest := (goodIn_ca (goodIn_ca (goodIn_ca (goodIn_r _ [110, 111, 24, 32, 87, 88, 89, 22, 90, 69, 95, 96, 97, 98, 36, 79, 37, 80, 38, 81, 112, 113, 114, 53, 115, 116, 117, 118, 119, 56, 120, 121, 122, 123, 124, 125, 126] (by decide +kernel) (by decide +kernel)) (goodIn_sub (fun _ h => List.mem_cons_of_mem _ (List.mem_append_left _ (List.mem_append_left _ (List.mem_append_right _ h)))) gwX7)) (goodIn_sub (fun _ h => List.mem_cons_of_mem _ (List.mem_append_left _ (List.mem_append_right _ h))) gwX8)) (goodIn_sub (fun _ h => List.mem_cons_of_mem _ (List.mem_append_right _ h)) gwX2))
set_option maxRecDepth 20000 in
theorem gX11_friends_X7_firstFriendliest : GoodIn wsX11_friends (wsV RX11 362 RX7 yX7_firstFriendliest wsX7_firstFriendliest) := goodIn_app (goodIn_of _ (by decide +kernel)) ggX11_friends_X7_firstFriendliest
set_option maxRecDepth 20000 in
theorem ggX11_friends_X11_clearRow : GoodIn wsX11_friends wsX11_clearRow := (goodIn_ca (goodIn_r _ [130, 131] (by decide +kernel) (by decide +kernel)) (goodIn_sub (fun _ h => List.mem_cons_of_mem _ (List.mem_append_left _ (List.mem_append_left _ (List.mem_append_left _ (List.mem_append_right _ h))))) gwX11))
set_option maxRecDepth 20000 in
theorem gX11_friends_X11_clearRow : GoodIn wsX11_friends (wsV RX11 206 RX11 yX11_clearRow wsX11_clearRow) := goodIn_app (goodIn_of _ (by decide +kernel)) ggX11_friends_X11_clearRow
set_option maxRecDepth 20000 in
theorem ggX11_friends_X11_tell : GoodIn wsX11_friends wsX11_tell := (goodIn_ca (goodIn_r _ [135, 131, 136] (by decide +kernel) (by decide +kernel)) (goodIn_sub (fun _ h => List.mem_cons_of_mem _ (List.mem_append_left _ (List.mem_append_left _ (List.mem_append_left _ (List.mem_append_right _ h))))) gwX11))
set_option maxRecDepth 20000 in
theorem gX11_friends_X11_tell : GoodIn wsX11_friends (wsV RX11 212 RX11 yX11_tell wsX11_tell) := goodIn_app (goodIn_of _ (by decide +kernel)) ggX11_friends_X11_tell
set_option maxRecDepth 20000 in
theorem ggX11_friends_X7_tracePath : GoodIn wsX11_friends wsX7_tracePath := (goodIn_r _ [140] (by decide +kernel) (by decide +kernel))
set_option maxRecDepth 20000 in
theorem gX11_friends_X7_tracePath : GoodIn wsX11_friends (wsV RX11 329 RX7 yX7_tracePath wsX7_tracePath) := goodIn_app (goodIn_of _ (by decide +kernel)) ggX11_friends_X7_tracePath
set_option maxRecDepth 20000 in
theorem ggX11_friends_X11_tellPath : GoodIn wsX11_friends wsX11_tellPath := (goodIn_r _ [144] (by decide +kernel) (by decide +kernel))
set_option maxRecDepth 20000 in
theorem gX11_friends_X11_tellPath : GoodIn wsX11_friends (wsV RX11 332 RX11 yX11_tellPath wsX11_tellPath) := goodIn_app (goodIn_of _ (by decide +kernel)) ggX11_friends_X11_tellPath
set_option maxRecDepth 20000 in
theorem ggX12_findSwaps_X12_clearStates : GoodIn wsX12_findSwaps wsX12_clearStates := (goodIn_ca (goodIn_r _ [8, 9, 1, 3, 10, 11, 12, 7, 13, 14, 15, 16, 17, 18, 19, 2, 20, 21, 22, 23, 24, 25] (by decide +kernel) (by decide +kernel)) (goodIn_sub (fun _ h => List.mem_cons_of_mem _ (List.mem_append_right _ h)) gwX12))
set_option maxRecDepth 20000 in
theorem gX12_findSwaps_X12_clearStates : GoodIn wsX12_findSwaps (wsV RX12 343 RX12 yX12_clearStates wsX12_clearStates) := goodIn_app (goodIn_of _ (by decide +kernel)) ggX12_findSwaps_X12_clearStates
set_option maxRecDepth 20000 in
theorem ggX12_findSwaps_X12_bring : GoodIn wsX12_findSwaps wsX12_bring := (goodIn_ca (goodIn_r _ [29, 20, 2] (by decide +kernel) (by decide +kernel)) (goodIn_sub (fun _ h => List.mem_cons_of_mem _ (List.mem_append_right _ h)) gwX12))
set_option maxRecDepth 20000 in
theorem gX12_findSwaps_X12_bring : GoodIn wsX12_findSwaps (wsV RX12 277 RX12 yX12_bring wsX12_bring) := goodIn_app (goodIn_of _ (by decide +kernel)) ggX12_findSwaps_X12_bring
set_option maxRecDepth 20000 in
theorem ggX12_friends_X12_findSwaps : GoodIn wsX12_friends wsX12_findSwaps := (goodIn_ca (goodIn_r _ [9, 2, 10, 3, 11, 12, 13, 8, 14, 15, 16, 17, 18, 19, 20, 21, 22, 23, 24, 25, 26, 27, 28, 29, 30, 31, 32, 33, 34, 35] (by decide +kernel) (by decide +kernel)) (goodIn_sub (fun _ h => List.mem_cons_of_mem _ (List.mem_append_right _ h)) gwX12))
set_option maxRecDepth 20000 in
theorem gX12_friends_X12_findSwaps : GoodIn wsX12_friends (wsV RX12 379 RX12 yX12_findSwaps wsX12_findSwaps) := goodIn_app (goodIn_of _ (by decide +kernel)) ggX12_friends_X12_findSwaps
set_option maxRecDepth 20000 in
theorem ggX12_friends_X12_load : GoodIn wsX12_friends wsX12_load := (goodIn_ca (goodIn_r _ [39, 10, 26] (by decide +kernel) (by decide +kernel)) (goodIn_sub (fun _ h => List.mem_cons_of_mem _ (List.mem_append_right _ h)) gwX12))
set_option maxRecDepth 20000 in
theorem gX12_friends_X12_load : GoodIn wsX12_friends (wsV RX12 346 RX12 yX12_load wsX12_load) := goodIn_app (goodIn_of _ (by decide +kernel)) ggX12_friends_X12_load
set_option maxRecDepth 20000 in
theorem ggX12_friends_X12_together : GoodIn wsX12_friends wsX12_together := (goodIn_ca (goodIn_r _ [43, 10] (by decide +kernel) (by decide +kernel)) (goodIn_sub (fun _ h => List.mem_cons_of_mem _ (List.mem_append_right _ h)) gwX12))
set_option maxRecDepth 20000 in
theorem gX12_friends_X12_together : GoodIn wsX12_friends (wsV RX12 370 RX12 yX12_together wsX12_together) := goodIn_app (goodIn_of _ (by decide +kernel)) ggX12_friends_X12_together
set_option maxRecDepth 20000 in
theorem ggX12_friends_J6_bitCount_0f7a4 : GoodIn wsX12_friends wsJ6_bitCount_0f7a4 := (goodIn_r _ [47, 48, 49, 50] (by decide +kernel) (by decide +kernel))
set_option maxRecDepth 20000 in
theorem gX12_friends_J6_bitCount_0f7a4 : GoodIn wsX12_friends (va_wsS RX12 314 yJ6_bitCount_0f7a4 wsJ6_bitCount_0f7a4) := goodIn_app (goodIn_of _ (by decide +kernel)) ggX12_friends_J6_bitCount_0f7a4
set_option maxRecDepth 20000 in
theorem ggX12_friends_X12_bring : GoodIn wsX12_friends wsX12_bring := (goodIn_ca (goodIn_r _ [35, 26, 10] (by decide +kernel) (by decide +kernel)) (goodIn_sub (fun _ h => List.mem_cons_of_mem _ (List.mem_append_right _ h)) gwX12))
set_option maxRecDepth 20000 in
theorem gX12_friends_X12_bring : GoodIn wsX12_friends (wsV RX12 277 RX12 yX12_bring wsX12_bring) := goodIn_app (goodIn_of _ (by decide +kernel)) ggX12_friends_X12_bring
set_option maxRecDepth 20000 in
theorem ggX12_friends_X12_tell : GoodIn wsX12_friends wsX12_tell := (goodIn_ca (goodIn_r _ [54, 55, 4] (by decide +kernel) (by decide +kernel)) (goodIn_sub (fun _ h => List.mem_cons_of_mem _ (List.mem_append_right _ h)) gwX12))
set_option maxRecDepth 20000 in
theorem gX12_friends_X12_tell : GoodIn wsX12_friends (wsV RX12 264 RX12 yX12_tell wsX12_tell) := goodIn_app (goodIn_of _ (by decide +kernel)) ggX12_friends_X12_tell
set_option maxRecDepth 20000 in
theorem ggX12_friends_X12_tellWay : GoodIn wsX12_friends wsX12_tellWay := (goodIn_ca (goodIn_r _ [59, 31] (by decide +kernel) (by decide +kernel)) (goodIn_sub (fun _ h => List.mem_cons_of_mem _ (List.mem_append_right _ h)) gwX12))
set_option maxRecDepth 20000 in
theorem gX12_friends_X12_tellWay : GoodIn wsX12_friends (wsV RX12 349 RX12 yX12_tellWay wsX12_tellWay) := goodIn_app (goodIn_of _ (by decide +kernel)) ggX12_friends_X12_tellWay
set_option maxRecDepth 20000 in
theorem ggX7_countResting_X8_size : GoodIn wsX7_countResting wsX8_size := (goodIn_ca (goodIn_r _ [8, 9] (by decide +kernel) (by decide +kernel)) (goodIn_sub (fun _ h => List.mem_cons_of_mem _ (List.mem_append_left _ (List.mem_append_right _ h))) gwX8))
set_option maxRecDepth 20000 in
theorem gX7_countResting_X8_size : GoodIn wsX7_countResting (wsV RX7 42 RX8 yX8_size wsX8_size) := goodIn_app (goodIn_of _ (by decide +kernel)) ggX7_countResting_X8_size
set_option maxRecDepth 20000 in
theorem ggX7_countResting_X8_load : GoodIn wsX7_countResting wsX8_load := (goodIn_ca (goodIn_ca (goodIn_r _ [13, 9, 14, 15, 16, 17, 18, 19] (by decide +kernel) (by decide +kernel)) (goodIn_sub (fun _ h => List.mem_cons_of_mem _ (List.mem_append_right _ h)) gwX2)) (goodIn_sub (fun _ h => List.mem_cons_of_mem _ (List.mem_append_left _ (List.mem_append_right _ h))) gwX8))
set_option maxRecDepth 20000 in
theorem gX7_countResting_X8_load : GoodIn wsX7_countResting (wsV RX7 66 RX8 yX8_load wsX8_load) := goodIn_app (goodIn_of _ (by decide +kernel)) ggX7_countResting_X8_load
set_option maxRecDepth 20000 in
theorem ggX7_countResting_X10_firstGood : GoodIn wsX7_countResting wsX10_firstGood := (goodIn_ca (goodIn_r _ [24, 25, 26, 27, 28, 29, 30] (by decide +kernel) (by decide +kernel)) (goodIn_sub (fun _ h => List.mem_cons_of_mem _ (List.mem_append_right _ h)) gwX2))
set_option maxRecDepth 20000 in
theorem gX7_countResting_X10_firstGood : GoodIn wsX7_countResting (wsV RX7 117 RX10 yX10_firstGood wsX10_firstGood) := goodIn_app (goodIn_of _ (by decide +kernel)) ggX7_countResting_X10_firstGood
set_option maxRecDepth 20000 in
theorem ggX7_mostOfAny_X8_size : GoodIn wsX7_mostOfAny wsX8_size := (goodIn_ca (goodIn_r _ [7, 8] (by decide +kernel) (by decide +kernel)) (goodIn_sub (fun _ h => List.mem_cons_of_mem _ (List.mem_append_left _ (List.mem_append_left _ (List.mem_append_right _ h)))) gwX8))
set_option maxRecDepth 20000 in
theorem gX7_mostOfAny_X8_size : GoodIn wsX7_mostOfAny (wsV RX7 42 RX8 yX8_size wsX8_size) := goodIn_app (goodIn_of _ (by decide +kernel)) ggX7_mostOfAny_X8_size
set_option maxRecDepth 20000 in
theorem ggX7_mostOfAny_X8_load : GoodIn wsX7_mostOfAny wsX8_load := (goodIn_ca (goodIn_ca (goodIn_r _ [12, 8, 13, 14, 15, 16, 17, 18] (by decide +kernel) (by decide +kernel)) (goodIn_sub (fun _ h => List.mem_cons_of_mem _ (List.mem_append_left _ (List.mem_append_right _ h))) gwX2)) (goodIn_sub (fun _ h => List.mem_cons_of_mem _ (List.mem_append_left _ (List.mem_append_left _ (List.mem_append_right _ h)))) gwX8))
set_option maxRecDepth 20000 in
theorem gX7_mostOfAny_X8_load : GoodIn wsX7_mostOfAny (wsV RX7 66 RX8 yX8_load wsX8_load) := goodIn_app (goodIn_of _ (by decide +kernel)) ggX7_mostOfAny_X8_load
set_option maxRecDepth 20000 in
theorem ggX7_mostOfAny_X1_mostOf : GoodIn wsX7_mostOfAny wsX1_mostOf := (goodIn_ca (goodIn_ca (goodIn_r _ [23, 24, 25, 26, 27, 28, 29, 30, 31, 32, 33, 34, 35, 36, 37, 38, 39, 40, 41, 22, 42] (by decide +kernel) (by decide +kernel)) (goodIn_sub (fun _ h => List.mem_cons_of_mem _ (List.mem_append_right _ h)) gwX1)) (goodIn_sub (fun _ h => List.mem_cons_of_mem _ (List.mem_append_left _ (List.mem_append_right _ h))) gwX2))
set_option maxRecDepth 20000 in
theorem gX7_mostOfAny_X1_mostOf : GoodIn wsX7_mostOfAny (wsV RX7 121 RX1 yX1_mostOf wsX1_mostOf) := goodIn_app (goodIn_of _ (by decide +kernel)) ggX7_mostOfAny_X1_mostOf
set_option maxRecDepth 20000 in
theorem ggX7_size_X8_size : GoodIn wsX7_size wsX8_size := (goodIn_ca (goodIn_r _ [6, 7] (by decide +kernel) (by decide +kernel)) (goodIn_sub (fun _ h => List.mem_cons_of_mem _ (List.mem_append_right _ h)) gwX8))
set_option maxRecDepth 20000 in
theorem gX7_size_X8_size : GoodIn wsX7_size (wsV RX7 42 RX8 yX8_size wsX8_size) := goodIn_app (goodIn_of _ (by decide +kernel)) ggX7_size_X8_size
set_option maxRecDepth 20000 in
theorem ggX11_states_X11_searching : GoodIn wsX11_states wsX11_searching := (goodIn_ca (goodIn_ca (goodIn_ca (goodIn_r _ [7, 8, 9, 10, 11, 12, 13, 14, 15, 16, 17, 18, 19, 20, 21, 22, 23, 24, 25, 26, 27, 28, 29, 30, 31, 32, 33, 34, 35, 36, 37, 38, 39, 40, 41] (by decide +kernel) (by decide +kernel)) (goodIn_sub (fun _ h => List.mem_cons_of_mem _ (List.mem_append_left _ (List.mem_append_left _ (List.mem_append_left _ (List.mem_append_left _ (List.mem_append_right _ h)))))) gwX11)) (goodIn_sub (fun _ h => List.mem_cons_of_mem _ (List.mem_append_left _ (List.mem_append_left _ (List.mem_append_left _ (List.mem_append_right _ h))))) gwX7)) (goodIn_sub (fun _ h => List.mem_cons_of_mem _ (List.mem_append_left _ (List.mem_append_left _ (List.mem_append_right _ h)))) gwX8))
set_option maxRecDepth 20000 in
theorem gX11_states_X11_searching : GoodIn wsX11_states (wsV RX11 317 RX11 yX11_searching wsX11_searching) := goodIn_app (goodIn_of _ (by decide +kernel)) ggX11_states_X11_searching
set_option maxRecDepth 20000 in
theorem ggX11_states_X7_spreadSwaps : GoodIn wsX11_states wsX7_spreadSwaps := (goodIn_ca (goodIn_ca (goodIn_ca (goodIn_r _ [45, 24, 32, 46, 47, 48, 11, 49, 50, 51, 52, 53, 54, 55, 56, 57, 58, 59, 60, 61, 62, 63, 64, 65, 66, 67, 22, 68, 41, 69, 70, 71, 72, 73, 74, 75, 76, 77, 78, 36, 79, 37, 80, 38, 81, 39, 40, 82, 83, 84, 85, 86, 87, 88, 89, 90, 91, 92, 93, 94, 95, 96, 97, 98, 99, 100, 101, 102, 103, 104, 105, 106] (by decide +kernel) (by decide +kernel)) (goodIn_sub (fun _ h => List.mem_cons_of_mem _ (List.mem_append_left _ (List.mem_append_left _ (List.mem_append_left _ (List.mem_append_right _ h))))) gwX7)) (goodIn_sub (fun _ h => List.mem_cons_of_mem _ (List.mem_append_left _ (List.mem_append_right _ h))) gwX2)) (goodIn_sub (fun _ h => List.mem_cons_of_mem _ (List.mem_append_left _ (List.mem_append_left _ (List.mem_append_right _ h)))) gwX8))
set_option maxRecDepth 20000 in
theorem gX11_states_X7_spreadSwaps : GoodIn wsX11_states (wsV RX11 359 RX7 yX7_spreadSwaps wsX7_spreadSwaps) := goodIn_app (goodIn_of _ (by decide +kernel)) ggX11_states_X7_spreadSwaps
set_option maxRecDepth 20000 in
theorem ggX11_states_X11_clearRow : GoodIn wsX11_states wsX11_clearRow := (goodIn_ca (goodIn_r _ [110, 111] (by decide +kernel) (by decide +kernel)) (goodIn_sub (fun _ h => List.mem_cons_of_mem _ (List.mem_append_left _ (List.mem_append_left _ (List.mem_append_left _ (List.mem_append_left _ (List.mem_append_right _ h)))))) gwX11))
set_option maxRecDepth 20000 in
theorem gX11_states_X11_clearRow : GoodIn wsX11_states (wsV RX11 206 RX11 yX11_clearRow wsX11_clearRow) := goodIn_app (goodIn_of _ (by decide +kernel)) ggX11_states_X11_clearRow
set_option maxRecDepth 20000 in
theorem ggX11_states_X7_countResting : GoodIn wsX11_states wsX7_countResting := (goodIn_ca (goodIn_ca (goodIn_ca (goodIn_r _ [115, 24, 32, 31, 87, 88, 89, 22, 90, 69, 95, 96, 97, 98, 36, 79, 37, 80, 38, 81, 116, 117, 118, 119, 120, 121, 104, 105, 53, 106, 56] (by decide +kernel) (by decide +kernel)) (goodIn_sub (fun _ h => List.mem_cons_of_mem _ (List.mem_append_left _ (List.mem_append_left _ (List.mem_append_left _ (List.mem_append_right _ h))))) gwX7)) (goodIn_sub (fun _ h => List.mem_cons_of_mem _ (List.mem_append_left _ (List.mem_append_left _ (List.mem_append_right _ h)))) gwX8)) (goodIn_sub (fun _ h => List.mem_cons_of_mem _ (List.mem_append_left _ (List.mem_append_right _ h))) gwX2))
set_option maxRecDepth 20000 in
theorem gX11_states_X7_countResting : GoodIn wsX11_states (wsV RX11 368 RX7 yX7_countResting wsX7_countResting) := goodIn_app (goodIn_of _ (by decide +kernel)) ggX11_states_X7_countResting
set_option maxRecDepth 20000 in
theorem ggX11_states_X11_tell : GoodIn wsX11_states wsX11_tell := (goodIn_ca (goodIn_r _ [125, 111, 126] (by decide +kernel) (by decide +kernel)) (goodIn_sub (fun _ h => List.mem_cons_of_mem _ (List.mem_append_left _ (List.mem_append_left _ (List.mem_append_left _ (List.mem_append_left _ (List.mem_append_right _ h)))))) gwX11))
set_option maxRecDepth 20000 in
theorem gX11_states_X11_tell : GoodIn wsX11_states (wsV RX11 212 RX11 yX11_tell wsX11_tell) := goodIn_app (goodIn_of _ (by decide +kernel)) ggX11_states_X11_tell
set_option maxRecDepth 20000 in
theorem ggX11_states_X7_mostOfAny : GoodIn wsX11_states wsX7_mostOfAny := (goodIn_ca (goodIn_ca (goodIn_ca (goodIn_ca (goodIn_r _ [130, 24, 32, 87, 88, 89, 22, 90, 69, 95, 96, 97, 98, 36, 79, 37, 80, 38, 81, 131, 132, 133, 134, 135, 136, 137, 138, 139, 140, 141, 142, 143, 53, 144, 56, 145, 146, 147, 148, 149, 150, 151, 152] (by decide +kernel) (by decide +kernel)) (goodIn_sub (fun _ h => List.mem_cons_of_mem _ (List.mem_append_left _ (List.mem_append_left _ (List.mem_append_left _ (List.mem_append_right _ h))))) gwX7)) (goodIn_sub (fun _ h => List.mem_cons_of_mem _ (List.mem_append_left _ (List.mem_append_left _ (List.mem_append_right _ h)))) gwX8)) (goodIn_sub (fun _ h => List.mem_cons_of_mem _ (List.mem_append_left _ (List.mem_append_right _ h))) gwX2)) (goodIn_sub (fun _ h => List.mem_cons_of_mem _ (List.mem_append_right _ h)) gwX1))
set_option maxRecDepth 20000 in
theorem gX11_states_X7_mostOfAny : GoodIn wsX11_states (wsV RX11 371 RX7 yX7_mostOfAny wsX7_mostOfAny) := goodIn_app (goodIn_of _ (by decide +kernel)) ggX11_states_X7_mostOfAny
set_option maxRecDepth 20000 in
theorem ggX11_states_X7_size : GoodIn wsX11_states wsX7_size := (goodIn_ca (goodIn_ca (goodIn_r _ [156, 24, 87, 88, 89, 22, 90, 69] (by decide +kernel) (by decide +kernel)) (goodIn_sub (fun _ h => List.mem_cons_of_mem _ (List.mem_append_left _ (List.mem_append_left _ (List.mem_append_left _ (List.mem_append_right _ h))))) gwX7)) (goodIn_sub (fun _ h => List.mem_cons_of_mem _ (List.mem_append_left _ (List.mem_append_left _ (List.mem_append_right _ h)))) gwX8))
set_option maxRecDepth 20000 in
theorem gX11_states_X7_size : GoodIn wsX11_states (wsV RX11 375 RX7 yX7_size wsX7_size) := goodIn_app (goodIn_of _ (by decide +kernel)) ggX11_states_X7_size
set_option maxRecDepth 20000 in
theorem ggX12_states_X12_findSwaps : GoodIn wsX12_states wsX12_findSwaps := (goodIn_ca (goodIn_r _ [13, 2, 14, 7, 15, 16, 17, 12, 18, 19, 20, 21, 22, 23, 24, 25, 26, 27, 28, 29, 30, 31, 32, 33, 34, 35, 36, 37, 38, 39] (by decide +kernel) (by decide +kernel)) (goodIn_sub (fun _ h => List.mem_cons_of_mem _ (List.mem_append_right _ h)) gwX12))
set_option maxRecDepth 20000 in
theorem gX12_states_X12_findSwaps : GoodIn wsX12_states (wsV RX12 379 RX12 yX12_findSwaps wsX12_findSwaps) := goodIn_app (goodIn_of _ (by decide +kernel)) ggX12_states_X12_findSwaps
set_option maxRecDepth 20000 in
theorem ggX12_states_X12_load : GoodIn wsX12_states wsX12_load := (goodIn_ca (goodIn_r _ [43, 14, 30] (by decide +kernel) (by decide +kernel)) (goodIn_sub (fun _ h => List.mem_cons_of_mem _ (List.mem_append_right _ h)) gwX12))
set_option maxRecDepth 20000 in
theorem gX12_states_X12_load : GoodIn wsX12_states (wsV RX12 346 RX12 yX12_load wsX12_load) := goodIn_app (goodIn_of _ (by decide +kernel)) ggX12_states_X12_load
set_option maxRecDepth 20000 in
theorem ggX12_states_X12_findGood : GoodIn wsX12_states wsX12_findGood := (goodIn_ca (goodIn_r _ [47, 48, 14] (by decide +kernel) (by decide +kernel)) (goodIn_sub (fun _ h => List.mem_cons_of_mem _ (List.mem_append_right _ h)) gwX12))
set_option maxRecDepth 20000 in
theorem gX12_states_X12_findGood : GoodIn wsX12_states (wsV RX12 376 RX12 yX12_findGood wsX12_findGood) := goodIn_app (goodIn_of _ (by decide +kernel)) ggX12_states_X12_findGood
set_option maxRecDepth 20000 in
theorem ggX12_states_X12_findDay : GoodIn wsX12_states wsX12_findDay := (goodIn_ca (goodIn_r _ [52, 53, 14] (by decide +kernel) (by decide +kernel)) (goodIn_sub (fun _ h => List.mem_cons_of_mem _ (List.mem_append_right _ h)) gwX12))
set_option maxRecDepth 20000 in
theorem gX12_states_X12_findDay : GoodIn wsX12_states (wsV RX12 311 RX12 yX12_findDay wsX12_findDay) := goodIn_app (goodIn_of _ (by decide +kernel)) ggX12_states_X12_findDay
set_option maxRecDepth 20000 in
theorem ggX12_states_X12_bring : GoodIn wsX12_states wsX12_bring := (goodIn_ca (goodIn_r _ [39, 30, 14] (by decide +kernel) (by decide +kernel)) (goodIn_sub (fun _ h => List.mem_cons_of_mem _ (List.mem_append_right _ h)) gwX12))
set_option maxRecDepth 20000 in
theorem gX12_states_X12_bring : GoodIn wsX12_states (wsV RX12 277 RX12 yX12_bring wsX12_bring) := goodIn_app (goodIn_of _ (by decide +kernel)) ggX12_states_X12_bring
set_option maxRecDepth 20000 in
theorem ggX12_states_X12_tell : GoodIn wsX12_states wsX12_tell := (goodIn_ca (goodIn_r _ [57, 58, 8] (by decide +kernel) (by decide +kernel)) (goodIn_sub (fun _ h => List.mem_cons_of_mem _ (List.mem_append_right _ h)) gwX12))
set_option maxRecDepth 20000 in
theorem gX12_states_X12_tell : GoodIn wsX12_states (wsV RX12 264 RX12 yX12_tell wsX12_tell) := goodIn_app (goodIn_of _ (by decide +kernel)) ggX12_states_X12_tell
set_option maxRecDepth 20000 in
theorem ggX11_estate_X2_hasPerson : GoodIn wsX11_estate wsX2_hasPerson := (goodIn_ca (goodIn_r _ [6, 7] (by decide +kernel) (by decide +kernel)) (goodIn_sub (fun _ h => List.mem_cons_of_mem _ (List.mem_append_right _ h)) gwX2))
set_option maxRecDepth 20000 in
theorem gX11_estate_X2_hasPerson : GoodIn wsX11_estate (wsV RX11 112 RX2 yX2_hasPerson wsX2_hasPerson) := goodIn_app (goodIn_of _ (by decide +kernel)) ggX11_estate_X2_hasPerson
set_option maxRecDepth 20000 in
theorem ggX12_estate_X12_isOne : GoodIn wsX12_estate wsX12_isOne := (goodIn_ca (goodIn_r _ [6, 7, 8, 9, 5, 10] (by decide +kernel) (by decide +kernel)) (goodIn_sub (fun _ h => List.mem_cons_of_mem _ (List.mem_append_right _ h)) gwX12))
set_option maxRecDepth 20000 in
theorem gX12_estate_X12_isOne : GoodIn wsX12_estate (wsV RX12 223 RX12 yX12_isOne wsX12_isOne) := goodIn_app (goodIn_of _ (by decide +kernel)) ggX12_estate_X12_isOne
set_option maxRecDepth 20000 in
theorem ggX11_greedy_X2_hasPerson : GoodIn wsX11_greedy wsX2_hasPerson := (goodIn_ca (goodIn_r _ [6, 7] (by decide +kernel) (by decide +kernel)) (goodIn_sub (fun _ h => List.mem_cons_of_mem _ (List.mem_append_right _ h)) gwX2))
set_option maxRecDepth 20000 in
theorem gX11_greedy_X2_hasPerson : GoodIn wsX11_greedy (wsV RX11 112 RX2 yX2_hasPerson wsX2_hasPerson) := goodIn_app (goodIn_of _ (by decide +kernel)) ggX11_greedy_X2_hasPerson
set_option maxRecDepth 20000 in
theorem ggX12_greedy_X12_isOne : GoodIn wsX12_greedy wsX12_isOne := (goodIn_ca (goodIn_r _ [6, 7, 8, 9, 5, 10] (by decide +kernel) (by decide +kernel)) (goodIn_sub (fun _ h => List.mem_cons_of_mem _ (List.mem_append_right _ h)) gwX12))
set_option maxRecDepth 20000 in
theorem gX12_greedy_X12_isOne : GoodIn wsX12_greedy (wsV RX12 223 RX12 yX12_isOne wsX12_isOne) := goodIn_app (goodIn_of _ (by decide +kernel)) ggX12_greedy_X12_isOne
set_option maxRecDepth 20000 in
theorem ggX11_told_X2_hasThing : GoodIn wsX11_told wsX2_hasThing := (goodIn_ca (goodIn_r _ [6, 7] (by decide +kernel) (by decide +kernel)) (goodIn_sub (fun _ h => List.mem_cons_of_mem _ (List.mem_append_right _ h)) gwX2))
set_option maxRecDepth 20000 in
theorem gX11_told_X2_hasThing : GoodIn wsX11_told (wsV RX11 141 RX2 yX2_hasThing wsX2_hasThing) := goodIn_app (goodIn_of _ (by decide +kernel)) ggX11_told_X2_hasThing
set_option maxRecDepth 20000 in
theorem ggX12_told_X12_isThing : GoodIn wsX12_told wsX12_isThing := (goodIn_ca (goodIn_r _ [6, 7, 8, 9, 5, 10] (by decide +kernel) (by decide +kernel)) (goodIn_sub (fun _ h => List.mem_cons_of_mem _ (List.mem_append_right _ h)) gwX12))
set_option maxRecDepth 20000 in
theorem gX12_told_X12_isThing : GoodIn wsX12_told (wsV RX12 239 RX12 yX12_isThing wsX12_isThing) := goodIn_app (goodIn_of _ (by decide +kernel)) ggX12_told_X12_isThing
set_option maxRecDepth 20000 in
theorem ggX11_explains_X2_hasThing : GoodIn wsX11_explains wsX2_hasThing := (goodIn_ca (goodIn_r _ [6, 7] (by decide +kernel) (by decide +kernel)) (goodIn_sub (fun _ h => List.mem_cons_of_mem _ (List.mem_append_right _ h)) gwX2))
set_option maxRecDepth 20000 in
theorem gX11_explains_X2_hasThing : GoodIn wsX11_explains (wsV RX11 141 RX2 yX2_hasThing wsX2_hasThing) := goodIn_app (goodIn_of _ (by decide +kernel)) ggX11_explains_X2_hasThing
set_option maxRecDepth 20000 in
theorem ggX12_explains_X12_isThing : GoodIn wsX12_explains wsX12_isThing := (goodIn_ca (goodIn_r _ [6, 7, 8, 9, 5, 10] (by decide +kernel) (by decide +kernel)) (goodIn_sub (fun _ h => List.mem_cons_of_mem _ (List.mem_append_right _ h)) gwX12))
set_option maxRecDepth 20000 in
theorem gX12_explains_X12_isThing : GoodIn wsX12_explains (wsV RX12 239 RX12 yX12_isThing wsX12_isThing) := goodIn_app (goodIn_of _ (by decide +kernel)) ggX12_explains_X12_isThing
set_option maxRecDepth 20000 in
theorem ggX11_steady_X2_hasThing : GoodIn wsX11_steady wsX2_hasThing := (goodIn_ca (goodIn_r _ [6, 7] (by decide +kernel) (by decide +kernel)) (goodIn_sub (fun _ h => List.mem_cons_of_mem _ (List.mem_append_right _ h)) gwX2))
set_option maxRecDepth 20000 in
theorem gX11_steady_X2_hasThing : GoodIn wsX11_steady (wsV RX11 141 RX2 yX2_hasThing wsX2_hasThing) := goodIn_app (goodIn_of _ (by decide +kernel)) ggX11_steady_X2_hasThing
set_option maxRecDepth 20000 in
theorem ggX12_steady_X12_isThing : GoodIn wsX12_steady wsX12_isThing := (goodIn_ca (goodIn_r _ [6, 7, 8, 9, 5, 10] (by decide +kernel) (by decide +kernel)) (goodIn_sub (fun _ h => List.mem_cons_of_mem _ (List.mem_append_right _ h)) gwX12))
set_option maxRecDepth 20000 in
theorem gX12_steady_X12_isThing : GoodIn wsX12_steady (wsV RX12 239 RX12 yX12_isThing wsX12_isThing) := goodIn_app (goodIn_of _ (by decide +kernel)) ggX12_steady_X12_isThing
set_option maxRecDepth 20000 in
theorem ggX11_bear_X2_hasThing : GoodIn wsX11_bear wsX2_hasThing := (goodIn_ca (goodIn_r _ [6, 7] (by decide +kernel) (by decide +kernel)) (goodIn_sub (fun _ h => List.mem_cons_of_mem _ (List.mem_append_right _ h)) gwX2))
set_option maxRecDepth 20000 in
theorem gX11_bear_X2_hasThing : GoodIn wsX11_bear (wsV RX11 141 RX2 yX2_hasThing wsX2_hasThing) := goodIn_app (goodIn_of _ (by decide +kernel)) ggX11_bear_X2_hasThing
set_option maxRecDepth 20000 in
theorem ggX12_bear_X12_isThing : GoodIn wsX12_bear wsX12_isThing := (goodIn_ca (goodIn_r _ [6, 7, 8, 9, 5, 10] (by decide +kernel) (by decide +kernel)) (goodIn_sub (fun _ h => List.mem_cons_of_mem _ (List.mem_append_right _ h)) gwX12))
set_option maxRecDepth 20000 in
theorem gX12_bear_X12_isThing : GoodIn wsX12_bear (wsV RX12 239 RX12 yX12_isThing wsX12_isThing) := goodIn_app (goodIn_of _ (by decide +kernel)) ggX12_bear_X12_isThing
set_option maxRecDepth 20000 in
theorem ggX11_keep_X2_copy : GoodIn wsX11_keep wsX2_copy := (goodIn_ca (goodIn_r _ [8, 9, 10, 11, 12, 13, 14, 15, 16, 17, 18] (by decide +kernel) (by decide +kernel)) (goodIn_sub (fun _ h => List.mem_cons_of_mem _ (List.mem_append_right _ h)) gwX2))
set_option maxRecDepth 20000 in
theorem gX11_keep_X2_copy : GoodIn wsX11_keep (wsV RX11 231 RX2 yX2_copy wsX2_copy) := goodIn_app (goodIn_of _ (by decide +kernel)) ggX11_keep_X2_copy
set_option maxRecDepth 20000 in
theorem ggX12_keep_X12_in : GoodIn wsX12_keep wsX12_in := (goodIn_r _ [13] (by decide +kernel) (by decide +kernel))
set_option maxRecDepth 20000 in
theorem gX12_keep_X12_in : GoodIn wsX12_keep (va_wsS RX12 110 yX12_in wsX12_in) := goodIn_app (goodIn_of _ (by decide +kernel)) ggX12_keep_X12_in
set_option maxRecDepth 20000 in
theorem ggX12_keep_X12_lay : GoodIn wsX12_keep wsX12_lay := (goodIn_ca (goodIn_r _ [17, 18, 19] (by decide +kernel) (by decide +kernel)) (goodIn_sub (fun _ h => List.mem_cons_of_mem _ (List.mem_append_right _ h)) gwX12))
set_option maxRecDepth 20000 in
theorem gX12_keep_X12_lay : GoodIn wsX12_keep (wsV RX12 267 RX12 yX12_lay wsX12_lay) := goodIn_app (goodIn_of _ (by decide +kernel)) ggX12_keep_X12_lay
set_option maxRecDepth 20000 in
theorem ggX12_again_X12_in : GoodIn wsX12_again wsX12_in := (goodIn_r _ [6] (by decide +kernel) (by decide +kernel))
set_option maxRecDepth 20000 in
theorem gX12_again_X12_in : GoodIn wsX12_again (va_wsS RX12 110 yX12_in wsX12_in) := goodIn_app (goodIn_of _ (by decide +kernel)) ggX12_again_X12_in
set_option maxRecDepth 20000 in
theorem ggX11_count_X2_togetherBits : GoodIn wsX11_count wsX2_togetherBits := (goodIn_ca (goodIn_r _ [12, 13] (by decide +kernel) (by decide +kernel)) (goodIn_sub (fun _ h => List.mem_cons_of_mem _ (List.mem_append_left _ (List.mem_append_left _ (List.mem_append_left _ (List.mem_append_right _ h))))) gwX2))
set_option maxRecDepth 20000 in
theorem gX11_count_X2_togetherBits : GoodIn wsX11_count (wsV RX11 414 RX2 yX2_togetherBits wsX2_togetherBits) := goodIn_app (goodIn_of _ (by decide +kernel)) ggX11_count_X2_togetherBits
set_option maxRecDepth 20000 in
theorem ggX11_count_X4_size : GoodIn wsX11_count wsX4_size := (goodIn_ca (goodIn_r _ [18, 19] (by decide +kernel) (by decide +kernel)) (goodIn_sub (fun _ h => List.mem_cons_of_mem _ (List.mem_append_left _ (List.mem_append_left _ (List.mem_append_right _ h)))) gwX4))
set_option maxRecDepth 20000 in
theorem gX11_count_X4_size : GoodIn wsX11_count (wsV RX11 228 RX4 yX4_size wsX4_size) := goodIn_app (goodIn_of _ (by decide +kernel)) ggX11_count_X4_size
set_option maxRecDepth 20000 in
theorem ggX11_count_X0_size : GoodIn wsX11_count wsX0_size := (goodIn_ca (goodIn_r _ [24, 25] (by decide +kernel) (by decide +kernel)) (goodIn_sub (fun _ h => List.mem_cons_of_mem _ (List.mem_append_left _ (List.mem_append_right _ h))) gwX0))
set_option maxRecDepth 20000 in
theorem gX11_count_X0_size : GoodIn wsX11_count (wsV RX11 391 RX0 yX0_size wsX0_size) := goodIn_app (goodIn_of _ (by decide +kernel)) ggX11_count_X0_size
set_option maxRecDepth 20000 in
theorem ggX11_count_X2_coinOfAll : GoodIn wsX11_count wsX2_coinOfAll := (goodIn_ca (goodIn_r _ [29, 30] (by decide +kernel) (by decide +kernel)) (goodIn_sub (fun _ h => List.mem_cons_of_mem _ (List.mem_append_left _ (List.mem_append_left _ (List.mem_append_left _ (List.mem_append_right _ h))))) gwX2))
set_option maxRecDepth 20000 in
theorem gX11_count_X2_coinOfAll : GoodIn wsX11_count (wsV RX11 417 RX2 yX2_coinOfAll wsX2_coinOfAll) := goodIn_app (goodIn_of _ (by decide +kernel)) ggX11_count_X2_coinOfAll
set_option maxRecDepth 20000 in
theorem ggX11_count_X9_length : GoodIn wsX11_count wsX9_length := (goodIn_ca (goodIn_r _ [35, 36] (by decide +kernel) (by decide +kernel)) (goodIn_sub (fun _ h => List.mem_cons_of_mem _ (List.mem_append_right _ h)) gwX9))
set_option maxRecDepth 20000 in
theorem gX11_count_X9_length : GoodIn wsX11_count (wsV RX11 95 RX9 yX9_length wsX9_length) := goodIn_app (goodIn_of _ (by decide +kernel)) ggX11_count_X9_length
set_option maxRecDepth 20000 in
theorem ggX12_count_X12_together : GoodIn wsX12_count wsX12_together := (goodIn_ca (goodIn_r _ [12, 3] (by decide +kernel) (by decide +kernel)) (goodIn_sub (fun _ h => List.mem_cons_of_mem _ (List.mem_append_right _ h)) gwX12))
set_option maxRecDepth 20000 in
theorem gX12_count_X12_together : GoodIn wsX12_count (wsV RX12 370 RX12 yX12_together wsX12_together) := goodIn_app (goodIn_of _ (by decide +kernel)) ggX12_count_X12_together
set_option maxRecDepth 20000 in
theorem ggX12_row_X12_in : GoodIn wsX12_row wsX12_in := (goodIn_r _ [6] (by decide +kernel) (by decide +kernel))
set_option maxRecDepth 20000 in
theorem gX12_row_X12_in : GoodIn wsX12_row (va_wsS RX12 110 yX12_in wsX12_in) := goodIn_app (goodIn_of _ (by decide +kernel)) ggX12_row_X12_in
set_option maxRecDepth 20000 in
theorem ggX12_row_X12_lost : GoodIn wsX12_row wsX12_lost := (goodIn_ca (goodIn_r _ [10, 1] (by decide +kernel) (by decide +kernel)) (goodIn_sub (fun _ h => List.mem_cons_of_mem _ (List.mem_append_right _ h)) gwX12))
set_option maxRecDepth 20000 in
theorem gX12_row_X12_lost : GoodIn wsX12_row (wsV RX12 227 RX12 yX12_lost wsX12_lost) := goodIn_app (goodIn_of _ (by decide +kernel)) ggX12_row_X12_lost
