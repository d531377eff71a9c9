/-! ===== the law's own methods: words, rows (printed) ===== -/
def wsL_cell : List Cond := .code yL_cell cL_cell 2 (some .int) :: ([.constant RL 7 (1103515245)])
def wsL_up : List Cond := .code yL_up cL_up 2 (some .int) :: ([.constant RL 8 (2147483647)])
def wsL_isStep_r1 : List Cond := [Cond.constant RL 48 (-1000002), Cond.methodLink RL 9 yL_up, Cond.static yL_up, Cond.initialized RL, Cond.code yL_up cL_up 2 (some .int), Cond.constant RL 8 (2147483647), Cond.methodLink RL 15 yX6_placeOf, Cond.instanceMethod yX6_placeOf, Cond.selects RX6 yX6_placeOf yX6_placeOf, Cond.initialized RX6, Cond.code yX6_placeOf cX6_placeOf 4 (some .int), Cond.constant RX6 48 (-1000001), Cond.fieldLink RX6 10 "BatteryCaches" "now" "LBatteryCaches$State;", Cond.fieldLink RX6 132 "BatteryCaches$State" "disk" "[I", Cond.fieldLink RX6 120 "BatteryCaches$State" "value" "[I", Cond.constant RX6 116 (-1000004), Cond.fieldLink RX6 135 "BatteryCaches$State" "laid" "[I", Cond.methodLink RX6 44 yX6_isPlace, Cond.static yX6_isPlace, Cond.code yX6_isPlace cX6_isPlace 1 (some .boolean), Cond.methodLink RX6 57 yX6_isWithin, Cond.static yX6_isWithin, Cond.code yX6_isWithin cX6_isWithin 3 (some .boolean), Cond.methodLink RX6 129 yX4_holderOf]
def wsL_isStep_r2 : List Cond := [Cond.instanceMethod yX4_holderOf, Cond.selects RX4 yX4_holderOf yX4_holderOf, Cond.initialized RX4, Cond.code yX4_holderOf cX4_holderOf 3 (some .int), Cond.fieldLink RX4 25 "BatteryCaches$State" "kind" "[I", Cond.fieldLink RX4 28 "BatteryCaches$State" "place" "[I", Cond.methodLink RX6 65 yX6_isLine, Cond.static yX6_isLine, Cond.code yX6_isLine cX6_isLine 1 (some .boolean), Cond.methodLink RL 20 yX6_read, Cond.instanceMethod yX6_read, Cond.selects RX6 yX6_read yX6_read, Cond.code yX6_read cX6_read 2 (some .int), Cond.fieldLink RX6 19 "BatteryCaches" "history" "LBatteryCaches$History;", Cond.methodLink RX6 49 yX1_keep, Cond.instanceMethod yX1_keep, Cond.selects RX1 yX1_keep yX1_keep, Cond.initialized RX1, Cond.code yX1_keep cX1_keep 2 none, Cond.fieldLink RX1 17 "BatteryCaches$History" "size" "I", Cond.fieldLink RX1 11 "BatteryCaches$History" "states" "[LBatteryCaches$State;", Cond.methodLink RX1 22 yX1_dropOldest, Cond.instanceMethod yX1_dropOldest, Cond.selects RX1 yX1_dropOldest yX1_dropOldest]
def wsL_isStep_r3 : List Cond := [Cond.code yX1_dropOldest cX1_dropOldest 3 none, Cond.methodLink RX1 29 yX4_copy, Cond.static yX4_copy, Cond.code yX4_copy cX4_copy 2 none, Cond.fieldLink RX4 12 "BatteryCaches$State" "battery" "LBatteryCaches$Battery;", Cond.fieldLink RX4 18 "BatteryCaches$State" "disk" "[I", Cond.fieldLink RX4 22 "BatteryCaches$State" "laid" "[I", Cond.fieldLink RX4 31 "BatteryCaches$State" "value" "[I", Cond.fieldLink RX4 34 "BatteryCaches$State" "turn" "[I", Cond.fieldLink RX4 37 "BatteryCaches$State" "lastTurn" "I", Cond.fieldLink RX4 41 "BatteryCaches$State" "ticks" "I", Cond.fieldLink RX4 44 "BatteryCaches$State" "hits" "I", Cond.fieldLink RX4 47 "BatteryCaches$State" "misses" "I", Cond.fieldLink RX4 50 "BatteryCaches$State" "flushed" "I", Cond.fieldLink RX4 53 "BatteryCaches$State" "wentThrough" "I", Cond.fieldLink RX4 56 "BatteryCaches$State" "lost" "I", Cond.fieldLink RX4 59 "BatteryCaches$State" "cuts" "I", Cond.fieldLink RX4 62 "BatteryCaches$State" "cyclesEnded" "I", Cond.fieldLink RX4 65 "BatteryCaches$State" "laidInAll" "I", Cond.methodLink RX4 68 yX0_copyFrom, Cond.instanceMethod yX0_copyFrom, Cond.selects RX0 yX0_copyFrom yX0_copyFrom, Cond.initialized RX0, Cond.code yX0_copyFrom cX0_copyFrom 2 none]
def wsL_isStep_r4 : List Cond := [Cond.fieldLink RX0 9 "BatteryCaches$Battery" "charge" "I", Cond.fieldLink RX0 15 "BatteryCaches$Battery" "wear" "I", Cond.fieldLink RX0 18 "BatteryCaches$Battery" "cycle" "I", Cond.fieldLink RX0 21 "BatteryCaches$Battery" "lineCost" "I", Cond.fieldLink RX0 24 "BatteryCaches$Battery" "cutCost" "I", Cond.fieldLink RX0 27 "BatteryCaches$Battery" "rise" "I", Cond.fieldLink RX0 30 "BatteryCaches$Battery" "fall" "I", Cond.static yX6_copyRow, Cond.code yX6_copyRow cX6_copyRow 2 none, Cond.methodLink RX6 253 Lib.Math.min.name, Cond.static Lib.Math.min.name, Cond.initialized "java/lang/Math", Cond.code Lib.Math.min.name Lib.Math.min.code 2 (some .int), Cond.methodLink RX6 256 arraycopyName, Cond.native arraycopyName, Cond.static arraycopyName, Cond.initialized "java/lang/System", Cond.methodLink RX6 53 yX4_readPlace, Cond.instanceMethod yX4_readPlace, Cond.selects RX4 yX4_readPlace yX4_readPlace, Cond.code yX4_readPlace cX4_readPlace 3 (some .int), Cond.methodLink RX4 76 yX4_lineFor, Cond.instanceMethod yX4_lineFor, Cond.selects RX4 yX4_lineFor yX4_lineFor]
def wsL_isStep_r5 : List Cond := [Cond.code yX4_lineFor cX4_lineFor 3 (some .int), Cond.methodLink RX4 95 yX4_holderOf, Cond.methodLink RX4 98 yX4_lineToTake, Cond.instanceMethod yX4_lineToTake, Cond.selects RX4 yX4_lineToTake yX4_lineToTake, Cond.code yX4_lineToTake cX4_lineToTake 2 (some .int), Cond.methodLink RX4 108 yX4_lowestEmpty, Cond.instanceMethod yX4_lowestEmpty, Cond.selects RX4 yX4_lowestEmpty yX4_lowestEmpty, Cond.code yX4_lowestEmpty cX4_lowestEmpty 2 (some .int), Cond.methodLink RX4 111 yX4_lowestTurn, Cond.instanceMethod yX4_lowestTurn, Cond.selects RX4 yX4_lowestTurn yX4_lowestTurn, Cond.code yX4_lowestTurn cX4_lowestTurn 5 (some .int), Cond.methodLink RX4 101 yX4_flushLine, Cond.instanceMethod yX4_flushLine, Cond.selects RX4 yX4_flushLine yX4_flushLine, Cond.code yX4_flushLine cX4_flushLine 2 none, Cond.methodLink RX4 91 yX4_layOnDisk, Cond.instanceMethod yX4_layOnDisk, Cond.selects RX4 yX4_layOnDisk yX4_layOnDisk, Cond.code yX4_layOnDisk cX4_layOnDisk 3 none, Cond.methodLink RX4 105 yX4_layIntoLine, Cond.instanceMethod yX4_layIntoLine]
def wsL_isStep_r6 : List Cond := [Cond.selects RX4 yX4_layIntoLine yX4_layIntoLine, Cond.code yX4_layIntoLine cX4_layIntoLine 3 none, Cond.methodLink RL 24 yX6_count, Cond.instanceMethod yX6_count, Cond.selects RX6 yX6_count yX6_count, Cond.code yX6_count cX6_count 2 (some .int), Cond.fieldLink RX6 184 "BatteryCaches$State" "ticks" "I", Cond.fieldLink RX6 187 "BatteryCaches$State" "hits" "I", Cond.fieldLink RX6 190 "BatteryCaches$State" "misses" "I", Cond.fieldLink RX6 193 "BatteryCaches$State" "flushed" "I", Cond.fieldLink RX6 196 "BatteryCaches$State" "wentThrough" "I", Cond.fieldLink RX6 199 "BatteryCaches$State" "lost" "I", Cond.fieldLink RX6 202 "BatteryCaches$State" "cuts" "I", Cond.fieldLink RX6 205 "BatteryCaches$State" "cyclesEnded" "I", Cond.fieldLink RX6 208 "BatteryCaches$State" "laidInAll" "I", Cond.fieldLink RX6 211 "BatteryCaches$History" "size" "I", Cond.fieldLink RX6 26 "BatteryCaches" "text" "LBatteryCaches$Text;", Cond.fieldLink RX6 214 "BatteryCaches$Text" "length" "I", Cond.fieldLink RX6 86 "BatteryCaches$State" "battery" "LBatteryCaches$Battery;", Cond.methodLink RX6 100 yX6_isSetting, Cond.static yX6_isSetting, Cond.code yX6_isSetting cX6_isSetting 1 (some .boolean), Cond.methodLink RX6 109 yX0_setting, Cond.instanceMethod yX0_setting]
def wsL_isStep_r7 : List Cond := [Cond.selects RX0 yX0_setting yX0_setting, Cond.code yX0_setting cX0_setting 2 (some .int), Cond.methodLink RL 27 yX6_write, Cond.instanceMethod yX6_write, Cond.selects RX6 yX6_write yX6_write, Cond.code yX6_write cX6_write 3 (some .int), Cond.methodLink RX6 61 yX4_writePlace, Cond.instanceMethod yX4_writePlace, Cond.selects RX4 yX4_writePlace yX4_writePlace, Cond.code yX4_writePlace cX4_writePlace 4 (some .int), Cond.methodLink RX4 84 yX4_numberOf, Cond.instanceMethod yX4_numberOf, Cond.selects RX4 yX4_numberOf yX4_numberOf, Cond.code yX4_numberOf cX4_numberOf 2 (some .int), Cond.methodLink RX4 154 yX4_setOf, Cond.instanceMethod yX4_setOf, Cond.selects RX4 yX4_setOf yX4_setOf, Cond.code yX4_setOf cX4_setOf 4 (some .int), Cond.methodLink RX4 157 yJ6_bitCount_0f7a4, Cond.static yJ6_bitCount_0f7a4, Cond.initialized RJ6, Cond.code yJ6_bitCount_0f7a4 cJ6_bitCount_0f7a4 1 (some .int), Cond.constant RJ6 265 (1431655765), Cond.constant RJ6 266 (858993459)]
def wsL_isStep_r8 : List Cond := [Cond.constant RJ6 267 (252645135), Cond.methodLink RX4 87 yX0_allowance, Cond.instanceMethod yX0_allowance, Cond.selects RX0 yX0_allowance yX0_allowance, Cond.code yX0_allowance cX0_allowance 1 (some .int), Cond.methodLink RX0 33 yX0_savable, Cond.instanceMethod yX0_savable, Cond.selects RX0 yX0_savable yX0_savable, Cond.code yX0_savable cX0_savable 1 (some .int), Cond.methodLink RX0 37 Lib.Math.min.name, Cond.methodLink RL 30 yX6_lineOf, Cond.instanceMethod yX6_lineOf, Cond.selects RX6 yX6_lineOf yX6_lineOf, Cond.code yX6_lineOf cX6_lineOf 3 (some .int), Cond.fieldLink RX6 68 "BatteryCaches$State" "kind" "[I", Cond.fieldLink RX6 117 "BatteryCaches$State" "place" "[I", Cond.fieldLink RX6 123 "BatteryCaches$State" "turn" "[I", Cond.methodLink RX6 126 yX4_linesAhead, Cond.instanceMethod yX4_linesAhead, Cond.selects RX4 yX4_linesAhead yX4_linesAhead, Cond.code yX4_linesAhead cX4_linesAhead 5 (some .int), Cond.methodLink RL 33 yX6_lines, Cond.instanceMethod yX6_lines, Cond.selects RX6 yX6_lines yX6_lines]
def wsL_isStep_r9 : List Cond := [Cond.code yX6_lines cX6_lines 2 (some .int), Cond.methodLink RX6 153 yX4_setOf, Cond.methodLink RX6 156 yX4_lostByCut, Cond.instanceMethod yX4_lostByCut, Cond.selects RX4 yX4_lostByCut yX4_lostByCut, Cond.code yX4_lostByCut cX4_lostByCut 4 (some .int), Cond.methodLink RX4 133 yX4_savedByCut, Cond.instanceMethod yX4_savedByCut, Cond.selects RX4 yX4_savedByCut yX4_savedByCut, Cond.code yX4_savedByCut cX4_savedByCut 1 (some .int), Cond.methodLink RX4 148 Lib.Math.min.name, Cond.methodLink RX4 145 yX0_savable, Cond.methodLink RX4 151 yX4_linesAhead, Cond.methodLink RL 36 yX6_tick, Cond.instanceMethod yX6_tick, Cond.selects RX6 yX6_tick yX6_tick, Cond.code yX6_tick cX6_tick 2 (some .int), Cond.methodLink RX6 80 yX4_passTicks, Cond.instanceMethod yX4_passTicks, Cond.selects RX4 yX4_passTicks yX4_passTicks, Cond.code yX4_passTicks cX4_passTicks 4 (some .int), Cond.methodLink RX4 117 yX0_passTick, Cond.instanceMethod yX0_passTick, Cond.selects RX0 yX0_passTick yX0_passTick]
def wsL_isStep_r10 : List Cond := [Cond.code yX0_passTick cX0_passTick 1 (some .boolean), Cond.methodLink RX0 54 yX0_fallInCycle, Cond.instanceMethod yX0_fallInCycle, Cond.selects RX0 yX0_fallInCycle yX0_fallInCycle, Cond.code yX0_fallInCycle cX0_fallInCycle 1 none, Cond.methodLink RX0 50 yX0_useUp, Cond.instanceMethod yX0_useUp, Cond.selects RX0 yX0_useUp yX0_useUp, Cond.code yX0_useUp cX0_useUp 2 none, Cond.methodLink RX0 43 Lib.Math.max.name, Cond.static Lib.Math.max.name, Cond.code Lib.Math.max.name Lib.Math.max.code 2 (some .int), Cond.methodLink RX0 57 yX0_capacity, Cond.instanceMethod yX0_capacity, Cond.selects RX0 yX0_capacity yX0_capacity, Cond.code yX0_capacity cX0_capacity 1 (some .int), Cond.methodLink RX4 121 yX4_tooMany, Cond.instanceMethod yX4_tooMany, Cond.selects RX4 yX4_tooMany yX4_tooMany, Cond.code yX4_tooMany cX4_tooMany 1 (some .int), Cond.methodLink RX4 139 Lib.Math.max.name, Cond.methodLink RX4 124 yX4_flushLowest, Cond.instanceMethod yX4_flushLowest, Cond.selects RX4 yX4_flushLowest yX4_flushLowest]
def wsL_isStep_r11 : List Cond := [Cond.code yX4_flushLowest cX4_flushLowest 3 (some .int), Cond.methodLink RL 39 yX6_wouldFlush, Cond.instanceMethod yX6_wouldFlush, Cond.selects RX6 yX6_wouldFlush yX6_wouldFlush, Cond.code yX6_wouldFlush cX6_wouldFlush 2 (some .int), Cond.fieldLink RX6 40 "BatteryCaches" "trialBattery" "LBatteryCaches$Battery;", Cond.methodLink RX6 166 Lib.Math.max.name, Cond.methodLink RX6 159 yX0_copyFrom, Cond.methodLink RX6 163 yX0_useUp, Cond.methodLink RX6 77 yX4_numberOf, Cond.methodLink RX6 147 yX0_allowance, Cond.methodLink RL 42 yX6_battery, Cond.instanceMethod yX6_battery, Cond.selects RX6 yX6_battery yX6_battery, Cond.code yX6_battery cX6_battery 2 (some .int), Cond.fieldLink RX6 138 "BatteryCaches$Battery" "charge" "I", Cond.fieldLink RX6 144 "BatteryCaches$Battery" "wear" "I", Cond.fieldLink RX6 89 "BatteryCaches$Battery" "cycle" "I", Cond.methodLink RX6 141 yX0_capacity, Cond.methodLink RX6 150 yX4_savedByCut, Cond.methodLink RL 45 yX6_load, Cond.instanceMethod yX6_load, Cond.selects RX6 yX6_load yX6_load, Cond.code yX6_load cX6_load 2 (some .int)]
def wsL_isStep_r12 : List Cond := [Cond.methodLink RX6 83 yX4_putLoad, Cond.instanceMethod yX4_putLoad, Cond.selects RX4 yX4_putLoad yX4_putLoad, Cond.code yX4_putLoad cX4_putLoad 2 (some .int), Cond.methodLink RX4 127 yX0_useUp, Cond.methodLink RL 49 yX6_learn, Cond.instanceMethod yX6_learn, Cond.selects RX6 yX6_learn yX6_learn, Cond.code yX6_learn cX6_learn 1 (some .int), Cond.constant RX6 72 (-1000002), Cond.methodLink RX6 93 yX4_beginCycle, Cond.instanceMethod yX4_beginCycle, Cond.selects RX4 yX4_beginCycle yX4_beginCycle, Cond.code yX4_beginCycle cX4_beginCycle 1 (some .int), Cond.fieldLink RX4 130 "BatteryCaches$Battery" "cycle" "I", Cond.methodLink RL 53 yX6_cut, Cond.instanceMethod yX6_cut, Cond.selects RX6 yX6_cut yX6_cut, Cond.code yX6_cut cX6_cut 1 (some .int), Cond.methodLink RX6 97 yX4_cutPower, Cond.instanceMethod yX4_cutPower, Cond.selects RX4 yX4_cutPower yX4_cutPower, Cond.code yX4_cutPower cX4_cutPower 4 (some .int), Cond.methodLink RX4 136 yX0_saveAtCut]
def wsL_isStep_r13 : List Cond := [Cond.instanceMethod yX0_saveAtCut, Cond.selects RX0 yX0_saveAtCut yX0_saveAtCut, Cond.code yX0_saveAtCut cX0_saveAtCut 2 none, Cond.methodLink RX0 46 yX0_costToSave, Cond.instanceMethod yX0_costToSave, Cond.selects RX0 yX0_costToSave yX0_costToSave, Cond.code yX0_costToSave cX0_costToSave 2 (some .int), Cond.methodLink RL 56 yX6_flush, Cond.instanceMethod yX6_flush, Cond.selects RX6 yX6_flush yX6_flush, Cond.code yX6_flush cX6_flush 2 (some .int), Cond.methodLink RX6 73 yX4_flushLine]
def wsL_isStep : List Cond := .code yL_isStep cL_isStep 11 (some .boolean) :: ((wsL_isStep_r1 ++ (wsL_isStep_r2 ++ (wsL_isStep_r3 ++ (wsL_isStep_r4 ++ (wsL_isStep_r5 ++ (wsL_isStep_r6 ++ (wsL_isStep_r7 ++ (wsL_isStep_r8 ++ (wsL_isStep_r9 ++ (wsL_isStep_r10 ++ (wsL_isStep_r11 ++ (wsL_isStep_r12 ++ wsL_isStep_r13)))))))))))) ++ wsX60 ++ wsX40 ++ wsX10 ++ wsX00 ++ wsX50)
def wsL_bits : List Cond := .code yL_bits cL_bits 3 (some .int) :: ([])
def wsL_isKept_r1 : List Cond := [Cond.methodLink RL 33 yX6_lines, Cond.instanceMethod yX6_lines, Cond.selects RX6 yX6_lines yX6_lines, Cond.initialized RX6, Cond.code yX6_lines cX6_lines 2 (some .int), Cond.fieldLink RX6 10 "BatteryCaches" "now" "LBatteryCaches$State;", Cond.constant RX6 48 (-1000001), Cond.methodLink RX6 153 yX4_setOf, Cond.instanceMethod yX4_setOf, Cond.selects RX4 yX4_setOf yX4_setOf, Cond.initialized RX4, Cond.code yX4_setOf cX4_setOf 4 (some .int), Cond.fieldLink RX4 25 "BatteryCaches$State" "kind" "[I", Cond.methodLink RX6 156 yX4_lostByCut, Cond.instanceMethod yX4_lostByCut, Cond.selects RX4 yX4_lostByCut yX4_lostByCut, Cond.code yX4_lostByCut cX4_lostByCut 4 (some .int), Cond.methodLink RX4 133 yX4_savedByCut, Cond.instanceMethod yX4_savedByCut, Cond.selects RX4 yX4_savedByCut yX4_savedByCut, Cond.code yX4_savedByCut cX4_savedByCut 1 (some .int), Cond.fieldLink RX4 12 "BatteryCaches$State" "battery" "LBatteryCaches$Battery;", Cond.methodLink RX4 148 Lib.Math.min.name, Cond.static Lib.Math.min.name]
def wsL_isKept_r2 : List Cond := [Cond.initialized "java/lang/Math", Cond.code Lib.Math.min.name Lib.Math.min.code 2 (some .int), Cond.methodLink RX4 84 yX4_numberOf, Cond.instanceMethod yX4_numberOf, Cond.selects RX4 yX4_numberOf yX4_numberOf, Cond.code yX4_numberOf cX4_numberOf 2 (some .int), Cond.methodLink RX4 154 yX4_setOf, Cond.methodLink RX4 157 yJ6_bitCount_0f7a4, Cond.static yJ6_bitCount_0f7a4, Cond.initialized RJ6, Cond.code yJ6_bitCount_0f7a4 cJ6_bitCount_0f7a4 1 (some .int), Cond.constant RJ6 265 (1431655765), Cond.constant RJ6 266 (858993459), Cond.constant RJ6 267 (252645135), Cond.methodLink RX4 145 yX0_savable, Cond.instanceMethod yX0_savable, Cond.selects RX0 yX0_savable yX0_savable, Cond.initialized RX0, Cond.code yX0_savable cX0_savable 1 (some .int), Cond.fieldLink RX0 9 "BatteryCaches$Battery" "charge" "I", Cond.fieldLink RX0 24 "BatteryCaches$Battery" "cutCost" "I", Cond.fieldLink RX0 21 "BatteryCaches$Battery" "lineCost" "I", Cond.methodLink RX0 37 Lib.Math.min.name, Cond.methodLink RX4 151 yX4_linesAhead]
def wsL_isKept_r3 : List Cond := [Cond.instanceMethod yX4_linesAhead, Cond.selects RX4 yX4_linesAhead yX4_linesAhead, Cond.code yX4_linesAhead cX4_linesAhead 5 (some .int), Cond.fieldLink RX4 34 "BatteryCaches$State" "turn" "[I", Cond.static yX6_isLine, Cond.code yX6_isLine cX6_isLine 1 (some .boolean), Cond.methodLink RL 59 yL_bits, Cond.static yL_bits, Cond.initialized RL, Cond.code yL_bits cL_bits 3 (some .int), Cond.methodLink RL 42 yX6_battery, Cond.instanceMethod yX6_battery, Cond.selects RX6 yX6_battery yX6_battery, Cond.code yX6_battery cX6_battery 2 (some .int), Cond.fieldLink RX6 86 "BatteryCaches$State" "battery" "LBatteryCaches$Battery;", Cond.fieldLink RX6 138 "BatteryCaches$Battery" "charge" "I", Cond.fieldLink RX6 144 "BatteryCaches$Battery" "wear" "I", Cond.fieldLink RX6 89 "BatteryCaches$Battery" "cycle" "I", Cond.methodLink RX6 141 yX0_capacity, Cond.instanceMethod yX0_capacity, Cond.selects RX0 yX0_capacity yX0_capacity, Cond.code yX0_capacity cX0_capacity 1 (some .int), Cond.fieldLink RX0 15 "BatteryCaches$Battery" "wear" "I", Cond.methodLink RX6 147 yX0_allowance]
def wsL_isKept_r4 : List Cond := [Cond.instanceMethod yX0_allowance, Cond.selects RX0 yX0_allowance yX0_allowance, Cond.code yX0_allowance cX0_allowance 1 (some .int), Cond.fieldLink RX0 18 "BatteryCaches$Battery" "cycle" "I", Cond.methodLink RX0 33 yX0_savable, Cond.methodLink RX6 150 yX4_savedByCut, Cond.methodLink RL 24 yX6_count, Cond.instanceMethod yX6_count, Cond.selects RX6 yX6_count yX6_count, Cond.code yX6_count cX6_count 2 (some .int), Cond.fieldLink RX6 184 "BatteryCaches$State" "ticks" "I", Cond.fieldLink RX6 187 "BatteryCaches$State" "hits" "I", Cond.fieldLink RX6 190 "BatteryCaches$State" "misses" "I", Cond.fieldLink RX6 193 "BatteryCaches$State" "flushed" "I", Cond.fieldLink RX6 196 "BatteryCaches$State" "wentThrough" "I", Cond.fieldLink RX6 199 "BatteryCaches$State" "lost" "I", Cond.fieldLink RX6 202 "BatteryCaches$State" "cuts" "I", Cond.fieldLink RX6 205 "BatteryCaches$State" "cyclesEnded" "I", Cond.fieldLink RX6 208 "BatteryCaches$State" "laidInAll" "I", Cond.fieldLink RX6 19 "BatteryCaches" "history" "LBatteryCaches$History;", Cond.fieldLink RX6 211 "BatteryCaches$History" "size" "I", Cond.fieldLink RX6 26 "BatteryCaches" "text" "LBatteryCaches$Text;", Cond.fieldLink RX6 214 "BatteryCaches$Text" "length" "I", Cond.methodLink RX6 100 yX6_isSetting]
def wsL_isKept_r5 : List Cond := [Cond.static yX6_isSetting, Cond.code yX6_isSetting cX6_isSetting 1 (some .boolean), Cond.methodLink RX6 109 yX0_setting, Cond.instanceMethod yX0_setting, Cond.selects RX0 yX0_setting yX0_setting, Cond.code yX0_setting cX0_setting 2 (some .int), Cond.fieldLink RX0 27 "BatteryCaches$Battery" "rise" "I", Cond.fieldLink RX0 30 "BatteryCaches$Battery" "fall" "I", Cond.methodLink RL 30 yX6_lineOf, Cond.instanceMethod yX6_lineOf, Cond.selects RX6 yX6_lineOf yX6_lineOf, Cond.code yX6_lineOf cX6_lineOf 3 (some .int), Cond.fieldLink RX6 68 "BatteryCaches$State" "kind" "[I", Cond.constant RX6 116 (-1000004), Cond.fieldLink RX6 117 "BatteryCaches$State" "place" "[I", Cond.fieldLink RX6 120 "BatteryCaches$State" "value" "[I", Cond.fieldLink RX6 123 "BatteryCaches$State" "turn" "[I", Cond.methodLink RX6 65 yX6_isLine, Cond.methodLink RX6 57 yX6_isWithin, Cond.static yX6_isWithin, Cond.code yX6_isWithin cX6_isWithin 3 (some .boolean), Cond.methodLink RX6 126 yX4_linesAhead, Cond.methodLink RL 15 yX6_placeOf, Cond.instanceMethod yX6_placeOf]
def wsL_isKept_r6 : List Cond := [Cond.selects RX6 yX6_placeOf yX6_placeOf, Cond.code yX6_placeOf cX6_placeOf 4 (some .int), Cond.fieldLink RX6 132 "BatteryCaches$State" "disk" "[I", Cond.fieldLink RX6 135 "BatteryCaches$State" "laid" "[I", Cond.methodLink RX6 44 yX6_isPlace, Cond.static yX6_isPlace, Cond.code yX6_isPlace cX6_isPlace 1 (some .boolean), Cond.methodLink RX6 129 yX4_holderOf, Cond.instanceMethod yX4_holderOf, Cond.selects RX4 yX4_holderOf yX4_holderOf, Cond.code yX4_holderOf cX4_holderOf 3 (some .int), Cond.fieldLink RX4 28 "BatteryCaches$State" "place" "[I"]
def wsL_isKept : List Cond := .code yL_isKept cL_isKept 7 (some .boolean) :: ((wsL_isKept_r1 ++ (wsL_isKept_r2 ++ (wsL_isKept_r3 ++ (wsL_isKept_r4 ++ (wsL_isKept_r5 ++ wsL_isKept_r6))))) ++ wsX60 ++ wsX40 ++ wsX00 ++ wsX10 ++ wsX50)
theorem dL_cell_0 : decode cL_cell 0 = .ok (.iload_n 1, 1) := by decide +kernel
theorem dL_cell_1 : decode cL_cell 1 = .ok (.aload_n 0, 1) := by decide +kernel
theorem dL_cell_2 : decode cL_cell 2 = .ok (.arraylength, 1) := by decide +kernel
theorem dL_cell_3 : decode cL_cell 3 = .ok (.if_icmp .ge 9, 3) := by decide +kernel
theorem dL_cell_6 : decode cL_cell 6 = .ok (.aload_n 0, 1) := by decide +kernel
theorem dL_cell_7 : decode cL_cell 7 = .ok (.iload_n 1, 1) := by decide +kernel
theorem dL_cell_8 : decode cL_cell 8 = .ok (.iaload, 1) := by decide +kernel
theorem dL_cell_9 : decode cL_cell 9 = .ok (.goto 11, 3) := by decide +kernel
theorem dL_cell_12 : decode cL_cell 12 = .ok (.ldc 7, 2) := by decide +kernel
theorem dL_cell_14 : decode cL_cell 14 = .ok (.iload_n 1, 1) := by decide +kernel
theorem dL_cell_15 : decode cL_cell 15 = .ok (.sipush 929, 3) := by decide +kernel
theorem dL_cell_18 : decode cL_cell 18 = .ok (.iadd, 1) := by decide +kernel
theorem dL_cell_19 : decode cL_cell 19 = .ok (.imul, 1) := by decide +kernel
theorem dL_cell_20 : decode cL_cell 20 = .ok (.ireturn, 1) := by decide +kernel
theorem dL_up_0 : decode cL_up 0 = .ok (.iload_n 0, 1) := by decide +kernel
theorem dL_up_1 : decode cL_up 1 = .ok (.ldc 8, 2) := by decide +kernel
theorem dL_up_3 : decode cL_up 3 = .ok (.iand, 1) := by decide +kernel
theorem dL_up_4 : decode cL_up 4 = .ok (.iload_n 1, 1) := by decide +kernel
theorem dL_up_5 : decode cL_up 5 = .ok (.irem, 1) := by decide +kernel
theorem dL_up_6 : decode cL_up 6 = .ok (.ireturn, 1) := by decide +kernel
set_option maxRecDepth 20000 in
theorem ggL_isStep_L_up : GoodIn wsL_isStep wsL_up := goodIn_r _ [5, 6] (by decide +kernel) (by decide +kernel)
set_option maxRecDepth 20000 in
theorem gL_isStep_L_up : GoodIn wsL_isStep (va_wsS RL 9 yL_up wsL_up) := goodIn_app (goodIn_of _ (by decide +kernel)) ggL_isStep_L_up
set_option maxRecDepth 20000 in
theorem ggL_isStep_X6_placeOf : GoodIn wsL_isStep wsX6_placeOf := goodIn_r _ [11, 12, 13, 14, 15, 16, 17, 18, 19, 10, 20, 21, 22, 23, 24, 25, 26, 27, 28, 29, 30, 31, 32, 33, 301, 302, 303, 304, 305, 306, 307, 308, 309, 310, 311, 312, 313, 314, 315, 316, 317, 318, 319, 320, 321, 322] (by decide +kernel) (by decide +kernel)
set_option maxRecDepth 20000 in
theorem gL_isStep_X6_placeOf : GoodIn wsL_isStep (wsV RL 15 RX6 yX6_placeOf wsX6_placeOf) := goodIn_app (goodIn_of _ (by decide +kernel)) ggL_isStep_X6_placeOf
set_option maxRecDepth 20000 in
theorem ggL_isStep_X6_read : GoodIn wsL_isStep wsX6_read := goodIn_r _ [37, 12, 38, 13, 18, 19, 10, 20, 39, 40, 41, 42, 43, 44, 45, 46, 47, 48, 49, 22, 23, 50, 51, 27, 52, 53, 54, 55, 29, 30, 56, 57, 58, 59, 60, 61, 62, 63, 64, 65, 66, 67, 68, 69, 70, 71, 72, 73, 74, 75, 76, 77, 78, 79, 80, 81, 82, 83, 84, 85, 86, 87, 88, 89, 90, 91, 92, 93, 94, 95, 96, 97, 98, 25, 26, 28, 32, 33, 99, 100, 101, 102, 103, 104, 105, 106, 107, 108, 109, 110, 111, 112, 113, 114, 115, 116, 117, 118, 119, 120, 121, 122, 301, 302, 303, 304, 305, 323, 324, 306, 307, 308, 309, 310, 311, 312, 313, 314, 315, 316, 317, 318, 319, 320, 321, 322, 325, 326, 327, 328, 329, 330, 331] (by decide +kernel) (by decide +kernel)
set_option maxRecDepth 20000 in
theorem gL_isStep_X6_read : GoodIn wsL_isStep (wsV RL 20 RX6 yX6_read wsX6_read) := goodIn_app (goodIn_of _ (by decide +kernel)) ggL_isStep_X6_read
set_option maxRecDepth 20000 in
theorem ggL_isStep_X6_count : GoodIn wsL_isStep wsX6_count := goodIn_r _ [126, 13, 127, 128, 129, 130, 131, 132, 133, 134, 135, 38, 136, 137, 138, 139, 12, 140, 141, 10, 142, 143, 144, 145, 71, 146, 76, 77, 78, 79, 301, 302, 303, 304, 305, 306, 307, 308, 309, 310, 311, 312, 313, 314, 315, 316, 317, 318, 319, 320, 321, 322, 323, 324, 332, 333, 325, 326, 327, 328, 329, 330, 331] (by decide +kernel) (by decide +kernel)
set_option maxRecDepth 20000 in
theorem gL_isStep_X6_count : GoodIn wsL_isStep (wsV RL 24 RX6 yX6_count wsX6_count) := goodIn_app (goodIn_of _ (by decide +kernel)) ggL_isStep_X6_count
set_option maxRecDepth 20000 in
theorem ggL_isStep_X6_write : GoodIn wsL_isStep wsX6_write := goodIn_r _ [150, 12, 38, 13, 18, 19, 10, 20, 21, 22, 23, 39, 40, 41, 42, 43, 44, 45, 46, 47, 48, 49, 50, 51, 27, 52, 53, 54, 55, 29, 30, 56, 57, 58, 59, 60, 61, 62, 63, 64, 65, 66, 67, 68, 69, 70, 71, 72, 73, 74, 75, 76, 77, 78, 79, 80, 81, 82, 83, 84, 85, 86, 87, 88, 89, 151, 152, 153, 154, 94, 95, 96, 97, 98, 25, 26, 28, 32, 33, 99, 100, 101, 102, 103, 104, 105, 106, 107, 108, 109, 110, 111, 112, 113, 114, 115, 116, 117, 118, 119, 120, 121, 122, 155, 156, 157, 158, 159, 160, 161, 162, 163, 164, 165, 166, 167, 168, 169, 170, 171, 172, 173, 174, 175, 176, 177, 178, 301, 302, 303, 304, 305, 323, 324, 306, 307, 308, 309, 310, 311, 312, 313, 314, 315, 316, 317, 318, 319, 320, 321, 322, 325, 326, 327, 328, 329, 330, 331] (by decide +kernel) (by decide +kernel)
set_option maxRecDepth 20000 in
theorem gL_isStep_X6_write : GoodIn wsL_isStep (wsV RL 27 RX6 yX6_write wsX6_write) := goodIn_app (goodIn_of _ (by decide +kernel)) ggL_isStep_X6_write
set_option maxRecDepth 20000 in
theorem ggL_isStep_X6_lineOf : GoodIn wsL_isStep wsX6_lineOf := goodIn_r _ [182, 12, 13, 183, 16, 184, 15, 185, 31, 32, 10, 33, 21, 22, 23, 186, 187, 188, 27, 189, 29, 57, 301, 302, 303, 304, 305, 306, 307, 308, 309, 310, 311, 312, 313, 314, 315, 316, 317, 318, 319, 320, 321, 322] (by decide +kernel) (by decide +kernel)
set_option maxRecDepth 20000 in
theorem gL_isStep_X6_lineOf : GoodIn wsL_isStep (wsV RL 30 RX6 yX6_lineOf wsX6_lineOf) := goodIn_app (goodIn_of _ (by decide +kernel)) ggL_isStep_X6_lineOf
set_option maxRecDepth 20000 in
theorem ggL_isStep_X6_lines : GoodIn wsL_isStep wsX6_lines := goodIn_r _ [193, 13, 12, 194, 160, 161, 27, 162, 29, 195, 196, 197, 198, 199, 200, 201, 202, 53, 203, 83, 84, 85, 155, 156, 157, 158, 159, 163, 164, 165, 166, 167, 168, 169, 204, 175, 176, 71, 177, 73, 77, 76, 178, 205, 187, 188, 189, 57, 32, 10, 33, 301, 302, 303, 304, 305, 306, 307, 308, 309, 310, 311, 312, 313, 314, 315, 316, 317, 318, 319, 320, 321, 322, 325, 326, 327, 328, 329, 330, 331] (by decide +kernel) (by decide +kernel)
set_option maxRecDepth 20000 in
theorem gL_isStep_X6_lines : GoodIn wsL_isStep (wsV RL 33 RX6 yX6_lines wsX6_lines) := goodIn_app (goodIn_of _ (by decide +kernel)) ggL_isStep_X6_lines
set_option maxRecDepth 20000 in
theorem ggL_isStep_X6_tick : GoodIn wsL_isStep wsX6_tick := goodIn_r _ [209, 12, 38, 13, 21, 22, 10, 23, 39, 40, 41, 42, 43, 44, 45, 46, 47, 48, 49, 50, 51, 27, 52, 53, 54, 55, 29, 30, 56, 57, 58, 59, 60, 61, 62, 63, 64, 65, 66, 67, 68, 69, 70, 71, 72, 73, 74, 75, 76, 77, 78, 79, 80, 81, 82, 83, 84, 85, 86, 87, 88, 89, 210, 211, 212, 213, 214, 215, 216, 217, 178, 218, 219, 220, 221, 222, 223, 224, 225, 226, 227, 228, 229, 230, 231, 232, 233, 234, 235, 236, 237, 155, 156, 157, 158, 159, 160, 161, 162, 163, 164, 165, 166, 167, 168, 169, 170, 171, 172, 173, 174, 175, 176, 177, 238, 239, 240, 241, 107, 108, 109, 110, 111, 112, 113, 114, 32, 33, 115, 116, 117, 118, 19, 20, 301, 302, 303, 304, 305, 323, 324, 306, 307, 308, 309, 310, 311, 312, 313, 314, 315, 316, 317, 318, 319, 320, 321, 322, 325, 326, 327, 328, 329, 330, 331] (by decide +kernel) (by decide +kernel)
set_option maxRecDepth 20000 in
theorem gL_isStep_X6_tick : GoodIn wsL_isStep (wsV RL 36 RX6 yX6_tick wsX6_tick) := goodIn_app (goodIn_of _ (by decide +kernel)) ggL_isStep_X6_tick
set_option maxRecDepth 20000 in
theorem ggL_isStep_X6_wouldFlush : GoodIn wsL_isStep wsX6_wouldFlush := goodIn_r _ [245, 12, 246, 13, 139, 247, 227, 84, 228, 21, 22, 10, 23, 248, 69, 70, 71, 72, 73, 74, 75, 76, 77, 78, 79, 249, 223, 224, 225, 226, 250, 156, 157, 27, 158, 159, 160, 161, 162, 29, 163, 164, 165, 166, 167, 168, 169, 251, 171, 172, 173, 174, 175, 176, 177, 178, 83, 85, 301, 302, 303, 304, 305, 306, 307, 308, 309, 310, 311, 312, 313, 314, 315, 316, 317, 318, 319, 320, 321, 322, 325, 326, 327, 328, 329, 330, 331] (by decide +kernel) (by decide +kernel)
set_option maxRecDepth 20000 in
theorem gL_isStep_X6_wouldFlush : GoodIn wsL_isStep (wsV RL 39 RX6 yX6_wouldFlush wsX6_wouldFlush) := goodIn_app (goodIn_of _ (by decide +kernel)) ggL_isStep_X6_wouldFlush
set_option maxRecDepth 20000 in
theorem ggL_isStep_X6_battery : GoodIn wsL_isStep wsX6_battery := goodIn_r _ [255, 13, 139, 256, 257, 258, 12, 259, 230, 231, 71, 232, 74, 251, 171, 172, 173, 75, 174, 175, 176, 177, 73, 77, 76, 178, 83, 84, 85, 260, 200, 201, 27, 202, 53, 203, 155, 156, 157, 158, 159, 160, 161, 162, 29, 163, 164, 165, 166, 167, 168, 169, 204, 301, 302, 303, 304, 305, 306, 307, 308, 309, 310, 311, 312, 313, 314, 315, 316, 317, 318, 319, 320, 321, 322, 325, 326, 327, 328, 329, 330, 331] (by decide +kernel) (by decide +kernel)
set_option maxRecDepth 20000 in
theorem gL_isStep_X6_battery : GoodIn wsL_isStep (wsV RL 42 RX6 yX6_battery wsX6_battery) := goodIn_app (goodIn_of _ (by decide +kernel)) ggL_isStep_X6_battery
set_option maxRecDepth 20000 in
theorem ggL_isStep_X6_load : GoodIn wsL_isStep wsX6_load := goodIn_r _ [264, 12, 38, 13, 21, 22, 10, 23, 39, 40, 41, 42, 43, 44, 45, 46, 47, 48, 49, 50, 51, 27, 52, 53, 54, 55, 29, 30, 56, 57, 58, 59, 60, 61, 62, 63, 64, 65, 66, 67, 68, 69, 70, 71, 72, 73, 74, 75, 76, 77, 78, 79, 80, 81, 82, 83, 84, 85, 86, 87, 88, 89, 265, 266, 267, 268, 269, 223, 224, 225, 226, 227, 228, 233, 234, 235, 236, 237, 155, 156, 157, 158, 159, 160, 161, 162, 163, 164, 165, 166, 167, 168, 169, 170, 171, 172, 173, 174, 175, 176, 177, 178, 238, 239, 240, 241, 107, 108, 109, 110, 111, 112, 113, 114, 32, 33, 115, 116, 117, 118, 19, 20, 301, 302, 303, 304, 305, 323, 324, 306, 307, 308, 309, 310, 311, 312, 313, 314, 315, 316, 317, 318, 319, 320, 321, 322, 325, 326, 327, 328, 329, 330, 331] (by decide +kernel) (by decide +kernel)
set_option maxRecDepth 20000 in
theorem gL_isStep_X6_load : GoodIn wsL_isStep (wsV RL 45 RX6 yX6_load wsX6_load) := goodIn_app (goodIn_of _ (by decide +kernel)) ggL_isStep_X6_load
set_option maxRecDepth 20000 in
theorem ggL_isStep_X6_learn : GoodIn wsL_isStep wsX6_learn := goodIn_r _ [273, 13, 139, 258, 274, 38, 39, 40, 41, 42, 43, 44, 45, 46, 47, 48, 49, 22, 10, 23, 50, 51, 27, 52, 53, 54, 55, 29, 30, 56, 57, 58, 59, 60, 61, 62, 63, 64, 65, 66, 67, 68, 69, 70, 71, 72, 73, 74, 75, 76, 77, 78, 79, 80, 81, 82, 83, 84, 85, 86, 87, 88, 89, 275, 276, 277, 278, 279, 233, 234, 235, 236, 237, 227, 228, 155, 156, 157, 158, 159, 160, 161, 162, 163, 164, 165, 166, 167, 168, 169, 170, 171, 172, 173, 174, 175, 176, 177, 178, 238, 239, 240, 241, 107, 108, 109, 110, 111, 112, 113, 114, 32, 33, 115, 116, 117, 118, 19, 20, 301, 302, 303, 304, 305, 306, 307, 308, 309, 310, 311, 312, 313, 314, 315, 316, 317, 318, 319, 320, 321, 322, 325, 326, 327, 328, 329, 330, 331, 323, 324] (by decide +kernel) (by decide +kernel)
set_option maxRecDepth 20000 in
theorem gL_isStep_X6_learn : GoodIn wsL_isStep (wsV RL 49 RX6 yX6_learn wsX6_learn) := goodIn_app (goodIn_of _ (by decide +kernel)) ggL_isStep_X6_learn
set_option maxRecDepth 20000 in
theorem ggL_isStep_X6_cut : GoodIn wsL_isStep wsX6_cut := goodIn_r _ [283, 38, 13, 39, 40, 41, 42, 43, 44, 45, 46, 47, 48, 49, 22, 10, 23, 50, 51, 27, 52, 53, 54, 55, 29, 30, 56, 57, 58, 59, 60, 61, 62, 63, 64, 65, 66, 67, 68, 69, 70, 71, 72, 73, 74, 75, 76, 77, 78, 79, 80, 81, 82, 83, 84, 85, 86, 87, 88, 89, 284, 285, 286, 287, 199, 200, 201, 202, 203, 155, 156, 157, 158, 159, 160, 161, 162, 163, 164, 165, 166, 167, 168, 169, 204, 175, 176, 177, 178, 238, 239, 240, 241, 107, 108, 109, 110, 111, 112, 113, 114, 32, 33, 115, 116, 117, 118, 19, 20, 288, 289, 290, 291, 292, 293, 294, 295, 222, 223, 224, 225, 226, 227, 228, 301, 302, 303, 304, 305, 323, 324, 306, 307, 308, 309, 310, 311, 312, 313, 314, 315, 316, 317, 318, 319, 320, 321, 322, 325, 326, 327, 328, 329, 330, 331] (by decide +kernel) (by decide +kernel)
set_option maxRecDepth 20000 in
theorem gL_isStep_X6_cut : GoodIn wsL_isStep (wsV RL 53 RX6 yX6_cut wsX6_cut) := goodIn_app (goodIn_of _ (by decide +kernel)) ggL_isStep_X6_cut
set_option maxRecDepth 20000 in
theorem ggL_isStep_X6_flush : GoodIn wsL_isStep wsX6_flush := goodIn_r _ [299, 12, 13, 183, 274, 38, 31, 32, 10, 33, 39, 40, 41, 42, 43, 44, 45, 46, 47, 48, 49, 22, 23, 50, 51, 27, 52, 53, 54, 55, 29, 30, 56, 57, 58, 59, 60, 61, 62, 63, 64, 65, 66, 67, 68, 69, 70, 71, 72, 73, 74, 75, 76, 77, 78, 79, 80, 81, 82, 83, 84, 85, 86, 87, 88, 89, 300, 112, 113, 114, 115, 116, 117, 118, 19, 20, 250, 156, 157, 158, 159, 160, 161, 162, 163, 164, 165, 166, 167, 168, 169, 301, 302, 303, 304, 305, 306, 307, 308, 309, 310, 311, 312, 313, 314, 315, 316, 317, 318, 319, 320, 321, 322, 323, 324, 325, 326, 327, 328, 329, 330, 331] (by decide +kernel) (by decide +kernel)
set_option maxRecDepth 20000 in
theorem gL_isStep_X6_flush : GoodIn wsL_isStep (wsV RL 56 RX6 yX6_flush wsX6_flush) := goodIn_app (goodIn_of _ (by decide +kernel)) ggL_isStep_X6_flush
theorem dL_isStep_0 : decode cL_isStep 0 = .ok (.iload_n 2, 1) := by decide +kernel
theorem dL_isStep_1 : decode cL_isStep 1 = .ok (.iconst 4, 1) := by decide +kernel
theorem dL_isStep_2 : decode cL_isStep 2 = .ok (.ishr, 1) := by decide +kernel
theorem dL_isStep_3 : decode cL_isStep 3 = .ok (.istore_n 3, 1) := by decide +kernel
theorem dL_isStep_4 : decode cL_isStep 4 = .ok (.iload_n 3, 1) := by decide +kernel
theorem dL_isStep_5 : decode cL_isStep 5 = .ok (.iconst 4, 1) := by decide +kernel
theorem dL_isStep_6 : decode cL_isStep 6 = .ok (.invokestatic 9, 3) := by decide +kernel
theorem dL_isStep_9 : decode cL_isStep 9 = .ok (.ifCond .ne 14, 3) := by decide +kernel
theorem dL_isStep_12 : decode cL_isStep 12 = .ok (.iload_n 3, 1) := by decide +kernel
theorem dL_isStep_13 : decode cL_isStep 13 = .ok (.iconst 2, 1) := by decide +kernel
theorem dL_isStep_14 : decode cL_isStep 14 = .ok (.ishr, 1) := by decide +kernel
theorem dL_isStep_15 : decode cL_isStep 15 = .ok (.bipush 64, 2) := by decide +kernel
theorem dL_isStep_17 : decode cL_isStep 17 = .ok (.invokestatic 9, 3) := by decide +kernel
theorem dL_isStep_20 : decode cL_isStep 20 = .ok (.goto 11, 3) := by decide +kernel
theorem dL_isStep_23 : decode cL_isStep 23 = .ok (.iload_n 3, 1) := by decide +kernel
theorem dL_isStep_24 : decode cL_isStep 24 = .ok (.iconst 2, 1) := by decide +kernel
theorem dL_isStep_25 : decode cL_isStep 25 = .ok (.ishr, 1) := by decide +kernel
theorem dL_isStep_26 : decode cL_isStep 26 = .ok (.bipush 11, 2) := by decide +kernel
theorem dL_isStep_28 : decode cL_isStep 28 = .ok (.invokestatic 9, 3) := by decide +kernel
theorem dL_isStep_31 : decode cL_isStep 31 = .ok (.istore 4, 2) := by decide +kernel
theorem dL_isStep_33 : decode cL_isStep 33 = .ok (.iload_n 2, 1) := by decide +kernel
theorem dL_isStep_34 : decode cL_isStep 34 = .ok (.bipush 13, 2) := by decide +kernel
theorem dL_isStep_36 : decode cL_isStep 36 = .ok (.invokestatic 9, 3) := by decide +kernel
theorem dL_isStep_39 : decode cL_isStep 39 = .ok (.tableswitch 572 0 11 #[61, 61, 94, 94, 94, 94, 94, 287, 287, 347, 414, 504], 61) := by decide +kernel
theorem dL_isStep_100 : decode cL_isStep 100 = .ok (.aload_n 0, 1) := by decide +kernel
theorem dL_isStep_101 : decode cL_isStep 101 = .ok (.iload 4, 2) := by decide +kernel
theorem dL_isStep_103 : decode cL_isStep 103 = .ok (.iconst 1, 1) := by decide +kernel
theorem dL_isStep_104 : decode cL_isStep 104 = .ok (.invokevirtual 15, 3) := by decide +kernel
theorem dL_isStep_107 : decode cL_isStep 107 = .ok (.aload_n 1, 1) := by decide +kernel
theorem dL_isStep_108 : decode cL_isStep 108 = .ok (.iload 4, 2) := by decide +kernel
theorem dL_isStep_110 : decode cL_isStep 110 = .ok (.iaload, 1) := by decide +kernel
theorem dL_isStep_111 : decode cL_isStep 111 = .ok (.if_icmp .ne 20, 3) := by decide +kernel
theorem dL_isStep_114 : decode cL_isStep 114 = .ok (.aload_n 0, 1) := by decide +kernel
theorem dL_isStep_115 : decode cL_isStep 115 = .ok (.iload 4, 2) := by decide +kernel
theorem dL_isStep_117 : decode cL_isStep 117 = .ok (.invokevirtual 20, 3) := by decide +kernel
theorem dL_isStep_120 : decode cL_isStep 120 = .ok (.aload_n 1, 1) := by decide +kernel
theorem dL_isStep_121 : decode cL_isStep 121 = .ok (.iload 4, 2) := by decide +kernel
theorem dL_isStep_123 : decode cL_isStep 123 = .ok (.iaload, 1) := by decide +kernel
theorem dL_isStep_124 : decode cL_isStep 124 = .ok (.if_icmp .ne 7, 3) := by decide +kernel
theorem dL_isStep_127 : decode cL_isStep 127 = .ok (.iconst 1, 1) := by decide +kernel
theorem dL_isStep_128 : decode cL_isStep 128 = .ok (.goto 4, 3) := by decide +kernel
theorem dL_isStep_131 : decode cL_isStep 131 = .ok (.iconst 0, 1) := by decide +kernel
theorem dL_isStep_132 : decode cL_isStep 132 = .ok (.ireturn, 1) := by decide +kernel
theorem dL_isStep_133 : decode cL_isStep 133 = .ok (.aload_n 1, 1) := by decide +kernel
theorem dL_isStep_134 : decode cL_isStep 134 = .ok (.iload 4, 2) := by decide +kernel
theorem dL_isStep_136 : decode cL_isStep 136 = .ok (.iload_n 3, 1) := by decide +kernel
theorem dL_isStep_137 : decode cL_isStep 137 = .ok (.bipush 8, 2) := by decide +kernel
theorem dL_isStep_139 : decode cL_isStep 139 = .ok (.ishr, 1) := by decide +kernel
theorem dL_isStep_140 : decode cL_isStep 140 = .ok (.sipush 1000, 3) := by decide +kernel
theorem dL_isStep_143 : decode cL_isStep 143 = .ok (.invokestatic 9, 3) := by decide +kernel
theorem dL_isStep_146 : decode cL_isStep 146 = .ok (.iastore, 1) := by decide +kernel
theorem dL_isStep_147 : decode cL_isStep 147 = .ok (.aload_n 0, 1) := by decide +kernel
theorem dL_isStep_148 : decode cL_isStep 148 = .ok (.iconst 1, 1) := by decide +kernel
theorem dL_isStep_149 : decode cL_isStep 149 = .ok (.invokevirtual 24, 3) := by decide +kernel
theorem dL_isStep_152 : decode cL_isStep 152 = .ok (.istore 5, 2) := by decide +kernel
theorem dL_isStep_154 : decode cL_isStep 154 = .ok (.aload_n 0, 1) := by decide +kernel
theorem dL_isStep_155 : decode cL_isStep 155 = .ok (.iconst 2, 1) := by decide +kernel
theorem dL_isStep_156 : decode cL_isStep 156 = .ok (.invokevirtual 24, 3) := by decide +kernel
theorem dL_isStep_159 : decode cL_isStep 159 = .ok (.istore 6, 2) := by decide +kernel
theorem dL_isStep_161 : decode cL_isStep 161 = .ok (.aload_n 0, 1) := by decide +kernel
theorem dL_isStep_162 : decode cL_isStep 162 = .ok (.iload 4, 2) := by decide +kernel
theorem dL_isStep_164 : decode cL_isStep 164 = .ok (.iconst 2, 1) := by decide +kernel
theorem dL_isStep_165 : decode cL_isStep 165 = .ok (.invokevirtual 15, 3) := by decide +kernel
theorem dL_isStep_168 : decode cL_isStep 168 = .ok (.istore 7, 2) := by decide +kernel
theorem dL_isStep_170 : decode cL_isStep 170 = .ok (.aload_n 0, 1) := by decide +kernel
theorem dL_isStep_171 : decode cL_isStep 171 = .ok (.iload 4, 2) := by decide +kernel
theorem dL_isStep_173 : decode cL_isStep 173 = .ok (.aload_n 1, 1) := by decide +kernel
theorem dL_isStep_174 : decode cL_isStep 174 = .ok (.iload 4, 2) := by decide +kernel
theorem dL_isStep_176 : decode cL_isStep 176 = .ok (.iaload, 1) := by decide +kernel
theorem dL_isStep_177 : decode cL_isStep 177 = .ok (.invokevirtual 27, 3) := by decide +kernel
theorem dL_isStep_180 : decode cL_isStep 180 = .ok (.istore 8, 2) := by decide +kernel
theorem dL_isStep_182 : decode cL_isStep 182 = .ok (.aload_n 0, 1) := by decide +kernel
theorem dL_isStep_183 : decode cL_isStep 183 = .ok (.iload 4, 2) := by decide +kernel
theorem dL_isStep_185 : decode cL_isStep 185 = .ok (.iconst 2, 1) := by decide +kernel
theorem dL_isStep_186 : decode cL_isStep 186 = .ok (.invokevirtual 15, 3) := by decide +kernel
theorem dL_isStep_189 : decode cL_isStep 189 = .ok (.istore 9, 2) := by decide +kernel
theorem dL_isStep_191 : decode cL_isStep 191 = .ok (.iload 8, 2) := by decide +kernel
theorem dL_isStep_193 : decode cL_isStep 193 = .ok (.ifCond .eq 9, 3) := by decide +kernel
theorem dL_isStep_196 : decode cL_isStep 196 = .ok (.iload 8, 2) := by decide +kernel
theorem dL_isStep_198 : decode cL_isStep 198 = .ok (.iconst 1, 1) := by decide +kernel
theorem dL_isStep_199 : decode cL_isStep 199 = .ok (.if_icmp .ne 38, 3) := by decide +kernel
theorem dL_isStep_202 : decode cL_isStep 202 = .ok (.iload 9, 2) := by decide +kernel
theorem dL_isStep_204 : decode cL_isStep 204 = .ok (.ifCond .lt 33, 3) := by decide +kernel
theorem dL_isStep_207 : decode cL_isStep 207 = .ok (.aload_n 0, 1) := by decide +kernel
theorem dL_isStep_208 : decode cL_isStep 208 = .ok (.iload 9, 2) := by decide +kernel
theorem dL_isStep_210 : decode cL_isStep 210 = .ok (.iconst 0, 1) := by decide +kernel
theorem dL_isStep_211 : decode cL_isStep 211 = .ok (.invokevirtual 30, 3) := by decide +kernel
theorem dL_isStep_214 : decode cL_isStep 214 = .ok (.iconst 2, 1) := by decide +kernel
theorem dL_isStep_215 : decode cL_isStep 215 = .ok (.iload 8, 2) := by decide +kernel
theorem dL_isStep_217 : decode cL_isStep 217 = .ok (.isub, 1) := by decide +kernel
theorem dL_isStep_218 : decode cL_isStep 218 = .ok (.if_icmp .ne 19, 3) := by decide +kernel
theorem dL_isStep_221 : decode cL_isStep 221 = .ok (.iload 7, 2) := by decide +kernel
theorem dL_isStep_223 : decode cL_isStep 223 = .ok (.ifCond .lt 10, 3) := by decide +kernel
theorem dL_isStep_226 : decode cL_isStep 226 = .ok (.iload 9, 2) := by decide +kernel
theorem dL_isStep_228 : decode cL_isStep 228 = .ok (.iload 7, 2) := by decide +kernel
theorem dL_isStep_230 : decode cL_isStep 230 = .ok (.if_icmp .ne 7, 3) := by decide +kernel
theorem dL_isStep_233 : decode cL_isStep 233 = .ok (.iconst 1, 1) := by decide +kernel
theorem dL_isStep_234 : decode cL_isStep 234 = .ok (.goto 4, 3) := by decide +kernel
theorem dL_isStep_237 : decode cL_isStep 237 = .ok (.iconst 0, 1) := by decide +kernel
theorem dL_isStep_238 : decode cL_isStep 238 = .ok (.istore 10, 2) := by decide +kernel
theorem dL_isStep_240 : decode cL_isStep 240 = .ok (.iload 10, 2) := by decide +kernel
theorem dL_isStep_242 : decode cL_isStep 242 = .ok (.ifCond .eq 82, 3) := by decide +kernel
theorem dL_isStep_245 : decode cL_isStep 245 = .ok (.aload_n 0, 1) := by decide +kernel
theorem dL_isStep_246 : decode cL_isStep 246 = .ok (.iconst 1, 1) := by decide +kernel
theorem dL_isStep_247 : decode cL_isStep 247 = .ok (.invokevirtual 24, 3) := by decide +kernel
theorem dL_isStep_250 : decode cL_isStep 250 = .ok (.iload 5, 2) := by decide +kernel
theorem dL_isStep_252 : decode cL_isStep 252 = .ok (.iload 7, 2) := by decide +kernel
theorem dL_isStep_254 : decode cL_isStep 254 = .ok (.ifCond .ge 7, 3) := by decide +kernel
theorem dL_isStep_257 : decode cL_isStep 257 = .ok (.iconst 0, 1) := by decide +kernel
theorem dL_isStep_258 : decode cL_isStep 258 = .ok (.goto 4, 3) := by decide +kernel
theorem dL_isStep_261 : decode cL_isStep 261 = .ok (.iconst 1, 1) := by decide +kernel
theorem dL_isStep_262 : decode cL_isStep 262 = .ok (.iadd, 1) := by decide +kernel
theorem dL_isStep_263 : decode cL_isStep 263 = .ok (.if_icmp .ne 61, 3) := by decide +kernel
theorem dL_isStep_266 : decode cL_isStep 266 = .ok (.aload_n 0, 1) := by decide +kernel
theorem dL_isStep_267 : decode cL_isStep 267 = .ok (.iconst 2, 1) := by decide +kernel
theorem dL_isStep_268 : decode cL_isStep 268 = .ok (.invokevirtual 24, 3) := by decide +kernel
theorem dL_isStep_271 : decode cL_isStep 271 = .ok (.iload 6, 2) := by decide +kernel
theorem dL_isStep_273 : decode cL_isStep 273 = .ok (.iload 7, 2) := by decide +kernel
theorem dL_isStep_275 : decode cL_isStep 275 = .ok (.ifCond .ge 7, 3) := by decide +kernel
theorem dL_isStep_278 : decode cL_isStep 278 = .ok (.iconst 1, 1) := by decide +kernel
theorem dL_isStep_279 : decode cL_isStep 279 = .ok (.goto 4, 3) := by decide +kernel
theorem dL_isStep_282 : decode cL_isStep 282 = .ok (.iconst 0, 1) := by decide +kernel
theorem dL_isStep_283 : decode cL_isStep 283 = .ok (.iadd, 1) := by decide +kernel
theorem dL_isStep_284 : decode cL_isStep 284 = .ok (.if_icmp .ne 40, 3) := by decide +kernel
theorem dL_isStep_287 : decode cL_isStep 287 = .ok (.aload_n 0, 1) := by decide +kernel
theorem dL_isStep_288 : decode cL_isStep 288 = .ok (.iload 9, 2) := by decide +kernel
theorem dL_isStep_290 : decode cL_isStep 290 = .ok (.iconst 2, 1) := by decide +kernel
theorem dL_isStep_291 : decode cL_isStep 291 = .ok (.invokevirtual 30, 3) := by decide +kernel
theorem dL_isStep_294 : decode cL_isStep 294 = .ok (.aload_n 1, 1) := by decide +kernel
theorem dL_isStep_295 : decode cL_isStep 295 = .ok (.iload 4, 2) := by decide +kernel
theorem dL_isStep_297 : decode cL_isStep 297 = .ok (.iaload, 1) := by decide +kernel
theorem dL_isStep_298 : decode cL_isStep 298 = .ok (.if_icmp .ne 26, 3) := by decide +kernel
theorem dL_isStep_301 : decode cL_isStep 301 = .ok (.iload 8, 2) := by decide +kernel
theorem dL_isStep_303 : decode cL_isStep 303 = .ok (.ifCond .eq 17, 3) := by decide +kernel
theorem dL_isStep_306 : decode cL_isStep 306 = .ok (.aload_n 0, 1) := by decide +kernel
theorem dL_isStep_307 : decode cL_isStep 307 = .ok (.iload 4, 2) := by decide +kernel
theorem dL_isStep_309 : decode cL_isStep 309 = .ok (.iconst 0, 1) := by decide +kernel
theorem dL_isStep_310 : decode cL_isStep 310 = .ok (.invokevirtual 15, 3) := by decide +kernel
theorem dL_isStep_313 : decode cL_isStep 313 = .ok (.aload_n 1, 1) := by decide +kernel
theorem dL_isStep_314 : decode cL_isStep 314 = .ok (.iload 4, 2) := by decide +kernel
theorem dL_isStep_316 : decode cL_isStep 316 = .ok (.iaload, 1) := by decide +kernel
theorem dL_isStep_317 : decode cL_isStep 317 = .ok (.if_icmp .ne 7, 3) := by decide +kernel
theorem dL_isStep_320 : decode cL_isStep 320 = .ok (.iconst 1, 1) := by decide +kernel
theorem dL_isStep_321 : decode cL_isStep 321 = .ok (.goto 4, 3) := by decide +kernel
theorem dL_isStep_324 : decode cL_isStep 324 = .ok (.iconst 0, 1) := by decide +kernel
theorem dL_isStep_325 : decode cL_isStep 325 = .ok (.ireturn, 1) := by decide +kernel
theorem dL_isStep_326 : decode cL_isStep 326 = .ok (.aload_n 0, 1) := by decide +kernel
theorem dL_isStep_327 : decode cL_isStep 327 = .ok (.iconst 2, 1) := by decide +kernel
theorem dL_isStep_328 : decode cL_isStep 328 = .ok (.invokevirtual 33, 3) := by decide +kernel
theorem dL_isStep_331 : decode cL_isStep 331 = .ok (.istore 5, 2) := by decide +kernel
theorem dL_isStep_333 : decode cL_isStep 333 = .ok (.aload_n 0, 1) := by decide +kernel
theorem dL_isStep_334 : decode cL_isStep 334 = .ok (.iconst 3, 1) := by decide +kernel
theorem dL_isStep_335 : decode cL_isStep 335 = .ok (.invokevirtual 24, 3) := by decide +kernel
theorem dL_isStep_338 : decode cL_isStep 338 = .ok (.istore 6, 2) := by decide +kernel
theorem dL_isStep_340 : decode cL_isStep 340 = .ok (.aload_n 0, 1) := by decide +kernel
theorem dL_isStep_341 : decode cL_isStep 341 = .ok (.iconst 1, 1) := by decide +kernel
theorem dL_isStep_342 : decode cL_isStep 342 = .ok (.iload_n 3, 1) := by decide +kernel
theorem dL_isStep_343 : decode cL_isStep 343 = .ok (.bipush 30, 2) := by decide +kernel
theorem dL_isStep_345 : decode cL_isStep 345 = .ok (.invokestatic 9, 3) := by decide +kernel
theorem dL_isStep_348 : decode cL_isStep 348 = .ok (.iadd, 1) := by decide +kernel
theorem dL_isStep_349 : decode cL_isStep 349 = .ok (.invokevirtual 36, 3) := by decide +kernel
theorem dL_isStep_352 : decode cL_isStep 352 = .ok (.istore 7, 2) := by decide +kernel
theorem dL_isStep_354 : decode cL_isStep 354 = .ok (.aload_n 0, 1) := by decide +kernel
theorem dL_isStep_355 : decode cL_isStep 355 = .ok (.iconst 3, 1) := by decide +kernel
theorem dL_isStep_356 : decode cL_isStep 356 = .ok (.invokevirtual 24, 3) := by decide +kernel
theorem dL_isStep_359 : decode cL_isStep 359 = .ok (.iload 6, 2) := by decide +kernel
theorem dL_isStep_361 : decode cL_isStep 361 = .ok (.iload 7, 2) := by decide +kernel
theorem dL_isStep_363 : decode cL_isStep 363 = .ok (.iadd, 1) := by decide +kernel
theorem dL_isStep_364 : decode cL_isStep 364 = .ok (.if_icmp .ne 20, 3) := by decide +kernel
theorem dL_isStep_367 : decode cL_isStep 367 = .ok (.aload_n 0, 1) := by decide +kernel
theorem dL_isStep_368 : decode cL_isStep 368 = .ok (.iconst 2, 1) := by decide +kernel
theorem dL_isStep_369 : decode cL_isStep 369 = .ok (.invokevirtual 33, 3) := by decide +kernel
theorem dL_isStep_372 : decode cL_isStep 372 = .ok (.iload 5, 2) := by decide +kernel
theorem dL_isStep_374 : decode cL_isStep 374 = .ok (.iconst (-1), 1) := by decide +kernel
theorem dL_isStep_375 : decode cL_isStep 375 = .ok (.ixor, 1) := by decide +kernel
theorem dL_isStep_376 : decode cL_isStep 376 = .ok (.iand, 1) := by decide +kernel
theorem dL_isStep_377 : decode cL_isStep 377 = .ok (.ifCond .ne 7, 3) := by decide +kernel
theorem dL_isStep_380 : decode cL_isStep 380 = .ok (.iconst 1, 1) := by decide +kernel
theorem dL_isStep_381 : decode cL_isStep 381 = .ok (.goto 4, 3) := by decide +kernel
theorem dL_isStep_384 : decode cL_isStep 384 = .ok (.iconst 0, 1) := by decide +kernel
theorem dL_isStep_385 : decode cL_isStep 385 = .ok (.ireturn, 1) := by decide +kernel
theorem dL_isStep_386 : decode cL_isStep 386 = .ok (.iconst 1, 1) := by decide +kernel
theorem dL_isStep_387 : decode cL_isStep 387 = .ok (.iload_n 3, 1) := by decide +kernel
theorem dL_isStep_388 : decode cL_isStep 388 = .ok (.sipush 600, 3) := by decide +kernel
theorem dL_isStep_391 : decode cL_isStep 391 = .ok (.invokestatic 9, 3) := by decide +kernel
theorem dL_isStep_394 : decode cL_isStep 394 = .ok (.iadd, 1) := by decide +kernel
theorem dL_isStep_395 : decode cL_isStep 395 = .ok (.istore 5, 2) := by decide +kernel
theorem dL_isStep_397 : decode cL_isStep 397 = .ok (.aload_n 0, 1) := by decide +kernel
theorem dL_isStep_398 : decode cL_isStep 398 = .ok (.iload 5, 2) := by decide +kernel
theorem dL_isStep_400 : decode cL_isStep 400 = .ok (.invokevirtual 39, 3) := by decide +kernel
theorem dL_isStep_403 : decode cL_isStep 403 = .ok (.istore 6, 2) := by decide +kernel
theorem dL_isStep_405 : decode cL_isStep 405 = .ok (.aload_n 0, 1) := by decide +kernel
theorem dL_isStep_406 : decode cL_isStep 406 = .ok (.iconst 0, 1) := by decide +kernel
theorem dL_isStep_407 : decode cL_isStep 407 = .ok (.invokevirtual 42, 3) := by decide +kernel
theorem dL_isStep_410 : decode cL_isStep 410 = .ok (.istore 7, 2) := by decide +kernel
theorem dL_isStep_412 : decode cL_isStep 412 = .ok (.aload_n 0, 1) := by decide +kernel
theorem dL_isStep_413 : decode cL_isStep 413 = .ok (.iload 5, 2) := by decide +kernel
theorem dL_isStep_415 : decode cL_isStep 415 = .ok (.invokevirtual 45, 3) := by decide +kernel
theorem dL_isStep_418 : decode cL_isStep 418 = .ok (.iload 6, 2) := by decide +kernel
theorem dL_isStep_420 : decode cL_isStep 420 = .ok (.if_icmp .ne 31, 3) := by decide +kernel
theorem dL_isStep_423 : decode cL_isStep 423 = .ok (.aload_n 0, 1) := by decide +kernel
theorem dL_isStep_424 : decode cL_isStep 424 = .ok (.iconst 0, 1) := by decide +kernel
theorem dL_isStep_425 : decode cL_isStep 425 = .ok (.invokevirtual 42, 3) := by decide +kernel
theorem dL_isStep_428 : decode cL_isStep 428 = .ok (.iload 7, 2) := by decide +kernel
theorem dL_isStep_430 : decode cL_isStep 430 = .ok (.iload 5, 2) := by decide +kernel
theorem dL_isStep_432 : decode cL_isStep 432 = .ok (.if_icmp .le 11, 3) := by decide +kernel
theorem dL_isStep_435 : decode cL_isStep 435 = .ok (.iload 7, 2) := by decide +kernel
theorem dL_isStep_437 : decode cL_isStep 437 = .ok (.iload 5, 2) := by decide +kernel
theorem dL_isStep_439 : decode cL_isStep 439 = .ok (.isub, 1) := by decide +kernel
theorem dL_isStep_440 : decode cL_isStep 440 = .ok (.goto 4, 3) := by decide +kernel
theorem dL_isStep_443 : decode cL_isStep 443 = .ok (.iconst 0, 1) := by decide +kernel
theorem dL_isStep_444 : decode cL_isStep 444 = .ok (.if_icmp .ne 7, 3) := by decide +kernel
theorem dL_isStep_447 : decode cL_isStep 447 = .ok (.iconst 1, 1) := by decide +kernel
theorem dL_isStep_448 : decode cL_isStep 448 = .ok (.goto 4, 3) := by decide +kernel
theorem dL_isStep_451 : decode cL_isStep 451 = .ok (.iconst 0, 1) := by decide +kernel
theorem dL_isStep_452 : decode cL_isStep 452 = .ok (.ireturn, 1) := by decide +kernel
theorem dL_isStep_453 : decode cL_isStep 453 = .ok (.aload_n 0, 1) := by decide +kernel
theorem dL_isStep_454 : decode cL_isStep 454 = .ok (.iconst 4, 1) := by decide +kernel
theorem dL_isStep_455 : decode cL_isStep 455 = .ok (.invokevirtual 42, 3) := by decide +kernel
theorem dL_isStep_458 : decode cL_isStep 458 = .ok (.ifCond .le 7, 3) := by decide +kernel
theorem dL_isStep_461 : decode cL_isStep 461 = .ok (.iconst 1, 1) := by decide +kernel
theorem dL_isStep_462 : decode cL_isStep 462 = .ok (.goto 4, 3) := by decide +kernel
theorem dL_isStep_465 : decode cL_isStep 465 = .ok (.iconst 0, 1) := by decide +kernel
theorem dL_isStep_466 : decode cL_isStep 466 = .ok (.istore 5, 2) := by decide +kernel
theorem dL_isStep_468 : decode cL_isStep 468 = .ok (.iload_n 3, 1) := by decide +kernel
theorem dL_isStep_469 : decode cL_isStep 469 = .ok (.iconst 3, 1) := by decide +kernel
theorem dL_isStep_470 : decode cL_isStep 470 = .ok (.invokestatic 9, 3) := by decide +kernel
theorem dL_isStep_473 : decode cL_isStep 473 = .ok (.ifCond .le 8, 3) := by decide +kernel
theorem dL_isStep_476 : decode cL_isStep 476 = .ok (.ldc 48, 2) := by decide +kernel
theorem dL_isStep_478 : decode cL_isStep 478 = .ok (.goto 7, 3) := by decide +kernel
theorem dL_isStep_481 : decode cL_isStep 481 = .ok (.aload_n 0, 1) := by decide +kernel
theorem dL_isStep_482 : decode cL_isStep 482 = .ok (.invokevirtual 49, 3) := by decide +kernel
theorem dL_isStep_485 : decode cL_isStep 485 = .ok (.istore 6, 2) := by decide +kernel
theorem dL_isStep_487 : decode cL_isStep 487 = .ok (.iload 6, 2) := by decide +kernel
theorem dL_isStep_489 : decode cL_isStep 489 = .ok (.ldc 48, 2) := by decide +kernel
theorem dL_isStep_491 : decode cL_isStep 491 = .ok (.if_icmp .ne 24, 3) := by decide +kernel
theorem dL_isStep_494 : decode cL_isStep 494 = .ok (.iload 5, 2) := by decide +kernel
theorem dL_isStep_496 : decode cL_isStep 496 = .ok (.ifCond .ne 11, 3) := by decide +kernel
theorem dL_isStep_499 : decode cL_isStep 499 = .ok (.iload_n 3, 1) := by decide +kernel
theorem dL_isStep_500 : decode cL_isStep 500 = .ok (.iconst 3, 1) := by decide +kernel
theorem dL_isStep_501 : decode cL_isStep 501 = .ok (.invokestatic 9, 3) := by decide +kernel
theorem dL_isStep_504 : decode cL_isStep 504 = .ok (.ifCond .le 7, 3) := by decide +kernel
theorem dL_isStep_507 : decode cL_isStep 507 = .ok (.iconst 1, 1) := by decide +kernel
theorem dL_isStep_508 : decode cL_isStep 508 = .ok (.goto 34, 3) := by decide +kernel
theorem dL_isStep_511 : decode cL_isStep 511 = .ok (.iconst 0, 1) := by decide +kernel
theorem dL_isStep_512 : decode cL_isStep 512 = .ok (.goto 30, 3) := by decide +kernel
theorem dL_isStep_515 : decode cL_isStep 515 = .ok (.iload 5, 2) := by decide +kernel
theorem dL_isStep_517 : decode cL_isStep 517 = .ok (.ifCond .ne 24, 3) := by decide +kernel
theorem dL_isStep_520 : decode cL_isStep 520 = .ok (.aload_n 0, 1) := by decide +kernel
theorem dL_isStep_521 : decode cL_isStep 521 = .ok (.iconst 2, 1) := by decide +kernel
theorem dL_isStep_522 : decode cL_isStep 522 = .ok (.invokevirtual 33, 3) := by decide +kernel
theorem dL_isStep_525 : decode cL_isStep 525 = .ok (.ifCond .ne 16, 3) := by decide +kernel
theorem dL_isStep_528 : decode cL_isStep 528 = .ok (.aload_n 0, 1) := by decide +kernel
theorem dL_isStep_529 : decode cL_isStep 529 = .ok (.iconst 4, 1) := by decide +kernel
theorem dL_isStep_530 : decode cL_isStep 530 = .ok (.invokevirtual 42, 3) := by decide +kernel
theorem dL_isStep_533 : decode cL_isStep 533 = .ok (.iconst 1, 1) := by decide +kernel
theorem dL_isStep_534 : decode cL_isStep 534 = .ok (.if_icmp .ne 7, 3) := by decide +kernel
theorem dL_isStep_537 : decode cL_isStep 537 = .ok (.iconst 1, 1) := by decide +kernel
theorem dL_isStep_538 : decode cL_isStep 538 = .ok (.goto 4, 3) := by decide +kernel
theorem dL_isStep_541 : decode cL_isStep 541 = .ok (.iconst 0, 1) := by decide +kernel
theorem dL_isStep_542 : decode cL_isStep 542 = .ok (.ireturn, 1) := by decide +kernel
theorem dL_isStep_543 : decode cL_isStep 543 = .ok (.iload_n 3, 1) := by decide +kernel
theorem dL_isStep_544 : decode cL_isStep 544 = .ok (.iconst 3, 1) := by decide +kernel
theorem dL_isStep_545 : decode cL_isStep 545 = .ok (.invokestatic 9, 3) := by decide +kernel
theorem dL_isStep_548 : decode cL_isStep 548 = .ok (.ifCond .le 17, 3) := by decide +kernel
theorem dL_isStep_551 : decode cL_isStep 551 = .ok (.aload_n 0, 1) := by decide +kernel
theorem dL_isStep_552 : decode cL_isStep 552 = .ok (.iconst 3, 1) := by decide +kernel
theorem dL_isStep_553 : decode cL_isStep 553 = .ok (.invokevirtual 33, 3) := by decide +kernel
theorem dL_isStep_556 : decode cL_isStep 556 = .ok (.ifCond .ne 7, 3) := by decide +kernel
theorem dL_isStep_559 : decode cL_isStep 559 = .ok (.iconst 1, 1) := by decide +kernel
theorem dL_isStep_560 : decode cL_isStep 560 = .ok (.goto 4, 3) := by decide +kernel
theorem dL_isStep_563 : decode cL_isStep 563 = .ok (.iconst 0, 1) := by decide +kernel
theorem dL_isStep_564 : decode cL_isStep 564 = .ok (.ireturn, 1) := by decide +kernel
theorem dL_isStep_565 : decode cL_isStep 565 = .ok (.aload_n 0, 1) := by decide +kernel
theorem dL_isStep_566 : decode cL_isStep 566 = .ok (.invokevirtual 53, 3) := by decide +kernel
theorem dL_isStep_569 : decode cL_isStep 569 = .ok (.ifCond .ne 40, 3) := by decide +kernel
theorem dL_isStep_572 : decode cL_isStep 572 = .ok (.aload_n 0, 1) := by decide +kernel
theorem dL_isStep_573 : decode cL_isStep 573 = .ok (.iconst 0, 1) := by decide +kernel
theorem dL_isStep_574 : decode cL_isStep 574 = .ok (.invokevirtual 33, 3) := by decide +kernel
theorem dL_isStep_577 : decode cL_isStep 577 = .ok (.sipush 255, 3) := by decide +kernel
theorem dL_isStep_580 : decode cL_isStep 580 = .ok (.if_icmp .ne 29, 3) := by decide +kernel
theorem dL_isStep_583 : decode cL_isStep 583 = .ok (.aload_n 0, 1) := by decide +kernel
theorem dL_isStep_584 : decode cL_isStep 584 = .ok (.iconst 4, 1) := by decide +kernel
theorem dL_isStep_585 : decode cL_isStep 585 = .ok (.invokevirtual 42, 3) := by decide +kernel
theorem dL_isStep_588 : decode cL_isStep 588 = .ok (.ifCond .ne 21, 3) := by decide +kernel
theorem dL_isStep_591 : decode cL_isStep 591 = .ok (.aload_n 0, 1) := by decide +kernel
theorem dL_isStep_592 : decode cL_isStep 592 = .ok (.iload 4, 2) := by decide +kernel
theorem dL_isStep_594 : decode cL_isStep 594 = .ok (.iconst 0, 1) := by decide +kernel
theorem dL_isStep_595 : decode cL_isStep 595 = .ok (.invokevirtual 15, 3) := by decide +kernel
theorem dL_isStep_598 : decode cL_isStep 598 = .ok (.aload_n 1, 1) := by decide +kernel
theorem dL_isStep_599 : decode cL_isStep 599 = .ok (.iload 4, 2) := by decide +kernel
theorem dL_isStep_601 : decode cL_isStep 601 = .ok (.iaload, 1) := by decide +kernel
theorem dL_isStep_602 : decode cL_isStep 602 = .ok (.if_icmp .ne 7, 3) := by decide +kernel
theorem dL_isStep_605 : decode cL_isStep 605 = .ok (.iconst 1, 1) := by decide +kernel
theorem dL_isStep_606 : decode cL_isStep 606 = .ok (.goto 4, 3) := by decide +kernel
theorem dL_isStep_609 : decode cL_isStep 609 = .ok (.iconst 0, 1) := by decide +kernel
theorem dL_isStep_610 : decode cL_isStep 610 = .ok (.ireturn, 1) := by decide +kernel
theorem dL_isStep_611 : decode cL_isStep 611 = .ok (.iload_n 3, 1) := by decide +kernel
theorem dL_isStep_612 : decode cL_isStep 612 = .ok (.bipush 8, 2) := by decide +kernel
theorem dL_isStep_614 : decode cL_isStep 614 = .ok (.invokestatic 9, 3) := by decide +kernel
theorem dL_isStep_617 : decode cL_isStep 617 = .ok (.istore 5, 2) := by decide +kernel
theorem dL_isStep_619 : decode cL_isStep 619 = .ok (.aload_n 0, 1) := by decide +kernel
theorem dL_isStep_620 : decode cL_isStep 620 = .ok (.iconst 2, 1) := by decide +kernel
theorem dL_isStep_621 : decode cL_isStep 621 = .ok (.invokevirtual 33, 3) := by decide +kernel
theorem dL_isStep_624 : decode cL_isStep 624 = .ok (.istore 6, 2) := by decide +kernel
theorem dL_isStep_626 : decode cL_isStep 626 = .ok (.aload_n 0, 1) := by decide +kernel
theorem dL_isStep_627 : decode cL_isStep 627 = .ok (.iload 5, 2) := by decide +kernel
theorem dL_isStep_629 : decode cL_isStep 629 = .ok (.invokevirtual 56, 3) := by decide +kernel
theorem dL_isStep_632 : decode cL_isStep 632 = .ok (.istore 7, 2) := by decide +kernel
theorem dL_isStep_634 : decode cL_isStep 634 = .ok (.iload 6, 2) := by decide +kernel
theorem dL_isStep_636 : decode cL_isStep 636 = .ok (.iload 5, 2) := by decide +kernel
theorem dL_isStep_638 : decode cL_isStep 638 = .ok (.ishr, 1) := by decide +kernel
theorem dL_isStep_639 : decode cL_isStep 639 = .ok (.iconst 1, 1) := by decide +kernel
theorem dL_isStep_640 : decode cL_isStep 640 = .ok (.iand, 1) := by decide +kernel
theorem dL_isStep_641 : decode cL_isStep 641 = .ok (.ifCond .ne 18, 3) := by decide +kernel
theorem dL_isStep_644 : decode cL_isStep 644 = .ok (.iload 7, 2) := by decide +kernel
theorem dL_isStep_646 : decode cL_isStep 646 = .ok (.ldc 48, 2) := by decide +kernel
theorem dL_isStep_648 : decode cL_isStep 648 = .ok (.if_icmp .ne 7, 3) := by decide +kernel
theorem dL_isStep_651 : decode cL_isStep 651 = .ok (.iconst 1, 1) := by decide +kernel
theorem dL_isStep_652 : decode cL_isStep 652 = .ok (.goto 29, 3) := by decide +kernel
theorem dL_isStep_655 : decode cL_isStep 655 = .ok (.iconst 0, 1) := by decide +kernel
theorem dL_isStep_656 : decode cL_isStep 656 = .ok (.goto 25, 3) := by decide +kernel
theorem dL_isStep_659 : decode cL_isStep 659 = .ok (.aload_n 0, 1) := by decide +kernel
theorem dL_isStep_660 : decode cL_isStep 660 = .ok (.iconst 2, 1) := by decide +kernel
theorem dL_isStep_661 : decode cL_isStep 661 = .ok (.invokevirtual 33, 3) := by decide +kernel
theorem dL_isStep_664 : decode cL_isStep 664 = .ok (.iload 6, 2) := by decide +kernel
theorem dL_isStep_666 : decode cL_isStep 666 = .ok (.iconst 1, 1) := by decide +kernel
theorem dL_isStep_667 : decode cL_isStep 667 = .ok (.iload 5, 2) := by decide +kernel
theorem dL_isStep_669 : decode cL_isStep 669 = .ok (.ishl, 1) := by decide +kernel
theorem dL_isStep_670 : decode cL_isStep 670 = .ok (.iconst (-1), 1) := by decide +kernel
theorem dL_isStep_671 : decode cL_isStep 671 = .ok (.ixor, 1) := by decide +kernel
theorem dL_isStep_672 : decode cL_isStep 672 = .ok (.iand, 1) := by decide +kernel
theorem dL_isStep_673 : decode cL_isStep 673 = .ok (.if_icmp .ne 7, 3) := by decide +kernel
theorem dL_isStep_676 : decode cL_isStep 676 = .ok (.iconst 1, 1) := by decide +kernel
theorem dL_isStep_677 : decode cL_isStep 677 = .ok (.goto 4, 3) := by decide +kernel
theorem dL_isStep_680 : decode cL_isStep 680 = .ok (.iconst 0, 1) := by decide +kernel
theorem dL_isStep_681 : decode cL_isStep 681 = .ok (.ireturn, 1) := by decide +kernel
theorem dL_bits_0 : decode cL_bits 0 = .ok (.iconst 0, 1) := by decide +kernel
theorem dL_bits_1 : decode cL_bits 1 = .ok (.istore_n 1, 1) := by decide +kernel
theorem dL_bits_2 : decode cL_bits 2 = .ok (.iconst 0, 1) := by decide +kernel
theorem dL_bits_3 : decode cL_bits 3 = .ok (.istore_n 2, 1) := by decide +kernel
theorem dL_bits_4 : decode cL_bits 4 = .ok (.iload_n 2, 1) := by decide +kernel
theorem dL_bits_5 : decode cL_bits 5 = .ok (.bipush 8, 2) := by decide +kernel
theorem dL_bits_7 : decode cL_bits 7 = .ok (.if_icmp .ge 17, 3) := by decide +kernel
theorem dL_bits_10 : decode cL_bits 10 = .ok (.iload_n 1, 1) := by decide +kernel
theorem dL_bits_11 : decode cL_bits 11 = .ok (.iload_n 0, 1) := by decide +kernel
theorem dL_bits_12 : decode cL_bits 12 = .ok (.iload_n 2, 1) := by decide +kernel
theorem dL_bits_13 : decode cL_bits 13 = .ok (.ishr, 1) := by decide +kernel
theorem dL_bits_14 : decode cL_bits 14 = .ok (.iconst 1, 1) := by decide +kernel
theorem dL_bits_15 : decode cL_bits 15 = .ok (.iand, 1) := by decide +kernel
theorem dL_bits_16 : decode cL_bits 16 = .ok (.iadd, 1) := by decide +kernel
theorem dL_bits_17 : decode cL_bits 17 = .ok (.istore_n 1, 1) := by decide +kernel
theorem dL_bits_18 : decode cL_bits 18 = .ok (.iinc 2 1, 3) := by decide +kernel
theorem dL_bits_21 : decode cL_bits 21 = .ok (.goto (-17), 3) := by decide +kernel
theorem dL_bits_24 : decode cL_bits 24 = .ok (.iload_n 1, 1) := by decide +kernel
theorem dL_bits_25 : decode cL_bits 25 = .ok (.ireturn, 1) := by decide +kernel
set_option maxRecDepth 20000 in
theorem ggL_isKept_X6_lines : GoodIn wsL_isKept wsX6_lines := goodIn_r _ [5, 6, 7, 8, 9, 10, 11, 12, 13, 14, 15, 16, 17, 18, 19, 20, 21, 22, 23, 24, 25, 26, 27, 28, 29, 30, 31, 32, 33, 34, 35, 36, 37, 38, 39, 40, 41, 42, 43, 44, 45, 46, 47, 48, 49, 50, 51, 52, 53, 4, 54, 133, 134, 135, 136, 137, 138, 139, 140, 141, 142, 143, 144, 145, 146, 147, 148, 149, 150, 151, 152, 153, 154, 155, 156, 157, 158, 159, 160, 161] (by decide +kernel) (by decide +kernel)
set_option maxRecDepth 20000 in
theorem gL_isKept_X6_lines : GoodIn wsL_isKept (wsV RL 33 RX6 yX6_lines wsX6_lines) := goodIn_app (goodIn_of _ (by decide +kernel)) ggL_isKept_X6_lines
set_option maxRecDepth 20000 in
theorem ggL_isKept_L_bits : GoodIn wsL_isKept wsL_bits := goodIn_r _ [58] (by decide +kernel) (by decide +kernel)
set_option maxRecDepth 20000 in
theorem gL_isKept_L_bits : GoodIn wsL_isKept (va_wsS RL 59 yL_bits wsL_bits) := goodIn_app (goodIn_of _ (by decide +kernel)) ggL_isKept_L_bits
set_option maxRecDepth 20000 in
theorem ggL_isKept_X6_battery : GoodIn wsL_isKept wsX6_battery := goodIn_r _ [62, 6, 63, 64, 65, 66, 7, 67, 68, 69, 42, 70, 71, 72, 73, 74, 75, 76, 77, 40, 41, 43, 44, 45, 46, 47, 24, 25, 26, 78, 19, 20, 11, 21, 22, 23, 27, 28, 29, 30, 31, 9, 10, 12, 13, 32, 33, 34, 35, 36, 37, 38, 39, 133, 134, 135, 136, 137, 138, 139, 140, 141, 142, 143, 144, 145, 146, 147, 148, 149, 150, 151, 152, 153, 154, 155, 156, 157, 158, 159, 160, 161] (by decide +kernel) (by decide +kernel)
set_option maxRecDepth 20000 in
theorem gL_isKept_X6_battery : GoodIn wsL_isKept (wsV RL 42 RX6 yX6_battery wsX6_battery) := goodIn_app (goodIn_of _ (by decide +kernel)) ggL_isKept_X6_battery
set_option maxRecDepth 20000 in
theorem ggL_isKept_X6_count : GoodIn wsL_isKept wsX6_count := goodIn_r _ [82, 6, 83, 84, 85, 86, 87, 88, 89, 90, 91, 92, 93, 94, 95, 63, 7, 96, 97, 4, 98, 99, 100, 101, 42, 102, 46, 45, 103, 104, 133, 134, 135, 136, 137, 138, 139, 140, 141, 142, 143, 144, 145, 146, 147, 148, 149, 150, 151, 152, 153, 154, 162, 163, 164, 165, 155, 156, 157, 158, 159, 160, 161] (by decide +kernel) (by decide +kernel)
set_option maxRecDepth 20000 in
theorem gL_isKept_X6_count : GoodIn wsL_isKept (wsV RL 24 RX6 yX6_count wsX6_count) := goodIn_app (goodIn_of _ (by decide +kernel)) ggL_isKept_X6_count
set_option maxRecDepth 20000 in
theorem ggL_isKept_X6_lineOf : GoodIn wsL_isKept wsX6_lineOf := goodIn_r _ [108, 7, 6, 109, 110, 111, 112, 113, 114, 53, 4, 54, 115, 116, 117, 118, 49, 50, 11, 51, 13, 52, 133, 134, 135, 136, 137, 138, 139, 140, 141, 142, 143, 144, 145, 146, 147, 148, 149, 150, 151, 152, 153, 154] (by decide +kernel) (by decide +kernel)
set_option maxRecDepth 20000 in
theorem gL_isKept_X6_lineOf : GoodIn wsL_isKept (wsV RL 30 RX6 yX6_lineOf wsX6_lineOf) := goodIn_app (goodIn_of _ (by decide +kernel)) ggL_isKept_X6_lineOf
set_option maxRecDepth 20000 in
theorem ggL_isKept_X6_placeOf : GoodIn wsL_isKept wsX6_placeOf := goodIn_r _ [122, 7, 6, 123, 112, 110, 124, 125, 126, 4, 127, 115, 116, 117, 128, 129, 130, 11, 131, 13, 132, 114, 53, 54, 133, 134, 135, 136, 137, 138, 139, 140, 141, 142, 143, 144, 145, 146, 147, 148, 149, 150, 151, 152, 153, 154] (by decide +kernel) (by decide +kernel)
set_option maxRecDepth 20000 in
theorem gL_isKept_X6_placeOf : GoodIn wsL_isKept (wsV RL 15 RX6 yX6_placeOf wsX6_placeOf) := goodIn_app (goodIn_of _ (by decide +kernel)) ggL_isKept_X6_placeOf
theorem dL_isKept_0 : decode cL_isKept 0 = .ok (.aload_n 0, 1) := by decide +kernel
theorem dL_isKept_1 : decode cL_isKept 1 = .ok (.iconst 2, 1) := by decide +kernel
theorem dL_isKept_2 : decode cL_isKept 2 = .ok (.invokevirtual 33, 3) := by decide +kernel
theorem dL_isKept_5 : decode cL_isKept 5 = .ok (.invokestatic 59, 3) := by decide +kernel
theorem dL_isKept_8 : decode cL_isKept 8 = .ok (.istore_n 3, 1) := by decide +kernel
theorem dL_isKept_9 : decode cL_isKept 9 = .ok (.iload_n 3, 1) := by decide +kernel
theorem dL_isKept_10 : decode cL_isKept 10 = .ok (.aload_n 0, 1) := by decide +kernel
theorem dL_isKept_11 : decode cL_isKept 11 = .ok (.iconst 3, 1) := by decide +kernel
theorem dL_isKept_12 : decode cL_isKept 12 = .ok (.invokevirtual 42, 3) := by decide +kernel
theorem dL_isKept_15 : decode cL_isKept 15 = .ok (.if_icmp .gt 99, 3) := by decide +kernel
theorem dL_isKept_18 : decode cL_isKept 18 = .ok (.aload_n 0, 1) := by decide +kernel
theorem dL_isKept_19 : decode cL_isKept 19 = .ok (.iconst 5, 1) := by decide +kernel
theorem dL_isKept_20 : decode cL_isKept 20 = .ok (.invokevirtual 42, 3) := by decide +kernel
theorem dL_isKept_23 : decode cL_isKept 23 = .ok (.iload_n 3, 1) := by decide +kernel
theorem dL_isKept_24 : decode cL_isKept 24 = .ok (.if_icmp .ne 90, 3) := by decide +kernel
theorem dL_isKept_27 : decode cL_isKept 27 = .ok (.aload_n 0, 1) := by decide +kernel
theorem dL_isKept_28 : decode cL_isKept 28 = .ok (.iconst 3, 1) := by decide +kernel
theorem dL_isKept_29 : decode cL_isKept 29 = .ok (.invokevirtual 33, 3) := by decide +kernel
theorem dL_isKept_32 : decode cL_isKept 32 = .ok (.ifCond .ne 82, 3) := by decide +kernel
theorem dL_isKept_35 : decode cL_isKept 35 = .ok (.aload_n 0, 1) := by decide +kernel
theorem dL_isKept_36 : decode cL_isKept 36 = .ok (.iconst 5, 1) := by decide +kernel
theorem dL_isKept_37 : decode cL_isKept 37 = .ok (.invokevirtual 24, 3) := by decide +kernel
theorem dL_isKept_40 : decode cL_isKept 40 = .ok (.ifCond .ne 74, 3) := by decide +kernel
theorem dL_isKept_43 : decode cL_isKept 43 = .ok (.aload_n 0, 1) := by decide +kernel
theorem dL_isKept_44 : decode cL_isKept 44 = .ok (.bipush 8, 2) := by decide +kernel
theorem dL_isKept_46 : decode cL_isKept 46 = .ok (.invokevirtual 24, 3) := by decide +kernel
theorem dL_isKept_49 : decode cL_isKept 49 = .ok (.aload_n 0, 1) := by decide +kernel
theorem dL_isKept_50 : decode cL_isKept 50 = .ok (.iconst 3, 1) := by decide +kernel
theorem dL_isKept_51 : decode cL_isKept 51 = .ok (.invokevirtual 24, 3) := by decide +kernel
theorem dL_isKept_54 : decode cL_isKept 54 = .ok (.aload_n 0, 1) := by decide +kernel
theorem dL_isKept_55 : decode cL_isKept 55 = .ok (.iconst 4, 1) := by decide +kernel
theorem dL_isKept_56 : decode cL_isKept 56 = .ok (.invokevirtual 24, 3) := by decide +kernel
theorem dL_isKept_59 : decode cL_isKept 59 = .ok (.iadd, 1) := by decide +kernel
theorem dL_isKept_60 : decode cL_isKept 60 = .ok (.if_icmp .ne 54, 3) := by decide +kernel
theorem dL_isKept_63 : decode cL_isKept 63 = .ok (.aload_n 0, 1) := by decide +kernel
theorem dL_isKept_64 : decode cL_isKept 64 = .ok (.iconst 0, 1) := by decide +kernel
theorem dL_isKept_65 : decode cL_isKept 65 = .ok (.invokevirtual 33, 3) := by decide +kernel
theorem dL_isKept_68 : decode cL_isKept 68 = .ok (.aload_n 0, 1) := by decide +kernel
theorem dL_isKept_69 : decode cL_isKept 69 = .ok (.iconst 1, 1) := by decide +kernel
theorem dL_isKept_70 : decode cL_isKept 70 = .ok (.invokevirtual 33, 3) := by decide +kernel
theorem dL_isKept_73 : decode cL_isKept 73 = .ok (.ior, 1) := by decide +kernel
theorem dL_isKept_74 : decode cL_isKept 74 = .ok (.aload_n 0, 1) := by decide +kernel
theorem dL_isKept_75 : decode cL_isKept 75 = .ok (.iconst 2, 1) := by decide +kernel
theorem dL_isKept_76 : decode cL_isKept 76 = .ok (.invokevirtual 33, 3) := by decide +kernel
theorem dL_isKept_79 : decode cL_isKept 79 = .ok (.ior, 1) := by decide +kernel
theorem dL_isKept_80 : decode cL_isKept 80 = .ok (.sipush 255, 3) := by decide +kernel
theorem dL_isKept_83 : decode cL_isKept 83 = .ok (.if_icmp .ne 31, 3) := by decide +kernel
theorem dL_isKept_86 : decode cL_isKept 86 = .ok (.aload_n 0, 1) := by decide +kernel
theorem dL_isKept_87 : decode cL_isKept 87 = .ok (.iconst 0, 1) := by decide +kernel
theorem dL_isKept_88 : decode cL_isKept 88 = .ok (.invokevirtual 33, 3) := by decide +kernel
theorem dL_isKept_91 : decode cL_isKept 91 = .ok (.invokestatic 59, 3) := by decide +kernel
theorem dL_isKept_94 : decode cL_isKept 94 = .ok (.aload_n 0, 1) := by decide +kernel
theorem dL_isKept_95 : decode cL_isKept 95 = .ok (.iconst 1, 1) := by decide +kernel
theorem dL_isKept_96 : decode cL_isKept 96 = .ok (.invokevirtual 33, 3) := by decide +kernel
theorem dL_isKept_99 : decode cL_isKept 99 = .ok (.invokestatic 59, 3) := by decide +kernel
theorem dL_isKept_102 : decode cL_isKept 102 = .ok (.iadd, 1) := by decide +kernel
theorem dL_isKept_103 : decode cL_isKept 103 = .ok (.iload_n 3, 1) := by decide +kernel
theorem dL_isKept_104 : decode cL_isKept 104 = .ok (.iadd, 1) := by decide +kernel
theorem dL_isKept_105 : decode cL_isKept 105 = .ok (.bipush 8, 2) := by decide +kernel
theorem dL_isKept_107 : decode cL_isKept 107 = .ok (.if_icmp .ne 7, 3) := by decide +kernel
theorem dL_isKept_110 : decode cL_isKept 110 = .ok (.iconst 1, 1) := by decide +kernel
theorem dL_isKept_111 : decode cL_isKept 111 = .ok (.goto 4, 3) := by decide +kernel
theorem dL_isKept_114 : decode cL_isKept 114 = .ok (.iconst 0, 1) := by decide +kernel
theorem dL_isKept_115 : decode cL_isKept 115 = .ok (.istore 4, 2) := by decide +kernel
theorem dL_isKept_117 : decode cL_isKept 117 = .ok (.iload 4, 2) := by decide +kernel
theorem dL_isKept_119 : decode cL_isKept 119 = .ok (.ifCond .eq 60, 3) := by decide +kernel
theorem dL_isKept_122 : decode cL_isKept 122 = .ok (.aload_n 0, 1) := by decide +kernel
theorem dL_isKept_123 : decode cL_isKept 123 = .ok (.iconst 0, 1) := by decide +kernel
theorem dL_isKept_124 : decode cL_isKept 124 = .ok (.invokevirtual 42, 3) := by decide +kernel
theorem dL_isKept_127 : decode cL_isKept 127 = .ok (.ifCond .lt 52, 3) := by decide +kernel
theorem dL_isKept_130 : decode cL_isKept 130 = .ok (.aload_n 0, 1) := by decide +kernel
theorem dL_isKept_131 : decode cL_isKept 131 = .ok (.iconst 0, 1) := by decide +kernel
theorem dL_isKept_132 : decode cL_isKept 132 = .ok (.invokevirtual 42, 3) := by decide +kernel
theorem dL_isKept_135 : decode cL_isKept 135 = .ok (.aload_n 0, 1) := by decide +kernel
theorem dL_isKept_136 : decode cL_isKept 136 = .ok (.iconst 1, 1) := by decide +kernel
theorem dL_isKept_137 : decode cL_isKept 137 = .ok (.invokevirtual 42, 3) := by decide +kernel
theorem dL_isKept_140 : decode cL_isKept 140 = .ok (.if_icmp .gt 39, 3) := by decide +kernel
theorem dL_isKept_143 : decode cL_isKept 143 = .ok (.aload_n 0, 1) := by decide +kernel
theorem dL_isKept_144 : decode cL_isKept 144 = .ok (.iconst 1, 1) := by decide +kernel
theorem dL_isKept_145 : decode cL_isKept 145 = .ok (.invokevirtual 42, 3) := by decide +kernel
theorem dL_isKept_148 : decode cL_isKept 148 = .ok (.sipush 1000, 3) := by decide +kernel
theorem dL_isKept_151 : decode cL_isKept 151 = .ok (.bipush 10, 2) := by decide +kernel
theorem dL_isKept_153 : decode cL_isKept 153 = .ok (.aload_n 0, 1) := by decide +kernel
theorem dL_isKept_154 : decode cL_isKept 154 = .ok (.iconst 2, 1) := by decide +kernel
theorem dL_isKept_155 : decode cL_isKept 155 = .ok (.invokevirtual 42, 3) := by decide +kernel
theorem dL_isKept_158 : decode cL_isKept 158 = .ok (.imul, 1) := by decide +kernel
theorem dL_isKept_159 : decode cL_isKept 159 = .ok (.isub, 1) := by decide +kernel
theorem dL_isKept_160 : decode cL_isKept 160 = .ok (.if_icmp .ne 19, 3) := by decide +kernel
theorem dL_isKept_163 : decode cL_isKept 163 = .ok (.aload_n 0, 1) := by decide +kernel
theorem dL_isKept_164 : decode cL_isKept 164 = .ok (.iconst 4, 1) := by decide +kernel
theorem dL_isKept_165 : decode cL_isKept 165 = .ok (.invokevirtual 42, 3) := by decide +kernel
theorem dL_isKept_168 : decode cL_isKept 168 = .ok (.ifCond .eq 7, 3) := by decide +kernel
theorem dL_isKept_171 : decode cL_isKept 171 = .ok (.iload_n 3, 1) := by decide +kernel
theorem dL_isKept_172 : decode cL_isKept 172 = .ok (.ifCond .ne 7, 3) := by decide +kernel
theorem dL_isKept_175 : decode cL_isKept 175 = .ok (.iconst 1, 1) := by decide +kernel
theorem dL_isKept_176 : decode cL_isKept 176 = .ok (.goto 4, 3) := by decide +kernel
theorem dL_isKept_179 : decode cL_isKept 179 = .ok (.iconst 0, 1) := by decide +kernel
theorem dL_isKept_180 : decode cL_isKept 180 = .ok (.istore 4, 2) := by decide +kernel
theorem dL_isKept_182 : decode cL_isKept 182 = .ok (.iconst 0, 1) := by decide +kernel
theorem dL_isKept_183 : decode cL_isKept 183 = .ok (.istore 5, 2) := by decide +kernel
theorem dL_isKept_185 : decode cL_isKept 185 = .ok (.iload 5, 2) := by decide +kernel
theorem dL_isKept_187 : decode cL_isKept 187 = .ok (.bipush 8, 2) := by decide +kernel
theorem dL_isKept_189 : decode cL_isKept 189 = .ok (.if_icmp .ge 91, 3) := by decide +kernel
theorem dL_isKept_192 : decode cL_isKept 192 = .ok (.iload 4, 2) := by decide +kernel
theorem dL_isKept_194 : decode cL_isKept 194 = .ok (.ifCond .eq 86, 3) := by decide +kernel
theorem dL_isKept_197 : decode cL_isKept 197 = .ok (.aload_n 0, 1) := by decide +kernel
theorem dL_isKept_198 : decode cL_isKept 198 = .ok (.iload 5, 2) := by decide +kernel
theorem dL_isKept_200 : decode cL_isKept 200 = .ok (.iconst 0, 1) := by decide +kernel
theorem dL_isKept_201 : decode cL_isKept 201 = .ok (.invokevirtual 30, 3) := by decide +kernel
theorem dL_isKept_204 : decode cL_isKept 204 = .ok (.ifCond .le 70, 3) := by decide +kernel
theorem dL_isKept_207 : decode cL_isKept 207 = .ok (.aload_n 0, 1) := by decide +kernel
theorem dL_isKept_208 : decode cL_isKept 208 = .ok (.iload 5, 2) := by decide +kernel
theorem dL_isKept_210 : decode cL_isKept 210 = .ok (.iconst 1, 1) := by decide +kernel
theorem dL_isKept_211 : decode cL_isKept 211 = .ok (.invokevirtual 30, 3) := by decide +kernel
theorem dL_isKept_214 : decode cL_isKept 214 = .ok (.istore 6, 2) := by decide +kernel
theorem dL_isKept_216 : decode cL_isKept 216 = .ok (.aload_n 0, 1) := by decide +kernel
theorem dL_isKept_217 : decode cL_isKept 217 = .ok (.iload 6, 2) := by decide +kernel
theorem dL_isKept_219 : decode cL_isKept 219 = .ok (.iconst 2, 1) := by decide +kernel
theorem dL_isKept_220 : decode cL_isKept 220 = .ok (.invokevirtual 15, 3) := by decide +kernel
theorem dL_isKept_223 : decode cL_isKept 223 = .ok (.iload 5, 2) := by decide +kernel
theorem dL_isKept_225 : decode cL_isKept 225 = .ok (.if_icmp .ne 46, 3) := by decide +kernel
theorem dL_isKept_228 : decode cL_isKept 228 = .ok (.aload_n 0, 1) := by decide +kernel
theorem dL_isKept_229 : decode cL_isKept 229 = .ok (.iload 5, 2) := by decide +kernel
theorem dL_isKept_231 : decode cL_isKept 231 = .ok (.iconst 2, 1) := by decide +kernel
theorem dL_isKept_232 : decode cL_isKept 232 = .ok (.invokevirtual 30, 3) := by decide +kernel
theorem dL_isKept_235 : decode cL_isKept 235 = .ok (.aload_n 1, 1) := by decide +kernel
theorem dL_isKept_236 : decode cL_isKept 236 = .ok (.iload 6, 2) := by decide +kernel
theorem dL_isKept_238 : decode cL_isKept 238 = .ok (.iaload, 1) := by decide +kernel
theorem dL_isKept_239 : decode cL_isKept 239 = .ok (.if_icmp .ne 32, 3) := by decide +kernel
theorem dL_isKept_242 : decode cL_isKept 242 = .ok (.aload_n 0, 1) := by decide +kernel
theorem dL_isKept_243 : decode cL_isKept 243 = .ok (.iload 5, 2) := by decide +kernel
theorem dL_isKept_245 : decode cL_isKept 245 = .ok (.iconst 0, 1) := by decide +kernel
theorem dL_isKept_246 : decode cL_isKept 246 = .ok (.invokevirtual 30, 3) := by decide +kernel
theorem dL_isKept_249 : decode cL_isKept 249 = .ok (.iconst 2, 1) := by decide +kernel
theorem dL_isKept_250 : decode cL_isKept 250 = .ok (.if_icmp .eq 17, 3) := by decide +kernel
theorem dL_isKept_253 : decode cL_isKept 253 = .ok (.aload_n 0, 1) := by decide +kernel
theorem dL_isKept_254 : decode cL_isKept 254 = .ok (.iload 6, 2) := by decide +kernel
theorem dL_isKept_256 : decode cL_isKept 256 = .ok (.iconst 0, 1) := by decide +kernel
theorem dL_isKept_257 : decode cL_isKept 257 = .ok (.invokevirtual 15, 3) := by decide +kernel
theorem dL_isKept_260 : decode cL_isKept 260 = .ok (.aload_n 1, 1) := by decide +kernel
theorem dL_isKept_261 : decode cL_isKept 261 = .ok (.iload 6, 2) := by decide +kernel
theorem dL_isKept_263 : decode cL_isKept 263 = .ok (.iaload, 1) := by decide +kernel
theorem dL_isKept_264 : decode cL_isKept 264 = .ok (.if_icmp .ne 7, 3) := by decide +kernel
theorem dL_isKept_267 : decode cL_isKept 267 = .ok (.iconst 1, 1) := by decide +kernel
theorem dL_isKept_268 : decode cL_isKept 268 = .ok (.goto 4, 3) := by decide +kernel
theorem dL_isKept_271 : decode cL_isKept 271 = .ok (.iconst 0, 1) := by decide +kernel
theorem dL_isKept_272 : decode cL_isKept 272 = .ok (.istore 4, 2) := by decide +kernel
theorem dL_isKept_274 : decode cL_isKept 274 = .ok (.iinc 5 1, 3) := by decide +kernel
theorem dL_isKept_277 : decode cL_isKept 277 = .ok (.goto (-92), 3) := by decide +kernel
theorem dL_isKept_280 : decode cL_isKept 280 = .ok (.iload 4, 2) := by decide +kernel
theorem dL_isKept_282 : decode cL_isKept 282 = .ok (.ifCond .eq 19, 3) := by decide +kernel
theorem dL_isKept_285 : decode cL_isKept 285 = .ok (.aload_n 0, 1) := by decide +kernel
theorem dL_isKept_286 : decode cL_isKept 286 = .ok (.iload_n 2, 1) := by decide +kernel
theorem dL_isKept_287 : decode cL_isKept 287 = .ok (.iconst 1, 1) := by decide +kernel
theorem dL_isKept_288 : decode cL_isKept 288 = .ok (.invokevirtual 15, 3) := by decide +kernel
theorem dL_isKept_291 : decode cL_isKept 291 = .ok (.aload_n 1, 1) := by decide +kernel
theorem dL_isKept_292 : decode cL_isKept 292 = .ok (.iload_n 2, 1) := by decide +kernel
theorem dL_isKept_293 : decode cL_isKept 293 = .ok (.iaload, 1) := by decide +kernel
theorem dL_isKept_294 : decode cL_isKept 294 = .ok (.if_icmp .ne 7, 3) := by decide +kernel
theorem dL_isKept_297 : decode cL_isKept 297 = .ok (.iconst 1, 1) := by decide +kernel
theorem dL_isKept_298 : decode cL_isKept 298 = .ok (.goto 4, 3) := by decide +kernel
theorem dL_isKept_301 : decode cL_isKept 301 = .ok (.iconst 0, 1) := by decide +kernel
theorem dL_isKept_302 : decode cL_isKept 302 = .ok (.ireturn, 1) := by decide +kernel
