def wsL_law_r1 : List Cond := [Cond.classLink RL 7 RX6, Cond.instantiable RX6 5, Cond.initialized RX6, Cond.classLink RL 10 RX7, Cond.instantiable RX7 14, Cond.initialized RX7, Cond.methodLink RL 9 yX6_init, Cond.instanceMethod yX6_init, Cond.code yX6_init cX6_init 1 none, Cond.methodLink RX6 1 objectInit, Cond.instanceMethod objectInit, Cond.code objectInit ⟨#[0xb1]⟩ 1 none, Cond.classLink RX6 7 RX4, Cond.instantiable RX4 17, Cond.initialized RX4, Cond.fieldLink RX6 10 "BatteryCaches" "now" "LBatteryCaches$State;", Cond.classLink RX6 16 RX1, Cond.instantiable RX1 2, Cond.initialized RX1, Cond.fieldLink RX6 19 "BatteryCaches" "history" "LBatteryCaches$History;", Cond.classLink RX6 23 RX5, Cond.instantiable RX5 2, Cond.initialized RX5, Cond.fieldLink RX6 26 "BatteryCaches" "text" "LBatteryCaches$Text;"]
def wsL_law_r2 : List Cond := [Cond.classLink RX6 30 RX3, Cond.instantiable RX3 3, Cond.initialized RX3, Cond.fieldLink RX6 33 "BatteryCaches" "rehearsal" "LBatteryCaches$Rehearsal;", Cond.classLink RX6 37 RX0, Cond.instantiable RX0 7, Cond.initialized RX0, Cond.fieldLink RX6 40 "BatteryCaches" "trialBattery" "LBatteryCaches$Battery;", Cond.instanceMethod yX4_init, Cond.code yX4_init cX4_init 1 none, Cond.methodLink RX4 3 objectInit, Cond.classLink RX4 9 RX0, Cond.fieldLink RX4 12 "BatteryCaches$State" "battery" "LBatteryCaches$Battery;", Cond.arrayClass .int, Cond.fieldLink RX4 18 "BatteryCaches$State" "disk" "[I", Cond.fieldLink RX4 22 "BatteryCaches$State" "laid" "[I", Cond.fieldLink RX4 25 "BatteryCaches$State" "kind" "[I", Cond.fieldLink RX4 28 "BatteryCaches$State" "place" "[I", Cond.fieldLink RX4 31 "BatteryCaches$State" "value" "[I", Cond.fieldLink RX4 34 "BatteryCaches$State" "turn" "[I", Cond.fieldLink RX4 37 "BatteryCaches$State" "lastTurn" "I", Cond.fieldLink RX4 41 "BatteryCaches$State" "ticks" "I", Cond.fieldLink RX4 44 "BatteryCaches$State" "hits" "I", Cond.fieldLink RX4 47 "BatteryCaches$State" "misses" "I"]
def wsL_law_r3 : List Cond := [Cond.fieldLink RX4 50 "BatteryCaches$State" "flushed" "I", Cond.fieldLink RX4 53 "BatteryCaches$State" "wentThrough" "I", Cond.fieldLink RX4 56 "BatteryCaches$State" "lost" "I", Cond.fieldLink RX4 59 "BatteryCaches$State" "cuts" "I", Cond.fieldLink RX4 62 "BatteryCaches$State" "cyclesEnded" "I", Cond.fieldLink RX4 65 "BatteryCaches$State" "laidInAll" "I", Cond.instanceMethod yX0_init, Cond.code yX0_init cX0_init 1 none, Cond.methodLink RX0 3 objectInit, Cond.fieldLink RX0 9 "BatteryCaches$Battery" "charge" "I", Cond.fieldLink RX0 15 "BatteryCaches$Battery" "wear" "I", Cond.fieldLink RX0 18 "BatteryCaches$Battery" "cycle" "I", Cond.fieldLink RX0 21 "BatteryCaches$Battery" "lineCost" "I", Cond.fieldLink RX0 24 "BatteryCaches$Battery" "cutCost" "I", Cond.fieldLink RX0 27 "BatteryCaches$Battery" "rise" "I", Cond.fieldLink RX0 30 "BatteryCaches$Battery" "fall" "I", Cond.methodLink RX6 18 yX1_init, Cond.instanceMethod yX1_init, Cond.code yX1_init cX1_init 2 none, Cond.methodLink RX1 3 objectInit, Cond.classLink RX1 9 RX4, Cond.fieldLink RX1 11 "BatteryCaches$History" "states" "[LBatteryCaches$State;", Cond.fieldLink RX1 17 "BatteryCaches$History" "size" "I", Cond.instanceMethod yX5_init]
def wsL_law_r4 : List Cond := [Cond.code yX5_init cX5_init 1 none, Cond.methodLink RX5 3 objectInit, Cond.fieldLink RX5 9 "BatteryCaches$Text" "characters" "[I", Cond.fieldLink RX5 15 "BatteryCaches$Text" "length" "I", Cond.instanceMethod yX3_init, Cond.code yX3_init cX3_init 1 none, Cond.methodLink RX3 3 objectInit, Cond.classLink RX3 9 RX4, Cond.fieldLink RX3 12 "BatteryCaches$Rehearsal" "trial" "LBatteryCaches$State;", Cond.classLink RX3 18 RX2, Cond.instantiable RX2 7, Cond.initialized RX2, Cond.fieldLink RX3 21 "BatteryCaches$Rehearsal" "order" "LBatteryCaches$Order;", Cond.fieldLink RX3 25 "BatteryCaches$Rehearsal" "done" "I", Cond.instanceMethod yX2_init, Cond.code yX2_init cX2_init 1 none, Cond.methodLink RX2 3 objectInit, Cond.fieldLink RX2 9 "BatteryCaches$Order" "start" "I", Cond.fieldLink RX2 15 "BatteryCaches$Order" "next" "I", Cond.fieldLink RX2 18 "BatteryCaches$Order" "letter" "I", Cond.fieldLink RX2 21 "BatteryCaches$Order" "number" "I", Cond.fieldLink RX2 24 "BatteryCaches$Order" "newValue" "I", Cond.fieldLink RX2 27 "BatteryCaches$Order" "reason" "I", Cond.fieldLink RX2 30 "BatteryCaches$Order" "cause" "I"]
def wsL_law_r5 : List Cond := [Cond.methodLink RL 12 yX7_init, Cond.instanceMethod yX7_init, Cond.code yX7_init cX7_init 1 none, Cond.methodLink RX7 1 objectInit, Cond.fieldLink RX7 7 "BatteryCachesModel" "all" "[I", Cond.fieldLink RX7 13 "BatteryCachesModel" "kept" "[I", Cond.fieldLink RX7 16 "BatteryCachesModel" "history" "[I", Cond.fieldLink RX7 19 "BatteryCachesModel" "text" "[I", Cond.methodLink RL 13 yX6_read, Cond.instanceMethod yX6_read, Cond.selects RX6 yX6_read yX6_read, Cond.code yX6_read cX6_read 2 (some .int), Cond.constant RX6 48 (-1000001), Cond.methodLink RX6 44 yX6_isPlace, Cond.static yX6_isPlace, Cond.code yX6_isPlace cX6_isPlace 1 (some .boolean), Cond.methodLink RX6 49 yX1_keep, Cond.instanceMethod yX1_keep, Cond.selects RX1 yX1_keep yX1_keep, Cond.code yX1_keep cX1_keep 2 none, Cond.methodLink RX1 22 yX1_dropOldest, Cond.instanceMethod yX1_dropOldest, Cond.selects RX1 yX1_dropOldest yX1_dropOldest, Cond.code yX1_dropOldest cX1_dropOldest 3 none]
def wsL_law_r6 : List Cond := [Cond.static yX6_isWithin, Cond.code yX6_isWithin cX6_isWithin 3 (some .boolean), Cond.methodLink RX1 29 yX4_copy, Cond.static yX4_copy, Cond.code yX4_copy cX4_copy 2 none, Cond.methodLink RX4 68 yX0_copyFrom, Cond.instanceMethod yX0_copyFrom, Cond.selects RX0 yX0_copyFrom yX0_copyFrom, Cond.code yX0_copyFrom cX0_copyFrom 2 none, Cond.static yX6_copyRow, Cond.code yX6_copyRow cX6_copyRow 2 none, Cond.methodLink RX6 253 Lib.Math.min.name, Cond.static Lib.Math.min.name, Cond.initialized "java/lang/Math", Cond.code Lib.Math.min.name Lib.Math.min.code 2 (some .int), Cond.methodLink RX6 256 arraycopyName, Cond.native arraycopyName, Cond.static arraycopyName, Cond.initialized "java/lang/System", Cond.methodLink RX6 53 yX4_readPlace, Cond.instanceMethod yX4_readPlace, Cond.selects RX4 yX4_readPlace yX4_readPlace, Cond.code yX4_readPlace cX4_readPlace 3 (some .int), Cond.methodLink RX4 76 yX4_lineFor]
def wsL_law_r7 : List Cond := [Cond.instanceMethod yX4_lineFor, Cond.selects RX4 yX4_lineFor yX4_lineFor, Cond.code yX4_lineFor cX4_lineFor 3 (some .int), Cond.methodLink RX4 95 yX4_holderOf, Cond.instanceMethod yX4_holderOf, Cond.selects RX4 yX4_holderOf yX4_holderOf, Cond.code yX4_holderOf cX4_holderOf 3 (some .int), Cond.static yX6_isLine, Cond.code yX6_isLine cX6_isLine 1 (some .boolean), Cond.methodLink RX4 98 yX4_lineToTake, Cond.instanceMethod yX4_lineToTake, Cond.selects RX4 yX4_lineToTake yX4_lineToTake, Cond.code yX4_lineToTake cX4_lineToTake 2 (some .int), Cond.methodLink RX4 108 yX4_lowestEmpty, Cond.instanceMethod yX4_lowestEmpty, Cond.selects RX4 yX4_lowestEmpty yX4_lowestEmpty, Cond.code yX4_lowestEmpty cX4_lowestEmpty 2 (some .int), Cond.methodLink RX4 111 yX4_lowestTurn, Cond.instanceMethod yX4_lowestTurn, Cond.selects RX4 yX4_lowestTurn yX4_lowestTurn, Cond.code yX4_lowestTurn cX4_lowestTurn 5 (some .int), Cond.methodLink RX4 101 yX4_flushLine, Cond.instanceMethod yX4_flushLine, Cond.selects RX4 yX4_flushLine yX4_flushLine]
def wsL_law_r8 : List Cond := [Cond.code yX4_flushLine cX4_flushLine 2 none, Cond.methodLink RX4 91 yX4_layOnDisk, Cond.instanceMethod yX4_layOnDisk, Cond.selects RX4 yX4_layOnDisk yX4_layOnDisk, Cond.code yX4_layOnDisk cX4_layOnDisk 3 none, Cond.methodLink RX4 105 yX4_layIntoLine, Cond.instanceMethod yX4_layIntoLine, Cond.selects RX4 yX4_layIntoLine yX4_layIntoLine, Cond.code yX4_layIntoLine cX4_layIntoLine 3 none, Cond.methodLink RL 17 yX7_read, Cond.instanceMethod yX7_read, Cond.selects RX7 yX7_read yX7_read, Cond.code yX7_read cX7_read 2 (some .int), Cond.methodLink RX7 104 yX7_keep, Cond.instanceMethod yX7_keep, Cond.selects RX7 yX7_keep yX7_keep, Cond.code yX7_keep cX7_keep 2 none, Cond.methodLink RX7 107 yX7_doRead, Cond.instanceMethod yX7_doRead, Cond.selects RX7 yX7_doRead yX7_doRead, Cond.code yX7_doRead cX7_doRead 2 (some .int), Cond.constant RX7 73 (-1000001), Cond.methodLink RX7 66 yX7_isPlace, Cond.static yX7_isPlace]
def wsL_law_r9 : List Cond := [Cond.code yX7_isPlace cX7_isPlace 1 (some .boolean), Cond.constantLong RX7 27 (63), Cond.methodLink RX7 29 yX7_in, Cond.static yX7_in, Cond.code yX7_in cX7_in 6 (some .boolean), Cond.methodLink RX7 70 yX7_touches, Cond.instanceMethod yX7_touches, Cond.selects RX7 yX7_touches yX7_touches, Cond.code yX7_touches cX7_touches 3 (some .int), Cond.methodLink RX7 60 yX7_holder, Cond.instanceMethod yX7_holder, Cond.selects RX7 yX7_holder yX7_holder, Cond.code yX7_holder cX7_holder 3 (some .int), Cond.methodLink RX7 35 yX7_counts, Cond.instanceMethod yX7_counts, Cond.selects RX7 yX7_counts yX7_counts, Cond.code yX7_counts cX7_counts 2 none, Cond.methodLink RX7 54 yX7_oldest, Cond.instanceMethod yX7_oldest, Cond.selects RX7 yX7_oldest yX7_oldest, Cond.code yX7_oldest cX7_oldest 4 (some .int), Cond.methodLink RX7 57 yX7_flushes, Cond.instanceMethod yX7_flushes, Cond.selects RX7 yX7_flushes yX7_flushes]
def wsL_law_r10 : List Cond := [Cond.code yX7_flushes cX7_flushes 2 none, Cond.methodLink RX7 39 yX7_lays, Cond.instanceMethod yX7_lays, Cond.selects RX7 yX7_lays yX7_lays, Cond.code yX7_lays cX7_lays 3 none, Cond.methodLink RX7 63 yX7_turns, Cond.instanceMethod yX7_turns, Cond.selects RX7 yX7_turns yX7_turns, Cond.code yX7_turns cX7_turns 2 none, Cond.methodLink RX7 110 yX7_changed, Cond.instanceMethod yX7_changed, Cond.selects RX7 yX7_changed yX7_changed, Cond.code yX7_changed cX7_changed 3 (some .int), Cond.constant RX7 22 (-1000000), Cond.fieldLink RX7 23 "BatteryCachesModel" "historyLong" "I", Cond.methodLink RL 18 yX6_write, Cond.instanceMethod yX6_write, Cond.selects RX6 yX6_write yX6_write, Cond.code yX6_write cX6_write 3 (some .int), Cond.methodLink RX6 57 yX6_isWithin, Cond.methodLink RX6 61 yX4_writePlace, Cond.instanceMethod yX4_writePlace, Cond.selects RX4 yX4_writePlace yX4_writePlace, Cond.code yX4_writePlace cX4_writePlace 4 (some .int)]
def wsL_law_r11 : List Cond := [Cond.methodLink RX4 84 yX4_numberOf, Cond.instanceMethod yX4_numberOf, Cond.selects RX4 yX4_numberOf yX4_numberOf, Cond.code yX4_numberOf cX4_numberOf 2 (some .int), Cond.methodLink RX4 154 yX4_setOf, Cond.instanceMethod yX4_setOf, Cond.selects RX4 yX4_setOf yX4_setOf, Cond.code yX4_setOf cX4_setOf 4 (some .int), Cond.methodLink RX4 157 yJ6_bitCount_0f7a4, Cond.static yJ6_bitCount_0f7a4, Cond.initialized RJ6, Cond.code yJ6_bitCount_0f7a4 cJ6_bitCount_0f7a4 1 (some .int), Cond.constant RJ6 265 (1431655765), Cond.constant RJ6 266 (858993459), Cond.constant RJ6 267 (252645135), Cond.methodLink RX4 87 yX0_allowance, Cond.instanceMethod yX0_allowance, Cond.selects RX0 yX0_allowance yX0_allowance, Cond.code yX0_allowance cX0_allowance 1 (some .int), Cond.methodLink RX0 33 yX0_savable, Cond.instanceMethod yX0_savable, Cond.selects RX0 yX0_savable yX0_savable, Cond.code yX0_savable cX0_savable 1 (some .int), Cond.methodLink RX0 37 Lib.Math.min.name]
def wsL_law_r12 : List Cond := [Cond.methodLink RL 22 yX7_write, Cond.instanceMethod yX7_write, Cond.selects RX7 yX7_write yX7_write, Cond.code yX7_write cX7_write 3 (some .int), Cond.methodLink RX7 113 yX7_doWrite, Cond.instanceMethod yX7_doWrite, Cond.selects RX7 yX7_doWrite yX7_doWrite, Cond.code yX7_doWrite cX7_doWrite 4 (some .int), Cond.constantLong RX7 74 (999), Cond.methodLink RX7 47 yX7_many, Cond.instanceMethod yX7_many, Cond.selects RX7 yX7_many yX7_many, Cond.code yX7_many cX7_many 4 (some .int), Cond.methodLink RX7 50 yX7_allowance, Cond.instanceMethod yX7_allowance, Cond.selects RX7 yX7_allowance yX7_allowance, Cond.code yX7_allowance cX7_allowance 2 (some .int), Cond.methodLink RX7 43 yX7_setting, Cond.instanceMethod yX7_setting, Cond.selects RX7 yX7_setting yX7_setting, Cond.code yX7_setting cX7_setting 2 (some .int), Cond.methodLink RL 23 yX6_flush, Cond.instanceMethod yX6_flush, Cond.selects RX6 yX6_flush yX6_flush]
def wsL_law_r13 : List Cond := [Cond.code yX6_flush cX6_flush 2 (some .int), Cond.fieldLink RX6 68 "BatteryCaches$State" "kind" "[I", Cond.constant RX6 72 (-1000002), Cond.methodLink RX6 65 yX6_isLine, Cond.methodLink RX6 73 yX4_flushLine, Cond.methodLink RX6 77 yX4_numberOf, Cond.methodLink RL 26 yX7_flush, Cond.instanceMethod yX7_flush, Cond.selects RX7 yX7_flush yX7_flush, Cond.code yX7_flush cX7_flush 2 (some .int), Cond.methodLink RX7 117 yX7_doFlush, Cond.instanceMethod yX7_doFlush, Cond.selects RX7 yX7_doFlush yX7_doFlush, Cond.code yX7_doFlush cX7_doFlush 2 (some .int), Cond.constant RX7 96 (-1000002), Cond.methodLink RX7 97 yX7_isLine, Cond.static yX7_isLine, Cond.code yX7_isLine cX7_isLine 1 (some .boolean), Cond.constantLong RX7 33 (7), Cond.methodLink RL 27 yX6_tick, Cond.instanceMethod yX6_tick, Cond.selects RX6 yX6_tick yX6_tick, Cond.code yX6_tick cX6_tick 2 (some .int), Cond.methodLink RX6 80 yX4_passTicks]
def wsL_law_r14 : List Cond := [Cond.instanceMethod yX4_passTicks, Cond.selects RX4 yX4_passTicks yX4_passTicks, Cond.code yX4_passTicks cX4_passTicks 4 (some .int), Cond.methodLink RX4 117 yX0_passTick, Cond.instanceMethod yX0_passTick, Cond.selects RX0 yX0_passTick yX0_passTick, Cond.code yX0_passTick cX0_passTick 1 (some .boolean), Cond.methodLink RX0 54 yX0_fallInCycle, Cond.instanceMethod yX0_fallInCycle, Cond.selects RX0 yX0_fallInCycle yX0_fallInCycle, Cond.code yX0_fallInCycle cX0_fallInCycle 1 none, Cond.methodLink RX0 50 yX0_useUp, Cond.instanceMethod yX0_useUp, Cond.selects RX0 yX0_useUp yX0_useUp, Cond.code yX0_useUp cX0_useUp 2 none, Cond.methodLink RX0 43 Lib.Math.max.name, Cond.static Lib.Math.max.name, Cond.code Lib.Math.max.name Lib.Math.max.code 2 (some .int), Cond.methodLink RX0 57 yX0_capacity, Cond.instanceMethod yX0_capacity, Cond.selects RX0 yX0_capacity yX0_capacity, Cond.code yX0_capacity cX0_capacity 1 (some .int), Cond.methodLink RX4 121 yX4_tooMany, Cond.instanceMethod yX4_tooMany]
def wsL_law_r15 : List Cond := [Cond.selects RX4 yX4_tooMany yX4_tooMany, Cond.code yX4_tooMany cX4_tooMany 1 (some .int), Cond.methodLink RX4 139 Lib.Math.max.name, Cond.methodLink RX4 124 yX4_flushLowest, Cond.instanceMethod yX4_flushLowest, Cond.selects RX4 yX4_flushLowest yX4_flushLowest, Cond.code yX4_flushLowest cX4_flushLowest 3 (some .int), Cond.methodLink RL 30 yX7_tick, Cond.instanceMethod yX7_tick, Cond.selects RX7 yX7_tick yX7_tick, Cond.code yX7_tick cX7_tick 2 (some .int), Cond.methodLink RX7 120 yX7_doTick, Cond.instanceMethod yX7_doTick, Cond.selects RX7 yX7_doTick yX7_doTick, Cond.code yX7_doTick cX7_doTick 4 (some .int), Cond.constantLong RX7 91 (99), Cond.methodLink RX7 93 yX7_ticksOn, Cond.instanceMethod yX7_ticksOn, Cond.selects RX7 yX7_ticksOn yX7_ticksOn, Cond.code yX7_ticksOn cX7_ticksOn 1 (some .int), Cond.methodLink RX7 85 yX7_learnsOn, Cond.instanceMethod yX7_learnsOn, Cond.selects RX7 yX7_learnsOn yX7_learnsOn, Cond.code yX7_learnsOn cX7_learnsOn 1 none]
def wsL_law_r16 : List Cond := [Cond.methodLink RX7 79 yX7_drains, Cond.instanceMethod yX7_drains, Cond.selects RX7 yX7_drains yX7_drains, Cond.code yX7_drains cX7_drains 2 none, Cond.methodLink RX7 82 yX7_charges, Cond.instanceMethod yX7_charges, Cond.selects RX7 yX7_charges yX7_charges, Cond.code yX7_charges cX7_charges 2 none, Cond.methodLink RX7 76 yX7_capacity, Cond.instanceMethod yX7_capacity, Cond.selects RX7 yX7_capacity yX7_capacity, Cond.code yX7_capacity cX7_capacity 1 (some .int), Cond.methodLink RX7 88 yX7_flushesToo, Cond.instanceMethod yX7_flushesToo, Cond.selects RX7 yX7_flushesToo yX7_flushesToo, Cond.code yX7_flushesToo cX7_flushesToo 2 (some .int), Cond.methodLink RL 31 yX6_load, Cond.instanceMethod yX6_load, Cond.selects RX6 yX6_load yX6_load, Cond.code yX6_load cX6_load 2 (some .int), Cond.methodLink RX6 83 yX4_putLoad, Cond.instanceMethod yX4_putLoad, Cond.selects RX4 yX4_putLoad yX4_putLoad, Cond.code yX4_putLoad cX4_putLoad 2 (some .int)]
def wsL_law_r17 : List Cond := [Cond.methodLink RX4 127 yX0_useUp, Cond.methodLink RL 34 yX7_load, Cond.instanceMethod yX7_load, Cond.selects RX7 yX7_load yX7_load, Cond.code yX7_load cX7_load 2 (some .int), Cond.methodLink RX7 123 yX7_doLoad, Cond.instanceMethod yX7_doLoad, Cond.selects RX7 yX7_doLoad yX7_doLoad, Cond.code yX7_doLoad cX7_doLoad 2 (some .int), Cond.methodLink RL 35 yX6_learn, Cond.instanceMethod yX6_learn, Cond.selects RX6 yX6_learn yX6_learn, Cond.code yX6_learn cX6_learn 1 (some .int), Cond.fieldLink RX6 86 "BatteryCaches$State" "battery" "LBatteryCaches$Battery;", Cond.fieldLink RX6 89 "BatteryCaches$Battery" "cycle" "I", Cond.methodLink RX6 93 yX4_beginCycle, Cond.instanceMethod yX4_beginCycle, Cond.selects RX4 yX4_beginCycle yX4_beginCycle, Cond.code yX4_beginCycle cX4_beginCycle 1 (some .int), Cond.fieldLink RX4 130 "BatteryCaches$Battery" "cycle" "I", Cond.methodLink RL 39 yX7_learn, Cond.instanceMethod yX7_learn, Cond.selects RX7 yX7_learn yX7_learn, Cond.code yX7_learn cX7_learn 1 (some .int)]
def wsL_law_r18 : List Cond := [Cond.methodLink RX7 126 yX7_doLearn, Cond.instanceMethod yX7_doLearn, Cond.selects RX7 yX7_doLearn yX7_doLearn, Cond.code yX7_doLearn cX7_doLearn 1 (some .int), Cond.methodLink RL 40 yX6_cut, Cond.instanceMethod yX6_cut, Cond.selects RX6 yX6_cut yX6_cut, Cond.code yX6_cut cX6_cut 1 (some .int), Cond.methodLink RX6 97 yX4_cutPower, Cond.instanceMethod yX4_cutPower, Cond.selects RX4 yX4_cutPower yX4_cutPower, Cond.code yX4_cutPower cX4_cutPower 4 (some .int), Cond.methodLink RX4 133 yX4_savedByCut, Cond.instanceMethod yX4_savedByCut, Cond.selects RX4 yX4_savedByCut yX4_savedByCut, Cond.code yX4_savedByCut cX4_savedByCut 1 (some .int), Cond.methodLink RX4 148 Lib.Math.min.name, Cond.methodLink RX4 145 yX0_savable, Cond.methodLink RX4 136 yX0_saveAtCut, Cond.instanceMethod yX0_saveAtCut, Cond.selects RX0 yX0_saveAtCut yX0_saveAtCut, Cond.code yX0_saveAtCut cX0_saveAtCut 2 none, Cond.methodLink RX0 46 yX0_costToSave, Cond.instanceMethod yX0_costToSave]
def wsL_law_r19 : List Cond := [Cond.selects RX0 yX0_costToSave yX0_costToSave, Cond.code yX0_costToSave cX0_costToSave 2 (some .int), Cond.methodLink RL 43 yX7_cut, Cond.instanceMethod yX7_cut, Cond.selects RX7 yX7_cut yX7_cut, Cond.code yX7_cut cX7_cut 1 (some .int), Cond.methodLink RX7 129 yX7_doCut, Cond.instanceMethod yX7_doCut, Cond.selects RX7 yX7_doCut yX7_doCut, Cond.code yX7_doCut cX7_doCut 3 (some .int), Cond.methodLink RL 44 yX6_set, Cond.instanceMethod yX6_set, Cond.selects RX6 yX6_set yX6_set, Cond.code yX6_set cX6_set 4 (some .int), Cond.fieldLink RX6 103 "BatteryCaches" "LEAST_SETTING" "[I", Cond.fieldLink RX6 106 "BatteryCaches" "MOST_SETTING" "[I", Cond.methodLink RX6 100 yX6_isSetting, Cond.static yX6_isSetting, Cond.code yX6_isSetting cX6_isSetting 1 (some .boolean), Cond.methodLink RX6 109 yX0_setting, Cond.instanceMethod yX0_setting, Cond.selects RX0 yX0_setting yX0_setting, Cond.code yX0_setting cX0_setting 2 (some .int), Cond.methodLink RX6 112 yX0_changeSetting]
def wsL_law_r20 : List Cond := [Cond.instanceMethod yX0_changeSetting, Cond.selects RX0 yX0_changeSetting yX0_changeSetting, Cond.code yX0_changeSetting cX0_changeSetting 3 none, Cond.methodLink RL 47 yX7_set, Cond.instanceMethod yX7_set, Cond.selects RX7 yX7_set yX7_set, Cond.code yX7_set cX7_set 3 (some .int), Cond.methodLink RX7 132 yX7_doSet, Cond.instanceMethod yX7_doSet, Cond.selects RX7 yX7_doSet yX7_doSet, Cond.code yX7_doSet cX7_doSet 5 (some .int), Cond.constantLong RX7 100 (500), Cond.constantLong RX7 102 (200), Cond.methodLink RL 48 yX6_lineOf, Cond.instanceMethod yX6_lineOf, Cond.selects RX6 yX6_lineOf yX6_lineOf, Cond.code yX6_lineOf cX6_lineOf 3 (some .int), Cond.constant RX6 116 (-1000004), Cond.fieldLink RX6 117 "BatteryCaches$State" "place" "[I", Cond.fieldLink RX6 120 "BatteryCaches$State" "value" "[I", Cond.fieldLink RX6 123 "BatteryCaches$State" "turn" "[I", Cond.methodLink RX6 126 yX4_linesAhead, Cond.instanceMethod yX4_linesAhead, Cond.selects RX4 yX4_linesAhead yX4_linesAhead]
def wsL_law_r21 : List Cond := [Cond.code yX4_linesAhead cX4_linesAhead 5 (some .int), Cond.methodLink RL 51 yX7_lineOf, Cond.instanceMethod yX7_lineOf, Cond.selects RX7 yX7_lineOf yX7_lineOf, Cond.code yX7_lineOf cX7_lineOf 3 (some .int), Cond.constantLong RX7 135 (4), Cond.constant RX7 137 (-1000004), Cond.methodLink RX7 138 yX7_lowerTurns, Cond.instanceMethod yX7_lowerTurns, Cond.selects RX7 yX7_lowerTurns yX7_lowerTurns, Cond.code yX7_lowerTurns cX7_lowerTurns 4 (some .int), Cond.methodLink RL 52 yX6_placeOf, Cond.instanceMethod yX6_placeOf, Cond.selects RX6 yX6_placeOf yX6_placeOf, Cond.code yX6_placeOf cX6_placeOf 4 (some .int), Cond.fieldLink RX6 132 "BatteryCaches$State" "disk" "[I", Cond.fieldLink RX6 135 "BatteryCaches$State" "laid" "[I", Cond.methodLink RX6 129 yX4_holderOf, Cond.methodLink RL 55 yX7_placeOf, Cond.instanceMethod yX7_placeOf, Cond.selects RX7 yX7_placeOf yX7_placeOf, Cond.code yX7_placeOf cX7_placeOf 4 (some .int), Cond.constantLong RX7 141 (3), Cond.methodLink RL 56 yX6_battery]
def wsL_law_r22 : List Cond := [Cond.instanceMethod yX6_battery, Cond.selects RX6 yX6_battery yX6_battery, Cond.code yX6_battery cX6_battery 2 (some .int), Cond.fieldLink RX6 138 "BatteryCaches$Battery" "charge" "I", Cond.fieldLink RX6 144 "BatteryCaches$Battery" "wear" "I", Cond.methodLink RX6 141 yX0_capacity, Cond.methodLink RX6 147 yX0_allowance, Cond.methodLink RX6 150 yX4_savedByCut, Cond.methodLink RL 59 yX7_battery, Cond.instanceMethod yX7_battery, Cond.selects RX7 yX7_battery yX7_battery, Cond.code yX7_battery cX7_battery 2 (some .int), Cond.methodLink RX7 143 yX7_saved, Cond.instanceMethod yX7_saved, Cond.selects RX7 yX7_saved yX7_saved, Cond.code yX7_saved cX7_saved 2 (some .int), Cond.methodLink RL 60 yX6_lines, Cond.instanceMethod yX6_lines, Cond.selects RX6 yX6_lines yX6_lines, Cond.code yX6_lines cX6_lines 2 (some .int), Cond.methodLink RX6 153 yX4_setOf, Cond.methodLink RX6 156 yX4_lostByCut, Cond.instanceMethod yX4_lostByCut, Cond.selects RX4 yX4_lostByCut yX4_lostByCut]
def wsL_law_r23 : List Cond := [Cond.code yX4_lostByCut cX4_lostByCut 4 (some .int), Cond.methodLink RX4 151 yX4_linesAhead, Cond.methodLink RL 63 yX7_lines, Cond.instanceMethod yX7_lines, Cond.selects RX7 yX7_lines yX7_lines, Cond.code yX7_lines cX7_lines 2 (some .int), Cond.methodLink RX7 149 yX7_losable, Cond.instanceMethod yX7_losable, Cond.selects RX7 yX7_losable yX7_losable, Cond.code yX7_losable cX7_losable 3 (some .int), Cond.methodLink RX7 146 yX7_dirtyBefore, Cond.instanceMethod yX7_dirtyBefore, Cond.selects RX7 yX7_dirtyBefore yX7_dirtyBefore, Cond.code yX7_dirtyBefore cX7_dirtyBefore 4 (some .int), Cond.methodLink RX7 152 yX7_setOf, Cond.instanceMethod yX7_setOf, Cond.selects RX7 yX7_setOf yX7_setOf, Cond.code yX7_setOf cX7_setOf 4 (some .int), Cond.methodLink RL 64 yX6_wouldFlush, Cond.instanceMethod yX6_wouldFlush, Cond.selects RX6 yX6_wouldFlush yX6_wouldFlush, Cond.code yX6_wouldFlush cX6_wouldFlush 2 (some .int), Cond.methodLink RX6 166 Lib.Math.max.name, Cond.methodLink RX6 159 yX0_copyFrom]
def wsL_law_r24 : List Cond := [Cond.methodLink RX6 163 yX0_useUp, Cond.methodLink RL 67 yX7_wouldFlush, Cond.instanceMethod yX7_wouldFlush, Cond.selects RX7 yX7_wouldFlush yX7_wouldFlush, Cond.code yX7_wouldFlush cX7_wouldFlush 3 (some .int), Cond.methodLink RX7 155 yX7_giveBack, Cond.instanceMethod yX7_giveBack, Cond.selects RX7 yX7_giveBack yX7_giveBack, Cond.code yX7_giveBack cX7_giveBack 2 none, Cond.methodLink RL 68 yX6_critical, Cond.instanceMethod yX6_critical, Cond.selects RX6 yX6_critical yX6_critical, Cond.code yX6_critical cX6_critical 3 (some .int), Cond.methodLink RX6 171 yX0_costToSave, Cond.methodLink RL 71 yX7_critical, Cond.instanceMethod yX7_critical, Cond.selects RX7 yX7_critical yX7_critical, Cond.code yX7_critical cX7_critical 2 (some .int), Cond.methodLink RX7 158 yX7_wouldFlush, Cond.methodLink RL 72 yX6_ticksUntil, Cond.instanceMethod yX6_ticksUntil, Cond.selects RX6 yX6_ticksUntil yX6_ticksUntil, Cond.code yX6_ticksUntil cX6_ticksUntil 3 (some .int), Cond.methodLink RX6 174 yX0_passTick]
def wsL_law_r25 : List Cond := [Cond.methodLink RL 75 yX7_ticksUntil, Cond.instanceMethod yX7_ticksUntil, Cond.selects RX7 yX7_ticksUntil yX7_ticksUntil, Cond.code yX7_ticksUntil cX7_ticksUntil 4 (some .int), Cond.constantLong RX7 161 (8), Cond.methodLink RL 76 yX6_pair, Cond.instanceMethod yX6_pair, Cond.selects RX6 yX6_pair yX6_pair, Cond.code yX6_pair cX6_pair 3 (some .int), Cond.methodLink RX6 178 yX4_nearestPair, Cond.instanceMethod yX4_nearestPair, Cond.selects RX4 yX4_nearestPair yX4_nearestPair, Cond.code yX4_nearestPair cX4_nearestPair 6 (some .int), Cond.methodLink RX4 162 yX4_distanceToDirty, Cond.instanceMethod yX4_distanceToDirty, Cond.selects RX4 yX4_distanceToDirty yX4_distanceToDirty, Cond.code yX4_distanceToDirty cX4_distanceToDirty 4 (some .int), Cond.methodLink RX4 165 Lib.Math.abs.name, Cond.static Lib.Math.abs.name, Cond.code Lib.Math.abs.name Lib.Math.abs.code 1 (some .int), Cond.methodLink RX6 181 yX4_distanceToDirty, Cond.methodLink RL 79 yX7_pair, Cond.instanceMethod yX7_pair, Cond.selects RX7 yX7_pair yX7_pair]
def wsL_law_r26 : List Cond := [Cond.code yX7_pair cX7_pair 5 (some .int), Cond.methodLink RX7 166 yX7_nearest, Cond.instanceMethod yX7_nearest, Cond.selects RX7 yX7_nearest yX7_nearest, Cond.code yX7_nearest cX7_nearest 4 (some .int), Cond.methodLink RX7 163 yX7_apart, Cond.instanceMethod yX7_apart, Cond.selects RX7 yX7_apart yX7_apart, Cond.code yX7_apart cX7_apart 4 (some .int), Cond.methodLink RL 80 yX6_count, Cond.instanceMethod yX6_count, Cond.selects RX6 yX6_count yX6_count, Cond.code yX6_count cX6_count 2 (some .int), Cond.fieldLink RX6 184 "BatteryCaches$State" "ticks" "I", Cond.fieldLink RX6 187 "BatteryCaches$State" "hits" "I", Cond.fieldLink RX6 190 "BatteryCaches$State" "misses" "I", Cond.fieldLink RX6 193 "BatteryCaches$State" "flushed" "I", Cond.fieldLink RX6 196 "BatteryCaches$State" "wentThrough" "I", Cond.fieldLink RX6 199 "BatteryCaches$State" "lost" "I", Cond.fieldLink RX6 202 "BatteryCaches$State" "cuts" "I", Cond.fieldLink RX6 205 "BatteryCaches$State" "cyclesEnded" "I", Cond.fieldLink RX6 208 "BatteryCaches$State" "laidInAll" "I", Cond.fieldLink RX6 211 "BatteryCaches$History" "size" "I", Cond.fieldLink RX6 214 "BatteryCaches$Text" "length" "I"]
def wsL_law_r27 : List Cond := [Cond.methodLink RL 83 yX7_count, Cond.instanceMethod yX7_count, Cond.selects RX7 yX7_count yX7_count, Cond.code yX7_count cX7_count 2 (some .int), Cond.fieldLink RX7 169 "BatteryCachesModel" "textLong" "I", Cond.constantLong RX7 172 (20), Cond.constantLong RX7 174 (23), Cond.methodLink RL 84 yX6_undo, Cond.instanceMethod yX6_undo, Cond.selects RX6 yX6_undo yX6_undo, Cond.code yX6_undo cX6_undo 1 (some .int), Cond.methodLink RX6 217 yX1_restore, Cond.instanceMethod yX1_restore, Cond.selects RX1 yX1_restore yX1_restore, Cond.code yX1_restore cX1_restore 2 none, Cond.methodLink RL 87 yX7_undo, Cond.instanceMethod yX7_undo, Cond.selects RX7 yX7_undo yX7_undo, Cond.code yX7_undo cX7_undo 2 (some .int), Cond.methodLink RL 88 yX6_type, Cond.instanceMethod yX6_type, Cond.selects RX6 yX6_type yX6_type, Cond.code yX6_type cX6_type 2 (some .int), Cond.constant RX6 220 (-1000003)]
def wsL_law_r28 : List Cond := [Cond.methodLink RX6 221 yX5_append, Cond.instanceMethod yX5_append, Cond.selects RX5 yX5_append yX5_append, Cond.code yX5_append cX5_append 2 none, Cond.methodLink RL 91 yX7_type, Cond.instanceMethod yX7_type, Cond.selects RX7 yX7_type yX7_type, Cond.code yX7_type cX7_type 2 (some .int), Cond.constantLong RX7 176 (32), Cond.constantLong RX7 178 (126), Cond.constant RX7 180 (-1000003), Cond.methodLink RL 92 yX6_clearText, Cond.instanceMethod yX6_clearText, Cond.selects RX6 yX6_clearText yX6_clearText, Cond.code yX6_clearText cX6_clearText 2 (some .int), Cond.methodLink RL 95 yX7_clearText, Cond.instanceMethod yX7_clearText, Cond.selects RX7 yX7_clearText yX7_clearText, Cond.code yX7_clearText cX7_clearText 2 (some .int), Cond.methodLink RL 96 yX6_fault, Cond.instanceMethod yX6_fault, Cond.selects RX6 yX6_fault yX6_fault, Cond.code yX6_fault cX6_fault 3 (some .int), Cond.fieldLink RX6 228 "BatteryCaches$Rehearsal" "order" "LBatteryCaches$Order;"]
def wsL_law_r29 : List Cond := [Cond.fieldLink RX6 232 "BatteryCaches$Order" "reason" "I", Cond.fieldLink RX6 237 "BatteryCaches$Order" "start" "I", Cond.fieldLink RX6 240 "BatteryCaches$Order" "cause" "I", Cond.methodLink RX6 224 yX3_run, Cond.instanceMethod yX3_run, Cond.selects RX3 yX3_run yX3_run, Cond.code yX3_run cX3_run 4 none, Cond.fieldLink RX3 36 "BatteryCaches$Order" "next" "I", Cond.fieldLink RX3 39 "BatteryCaches$Text" "length" "I", Cond.fieldLink RX3 48 "BatteryCaches$Order" "reason" "I", Cond.methodLink RX3 29 yX4_copy, Cond.methodLink RX3 33 yX2_beginText, Cond.instanceMethod yX2_beginText, Cond.selects RX2 yX2_beginText yX2_beginText, Cond.code yX2_beginText cX2_beginText 1 none, Cond.methodLink RX3 44 yX2_readNext, Cond.instanceMethod yX2_readNext, Cond.selects RX2 yX2_readNext yX2_readNext, Cond.code yX2_readNext cX2_readNext 2 none, Cond.methodLink RX2 33 yX2_hasForm, Cond.instanceMethod yX2_hasForm, Cond.selects RX2 yX2_hasForm yX2_hasForm, Cond.code yX2_hasForm cX2_hasForm 2 (some .boolean), Cond.methodLink RX2 41 yX5_at]
def wsL_law_r30 : List Cond := [Cond.instanceMethod yX5_at, Cond.selects RX5 yX5_at yX5_at, Cond.code yX5_at cX5_at 3 (some .int), Cond.methodLink RX2 47 yX2_readNumber, Cond.instanceMethod yX2_readNumber, Cond.selects RX2 yX2_readNumber yX2_readNumber, Cond.code yX2_readNumber cX2_readNumber 4 (some .int), Cond.methodLink RX2 51 yX2_readSign, Cond.instanceMethod yX2_readSign, Cond.selects RX2 yX2_readSign yX2_readSign, Cond.code yX2_readSign cX2_readSign 3 (some .boolean), Cond.methodLink RX2 55 yX2_hasFormOfWrite, Cond.instanceMethod yX2_hasFormOfWrite, Cond.selects RX2 yX2_hasFormOfWrite yX2_hasFormOfWrite, Cond.code yX2_hasFormOfWrite cX2_hasFormOfWrite 2 (some .boolean), Cond.methodLink RX2 37 yX2_isInRange, Cond.instanceMethod yX2_isInRange, Cond.selects RX2 yX2_isInRange yX2_isInRange, Cond.code yX2_isInRange cX2_isInRange 1 (some .boolean), Cond.methodLink RX3 51 yX3_isPossible, Cond.instanceMethod yX3_isPossible, Cond.selects RX3 yX3_isPossible yX3_isPossible, Cond.code yX3_isPossible cX3_isPossible 1 (some .boolean), Cond.fieldLink RX3 58 "BatteryCaches$Order" "letter" "I"]
def wsL_law_r31 : List Cond := [Cond.fieldLink RX3 61 "BatteryCaches$State" "battery" "LBatteryCaches$Battery;", Cond.fieldLink RX3 65 "BatteryCaches$Battery" "cycle" "I", Cond.methodLink RX3 55 yX3_perform, Cond.instanceMethod yX3_perform, Cond.selects RX3 yX3_perform yX3_perform, Cond.code yX3_perform cX3_perform 1 none, Cond.fieldLink RX3 70 "BatteryCaches$Order" "number" "I", Cond.fieldLink RX3 77 "BatteryCaches$Order" "newValue" "I", Cond.methodLink RX3 73 yX4_readPlace, Cond.methodLink RX3 80 yX4_writePlace, Cond.methodLink RX3 84 yX4_passTicks, Cond.methodLink RX3 87 yX4_putLoad, Cond.methodLink RX3 90 yX4_cutPower, Cond.methodLink RX3 94 yX4_beginCycle, Cond.methodLink RL 99 yX7_fault, Cond.instanceMethod yX7_fault, Cond.selects RX7 yX7_fault yX7_fault, Cond.code yX7_fault cX7_fault 3 (some .int), Cond.constantLong RX7 231 (2), Cond.fieldLink RX7 191 "BatteryCachesModel" "from" "I", Cond.fieldLink RX7 210 "BatteryCachesModel" "why" "I", Cond.fieldLink RX7 213 "BatteryCachesModel" "cause" "I", Cond.methodLink RX7 233 yX7_doesAll, Cond.instanceMethod yX7_doesAll]
def wsL_law_r32 : List Cond := [Cond.selects RX7 yX7_doesAll yX7_doesAll, Cond.code yX7_doesAll cX7_doesAll 2 (some .boolean), Cond.fieldLink RX7 216 "BatteryCachesModel" "done" "I", Cond.fieldLink RX7 181 "BatteryCachesModel" "at" "I", Cond.fieldLink RX7 201 "BatteryCachesModel" "first" "I", Cond.methodLink RX7 219 yX7_readsOrder, Cond.instanceMethod yX7_readsOrder, Cond.selects RX7 yX7_readsOrder yX7_readsOrder, Cond.code yX7_readsOrder cX7_readsOrder 2 (some .boolean), Cond.fieldLink RX7 188 "BatteryCachesModel" "number" "I", Cond.fieldLink RX7 207 "BatteryCachesModel" "second" "I", Cond.methodLink RX7 194 yX7_isOrder, Cond.static yX7_isOrder, Cond.code yX7_isOrder cX7_isOrder 1 (some .boolean), Cond.methodLink RX7 197 yX7_takesNumber, Cond.instanceMethod yX7_takesNumber, Cond.selects RX7 yX7_takesNumber yX7_takesNumber, Cond.code yX7_takesNumber cX7_takesNumber 2 (some .boolean), Cond.methodLink RX7 184 yX7_isHere, Cond.instanceMethod yX7_isHere, Cond.selects RX7 yX7_isHere yX7_isHere, Cond.code yX7_isHere cX7_isHere 3 (some .boolean), Cond.methodLink RX7 204 yX7_takes, Cond.instanceMethod yX7_takes]
def wsL_law_r33 : List Cond := [Cond.selects RX7 yX7_takes yX7_takes, Cond.code yX7_takes cX7_takes 3 (some .boolean), Cond.methodLink RX7 222 yX7_notes, Cond.instanceMethod yX7_notes, Cond.selects RX7 yX7_notes yX7_notes, Cond.code yX7_notes cX7_notes 3 (some .boolean), Cond.methodLink RX7 225 yX7_isInRange, Cond.instanceMethod yX7_isInRange, Cond.selects RX7 yX7_isInRange yX7_isInRange, Cond.code yX7_isInRange cX7_isInRange 2 (some .boolean), Cond.methodLink RX7 228 yX7_doOrder, Cond.instanceMethod yX7_doOrder, Cond.selects RX7 yX7_doOrder yX7_doOrder, Cond.code yX7_doOrder cX7_doOrder 1 (some .int), Cond.methodLink RL 100 yX6_play, Cond.instanceMethod yX6_play, Cond.selects RX6 yX6_play yX6_play, Cond.code yX6_play cX6_play 1 (some .int), Cond.fieldLink RX6 243 "BatteryCaches$Rehearsal" "trial" "LBatteryCaches$State;", Cond.fieldLink RX6 250 "BatteryCaches$Rehearsal" "done" "I", Cond.methodLink RX6 246 yX4_copy, Cond.methodLink RL 103 yX7_play, Cond.instanceMethod yX7_play, Cond.selects RX7 yX7_play yX7_play]
def wsL_law_r34 : List Cond := [Cond.code yX7_play cX7_play 1 (some .int)]
def wsL_law : List Cond := (wsL_law_r1 ++ (wsL_law_r2 ++ (wsL_law_r3 ++ (wsL_law_r4 ++ (wsL_law_r5 ++ (wsL_law_r6 ++ (wsL_law_r7 ++ (wsL_law_r8 ++ (wsL_law_r9 ++ (wsL_law_r10 ++ (wsL_law_r11 ++ (wsL_law_r12 ++ (wsL_law_r13 ++ (wsL_law_r14 ++ (wsL_law_r15 ++ (wsL_law_r16 ++ (wsL_law_r17 ++ (wsL_law_r18 ++ (wsL_law_r19 ++ (wsL_law_r20 ++ (wsL_law_r21 ++ (wsL_law_r22 ++ (wsL_law_r23 ++ (wsL_law_r24 ++ (wsL_law_r25 ++ (wsL_law_r26 ++ (wsL_law_r27 ++ (wsL_law_r28 ++ (wsL_law_r29 ++ (wsL_law_r30 ++ (wsL_law_r31 ++ (wsL_law_r32 ++ (wsL_law_r33 ++ wsL_law_r34))))))))))))))))))))))))))))))))) ++ wsX60 ++ wsX70 ++ wsX40 ++ wsX10 ++ wsX50 ++ wsX30 ++ wsX00 ++ wsX20 ++ ([] : List Cond)
set_option maxRecDepth 20000 in
theorem wsL_law_in : ∀ w ∈ wsL_law, w ∈ lw_tbl := fun w h => (goodIn_p wsL_law [58, 61, 66, 72, 175, 192, 207, 215, 643, 281, 284, 289, 293, 296, 299, 303, 306, 309, 316, 320, 324, 327, 331, 335, 339, 343, 347, 352, 691, 695, 699, 702, 706, 710, 714, 718, 722, 726, 730, 734, 739, 356, 361, 365, 369, 372, 379, 383, 744, 748, 753, 757, 761, 388, 765, 769, 772, 396, 400, 404, 408, 412, 415, 419, 423, 428, 778, 782, 787, 791, 795, 799, 803, 807, 432, 436, 811, 815, 441, 445, 819, 823, 449, 453, 457, 463, 467, 827, 831, 471, 474, 482, 486, 835, 839, 490, 495, 845, 851, 499, 855, 504, 860, 864, 511, 516, 868, 872, 876, 880, 521, 884, 888, 528, 892, 533, 897, 538, 542, 546, 549, 902, 906, 910, 554, 914, 558, 562, 920, 566, 571, 924, 576, 931, 580, 584, 589, 593, 597, 601, 605, 610, 614, 618, 623, 627, 935, 940, 944, 947, 951, 955, 959, 963, 967, 971, 637, 975] (by decide +kernel) (by decide +kernel) w h).1
theorem inlX0 : ∀ w ∈ wsX00, w ∈ wsL_law := fun _ h => List.mem_append_left _ (List.mem_append_left _ (List.mem_append_right _ h))
theorem inX0 : ∀ w ∈ wsX00, w ∈ lw_tbl := fun w h => wsL_law_in w (inlX0 w h)
theorem inlX1 : ∀ w ∈ wsX10, w ∈ wsL_law := fun _ h => List.mem_append_left _ (List.mem_append_left _ (List.mem_append_left _ (List.mem_append_left _ (List.mem_append_left _ (List.mem_append_right _ h)))))
theorem inX1 : ∀ w ∈ wsX10, w ∈ lw_tbl := fun w h => wsL_law_in w (inlX1 w h)
theorem inlX2 : ∀ w ∈ wsX20, w ∈ wsL_law := fun _ h => List.mem_append_left _ (List.mem_append_right _ h)
theorem inX2 : ∀ w ∈ wsX20, w ∈ lw_tbl := fun w h => wsL_law_in w (inlX2 w h)
theorem inlX3 : ∀ w ∈ wsX30, w ∈ wsL_law := fun _ h => List.mem_append_left _ (List.mem_append_left _ (List.mem_append_left _ (List.mem_append_right _ h)))
theorem inX3 : ∀ w ∈ wsX30, w ∈ lw_tbl := fun w h => wsL_law_in w (inlX3 w h)
theorem inlX4 : ∀ w ∈ wsX40, w ∈ wsL_law := fun _ h => List.mem_append_left _ (List.mem_append_left _ (List.mem_append_left _ (List.mem_append_left _ (List.mem_append_left _ (List.mem_append_left _ (List.mem_append_right _ h))))))
theorem inX4 : ∀ w ∈ wsX40, w ∈ lw_tbl := fun w h => wsL_law_in w (inlX4 w h)
theorem inlX5 : ∀ w ∈ wsX50, w ∈ wsL_law := fun _ h => List.mem_append_left _ (List.mem_append_left _ (List.mem_append_left _ (List.mem_append_left _ (List.mem_append_right _ h))))
theorem inX5 : ∀ w ∈ wsX50, w ∈ lw_tbl := fun w h => wsL_law_in w (inlX5 w h)
theorem inlX6 : ∀ w ∈ wsX60, w ∈ wsL_law := fun _ h => List.mem_append_left _ (List.mem_append_left _ (List.mem_append_left _ (List.mem_append_left _ (List.mem_append_left _ (List.mem_append_left _ (List.mem_append_left _ (List.mem_append_left _ (List.mem_append_right _ h))))))))
theorem inX6 : ∀ w ∈ wsX60, w ∈ lw_tbl := fun w h => wsL_law_in w (inlX6 w h)
theorem inlX7 : ∀ w ∈ wsX70, w ∈ wsL_law := fun _ h => List.mem_append_left _ (List.mem_append_left _ (List.mem_append_left _ (List.mem_append_left _ (List.mem_append_left _ (List.mem_append_left _ (List.mem_append_left _ (List.mem_append_right _ h)))))))
theorem inX7 : ∀ w ∈ wsX70, w ∈ lw_tbl := fun w h => wsL_law_in w (inlX7 w h)
set_option maxRecDepth 20000 in
theorem ggL_law_X6_init : GoodIn wsL_law wsX6_init := goodIn_r _ [8, 9, 10, 11, 12, 13, 14, 15, 16, 17, 18, 19, 20, 21, 22, 23, 24, 25, 26, 27, 28, 29, 30, 31, 32, 33, 34, 35, 36, 37, 38, 39, 40, 41, 42, 43, 44, 45, 46, 47, 48, 49, 50, 51, 52, 53, 54, 55, 56, 57, 58, 59, 60, 61, 62, 63, 64, 65, 66, 67, 68, 69, 70, 71, 72, 73, 74, 75, 76, 77, 78, 79, 80, 81, 82, 83, 84, 85, 86, 87, 88, 89, 90, 91, 92, 93, 94, 95, 812, 813, 814, 815, 816, 817, 818, 819, 820, 821, 822, 823, 824, 825, 826, 827, 828, 793, 794, 795, 796, 797, 829, 830, 831, 832, 833, 834, 835, 836, 837, 838, 839, 840, 841, 842, 843, 844, 845, 846, 847, 848, 849] (by decide +kernel) (by decide +kernel)
set_option maxRecDepth 20000 in
theorem gL_law_X6_init : GoodIn wsL_law (wsX6_init) := ggL_law_X6_init
set_option maxRecDepth 20000 in
theorem ggL_law_X7_init : GoodIn wsL_law wsX7_init := goodIn_r _ [98, 99, 10, 11, 37, 100, 101, 102, 103, 798, 799, 800, 801, 802, 803, 804, 805, 806, 807, 808, 809, 810, 811] (by decide +kernel) (by decide +kernel)
set_option maxRecDepth 20000 in
theorem gL_law_X7_init : GoodIn wsL_law (wsX7_init) := ggL_law_X7_init
set_option maxRecDepth 20000 in
theorem ggL_law_X6_read : GoodIn wsL_law wsX6_read := goodIn_r _ [107, 108, 19, 15, 109, 110, 2, 111, 112, 113, 114, 18, 115, 70, 69, 116, 117, 118, 119, 120, 121, 122, 123, 14, 124, 36, 38, 39, 40, 41, 42, 43, 44, 45, 46, 47, 48, 49, 50, 51, 52, 53, 125, 126, 127, 30, 128, 57, 58, 59, 60, 61, 62, 63, 129, 130, 131, 132, 133, 134, 135, 136, 137, 138, 139, 140, 141, 142, 143, 144, 145, 146, 147, 148, 149, 150, 151, 152, 153, 154, 155, 156, 157, 158, 159, 160, 161, 162, 163, 164, 165, 166, 167, 168, 169, 170, 171, 172, 173, 174, 175, 176, 793, 794, 795, 796, 797, 829, 830, 812, 813, 814, 815, 816, 817, 818, 819, 820, 821, 822, 823, 824, 825, 826, 827, 828, 836, 837, 838, 839, 840, 841, 842] (by decide +kernel) (by decide +kernel)
set_option maxRecDepth 20000 in
theorem gL_law_X6_read : GoodIn wsL_law (wsV RL 13 RX6 yX6_read wsX6_read) := goodIn_app (goodIn_of _ (by decide +kernel)) ggL_law_X6_read
set_option maxRecDepth 20000 in
theorem ggL_law_X7_read : GoodIn wsL_law wsX7_read := goodIn_r _ [180, 181, 182, 183, 5, 184, 101, 100, 185, 186, 187, 188, 189, 190, 191, 192, 193, 194, 195, 196, 197, 198, 199, 200, 201, 202, 203, 204, 205, 206, 207, 208, 209, 210, 211, 212, 213, 214, 215, 216, 217, 218, 219, 220, 221, 222, 223, 224, 225, 226, 227, 228, 229, 230, 102, 798, 799, 800, 801, 802, 803, 804, 805, 806, 807, 808, 809, 810, 811] (by decide +kernel) (by decide +kernel)
set_option maxRecDepth 20000 in
theorem gL_law_X7_read : GoodIn wsL_law (wsV RL 17 RX7 yX7_read wsX7_read) := goodIn_app (goodIn_of _ (by decide +kernel)) ggL_law_X7_read
set_option maxRecDepth 20000 in
theorem ggL_law_X6_write : GoodIn wsL_law wsX6_write := goodIn_r _ [234, 108, 19, 15, 109, 110, 2, 111, 235, 120, 121, 112, 113, 114, 18, 115, 70, 69, 116, 117, 118, 119, 122, 123, 14, 124, 36, 38, 39, 40, 41, 42, 43, 44, 45, 46, 47, 48, 49, 50, 51, 52, 53, 125, 126, 127, 30, 128, 57, 58, 59, 60, 61, 62, 63, 129, 130, 131, 132, 133, 134, 135, 136, 137, 138, 236, 237, 238, 239, 143, 144, 145, 146, 147, 148, 149, 150, 151, 152, 153, 154, 155, 156, 157, 158, 159, 160, 161, 162, 163, 164, 165, 166, 167, 168, 169, 170, 171, 172, 173, 174, 175, 176, 240, 241, 242, 243, 244, 245, 246, 247, 248, 249, 250, 251, 252, 253, 254, 255, 256, 257, 258, 259, 260, 261, 262, 263, 793, 794, 795, 796, 797, 829, 830, 812, 813, 814, 815, 816, 817, 818, 819, 820, 821, 822, 823, 824, 825, 826, 827, 828, 836, 837, 838, 839, 840, 841, 842] (by decide +kernel) (by decide +kernel)
set_option maxRecDepth 20000 in
theorem gL_law_X6_write : GoodIn wsL_law (wsV RL 18 RX6 yX6_write wsX6_write) := goodIn_app (goodIn_of _ (by decide +kernel)) ggL_law_X6_write
set_option maxRecDepth 20000 in
theorem ggL_law_X7_write : GoodIn wsL_law wsX7_write := goodIn_r _ [267, 181, 182, 183, 5, 184, 101, 100, 268, 269, 270, 271, 272, 189, 190, 191, 192, 193, 194, 195, 196, 197, 198, 199, 200, 201, 202, 203, 204, 205, 206, 207, 208, 209, 210, 211, 212, 213, 214, 215, 216, 217, 218, 219, 220, 221, 222, 223, 224, 273, 274, 275, 276, 277, 278, 279, 280, 281, 282, 283, 284, 225, 226, 227, 228, 229, 230, 102, 798, 799, 800, 801, 802, 803, 804, 805, 806, 807, 808, 809, 810, 811] (by decide +kernel) (by decide +kernel)
set_option maxRecDepth 20000 in
theorem gL_law_X7_write : GoodIn wsL_law (wsV RL 22 RX7 yX7_write wsX7_write) := goodIn_app (goodIn_of _ (by decide +kernel)) ggL_law_X7_write
set_option maxRecDepth 20000 in
theorem ggL_law_X6_flush : GoodIn wsL_law wsX6_flush := goodIn_r _ [288, 108, 15, 289, 290, 19, 291, 151, 2, 152, 112, 113, 114, 18, 115, 70, 69, 116, 117, 118, 119, 120, 121, 122, 123, 14, 124, 36, 38, 39, 40, 41, 42, 43, 44, 45, 46, 47, 48, 49, 50, 51, 52, 53, 125, 126, 127, 30, 128, 57, 58, 59, 60, 61, 62, 63, 129, 130, 131, 132, 133, 134, 135, 136, 137, 138, 292, 166, 167, 168, 169, 170, 171, 172, 110, 111, 293, 241, 242, 243, 244, 245, 246, 247, 248, 249, 250, 251, 252, 253, 254, 793, 794, 795, 796, 797, 812, 813, 814, 815, 816, 817, 818, 819, 820, 821, 822, 823, 824, 825, 826, 827, 828, 829, 830, 836, 837, 838, 839, 840, 841, 842] (by decide +kernel) (by decide +kernel)
set_option maxRecDepth 20000 in
theorem gL_law_X6_flush : GoodIn wsL_law (wsV RL 23 RX6 yX6_flush wsX6_flush) := goodIn_app (goodIn_of _ (by decide +kernel)) ggL_law_X6_flush
set_option maxRecDepth 20000 in
theorem ggL_law_X7_flush : GoodIn wsL_law wsX7_flush := goodIn_r _ [297, 181, 182, 183, 5, 184, 101, 100, 298, 299, 300, 301, 189, 302, 303, 304, 305, 306, 194, 195, 196, 213, 214, 215, 216, 217, 218, 219, 220, 205, 206, 207, 208, 273, 274, 275, 276, 225, 226, 227, 228, 229, 230, 102, 798, 799, 800, 801, 802, 803, 804, 805, 806, 807, 808, 809, 810, 811] (by decide +kernel) (by decide +kernel)
set_option maxRecDepth 20000 in
theorem gL_law_X7_flush : GoodIn wsL_law (wsV RL 26 RX7 yX7_flush wsX7_flush) := goodIn_app (goodIn_of _ (by decide +kernel)) ggL_law_X7_flush
set_option maxRecDepth 20000 in
theorem ggL_law_X6_tick : GoodIn wsL_law wsX6_tick := goodIn_r _ [310, 108, 19, 15, 235, 120, 2, 121, 112, 113, 114, 18, 115, 70, 69, 116, 117, 118, 119, 122, 123, 14, 124, 36, 38, 39, 40, 41, 42, 43, 44, 45, 46, 47, 48, 49, 50, 51, 52, 53, 125, 126, 127, 30, 128, 57, 58, 59, 60, 61, 62, 63, 129, 130, 131, 132, 133, 134, 135, 136, 137, 138, 311, 312, 313, 314, 315, 316, 317, 318, 263, 319, 320, 321, 322, 323, 324, 325, 326, 327, 328, 329, 330, 331, 332, 333, 334, 335, 336, 337, 338, 240, 241, 242, 243, 244, 245, 246, 247, 248, 249, 250, 251, 252, 253, 254, 255, 256, 257, 258, 259, 260, 261, 262, 339, 340, 341, 342, 161, 162, 163, 164, 165, 166, 167, 168, 151, 152, 169, 170, 171, 172, 110, 111, 793, 794, 795, 796, 797, 829, 830, 812, 813, 814, 815, 816, 817, 818, 819, 820, 821, 822, 823, 824, 825, 826, 827, 828, 836, 837, 838, 839, 840, 841, 842] (by decide +kernel) (by decide +kernel)
set_option maxRecDepth 20000 in
theorem gL_law_X6_tick : GoodIn wsL_law (wsV RL 27 RX6 yX6_tick wsX6_tick) := goodIn_app (goodIn_of _ (by decide +kernel)) ggL_law_X6_tick
set_option maxRecDepth 20000 in
theorem ggL_law_X7_tick : GoodIn wsL_law wsX7_tick := goodIn_r _ [346, 181, 182, 183, 5, 184, 101, 100, 347, 348, 349, 350, 351, 189, 194, 195, 196, 352, 353, 354, 355, 205, 206, 207, 208, 356, 357, 358, 359, 281, 282, 283, 284, 360, 361, 362, 363, 364, 365, 366, 367, 368, 369, 370, 371, 372, 373, 374, 375, 273, 274, 275, 276, 277, 278, 279, 280, 209, 210, 211, 212, 213, 214, 215, 216, 217, 218, 219, 220, 225, 226, 227, 228, 229, 230, 102, 798, 799, 800, 801, 802, 803, 804, 805, 806, 807, 808, 809, 810, 811] (by decide +kernel) (by decide +kernel)
set_option maxRecDepth 20000 in
theorem gL_law_X7_tick : GoodIn wsL_law (wsV RL 30 RX7 yX7_tick wsX7_tick) := goodIn_app (goodIn_of _ (by decide +kernel)) ggL_law_X7_tick
set_option maxRecDepth 20000 in
theorem ggL_law_X6_load : GoodIn wsL_law wsX6_load := goodIn_r _ [379, 108, 19, 15, 235, 120, 2, 121, 112, 113, 114, 18, 115, 70, 69, 116, 117, 118, 119, 122, 123, 14, 124, 36, 38, 39, 40, 41, 42, 43, 44, 45, 46, 47, 48, 49, 50, 51, 52, 53, 125, 126, 127, 30, 128, 57, 58, 59, 60, 61, 62, 63, 129, 130, 131, 132, 133, 134, 135, 136, 137, 138, 380, 381, 382, 383, 384, 324, 325, 326, 327, 328, 329, 334, 335, 336, 337, 338, 240, 241, 242, 243, 244, 245, 246, 247, 248, 249, 250, 251, 252, 253, 254, 255, 256, 257, 258, 259, 260, 261, 262, 263, 339, 340, 341, 342, 161, 162, 163, 164, 165, 166, 167, 168, 151, 152, 169, 170, 171, 172, 110, 111, 793, 794, 795, 796, 797, 829, 830, 812, 813, 814, 815, 816, 817, 818, 819, 820, 821, 822, 823, 824, 825, 826, 827, 828, 836, 837, 838, 839, 840, 841, 842] (by decide +kernel) (by decide +kernel)
set_option maxRecDepth 20000 in
theorem gL_law_X6_load : GoodIn wsL_law (wsV RL 31 RX6 yX6_load wsX6_load) := goodIn_app (goodIn_of _ (by decide +kernel)) ggL_law_X6_load
set_option maxRecDepth 20000 in
theorem ggL_law_X7_load : GoodIn wsL_law wsX7_load := goodIn_r _ [388, 181, 182, 183, 5, 184, 101, 100, 389, 390, 391, 392, 272, 189, 194, 195, 196, 360, 361, 362, 363, 372, 373, 374, 375, 273, 274, 275, 276, 277, 278, 279, 280, 281, 282, 283, 284, 209, 210, 211, 212, 213, 214, 215, 216, 217, 218, 219, 220, 205, 206, 207, 208, 225, 226, 227, 228, 229, 230, 102, 798, 799, 800, 801, 802, 803, 804, 805, 806, 807, 808, 809, 810, 811] (by decide +kernel) (by decide +kernel)
set_option maxRecDepth 20000 in
theorem gL_law_X7_load : GoodIn wsL_law (wsV RL 34 RX7 yX7_load wsX7_load) := goodIn_app (goodIn_of _ (by decide +kernel)) ggL_law_X7_load
set_option maxRecDepth 20000 in
theorem ggL_law_X6_learn : GoodIn wsL_law wsX6_learn := goodIn_r _ [396, 15, 397, 398, 290, 19, 112, 113, 114, 18, 115, 70, 69, 116, 117, 118, 119, 120, 2, 121, 122, 123, 14, 124, 36, 38, 39, 40, 41, 42, 43, 44, 45, 46, 47, 48, 49, 50, 51, 52, 53, 125, 126, 127, 30, 128, 57, 58, 59, 60, 61, 62, 63, 129, 130, 131, 132, 133, 134, 135, 136, 137, 138, 399, 400, 401, 402, 403, 334, 335, 336, 337, 338, 328, 329, 240, 241, 242, 243, 244, 245, 246, 247, 248, 249, 250, 251, 252, 253, 254, 255, 256, 257, 258, 259, 260, 261, 262, 263, 339, 340, 341, 342, 161, 162, 163, 164, 165, 166, 167, 168, 151, 152, 169, 170, 171, 172, 110, 111, 793, 794, 795, 796, 797, 812, 813, 814, 815, 816, 817, 818, 819, 820, 821, 822, 823, 824, 825, 826, 827, 828, 836, 837, 838, 839, 840, 841, 842, 829, 830] (by decide +kernel) (by decide +kernel)
set_option maxRecDepth 20000 in
theorem gL_law_X6_learn : GoodIn wsL_law (wsV RL 35 RX6 yX6_learn wsX6_learn) := goodIn_app (goodIn_of _ (by decide +kernel)) ggL_law_X6_learn
set_option maxRecDepth 20000 in
theorem ggL_law_X7_learn : GoodIn wsL_law wsX7_learn := goodIn_r _ [407, 181, 182, 183, 5, 184, 101, 100, 408, 409, 410, 411, 302, 372, 373, 374, 375, 273, 274, 275, 276, 277, 278, 279, 280, 281, 282, 283, 284, 209, 210, 211, 212, 213, 214, 215, 216, 217, 218, 219, 220, 205, 206, 207, 208, 225, 226, 227, 228, 229, 230, 102, 798, 799, 800, 801, 802, 803, 804, 805, 806, 807, 808, 809, 810, 811] (by decide +kernel) (by decide +kernel)
set_option maxRecDepth 20000 in
theorem gL_law_X7_learn : GoodIn wsL_law (wsV RL 39 RX7 yX7_learn wsX7_learn) := goodIn_app (goodIn_of _ (by decide +kernel)) ggL_law_X7_learn
set_option maxRecDepth 20000 in
theorem ggL_law_X6_cut : GoodIn wsL_law wsX6_cut := goodIn_r _ [415, 19, 15, 112, 113, 114, 18, 115, 70, 69, 116, 117, 118, 119, 120, 2, 121, 122, 123, 14, 124, 36, 38, 39, 40, 41, 42, 43, 44, 45, 46, 47, 48, 49, 50, 51, 52, 53, 125, 126, 127, 30, 128, 57, 58, 59, 60, 61, 62, 63, 129, 130, 131, 132, 133, 134, 135, 136, 137, 138, 416, 417, 418, 419, 420, 421, 422, 423, 424, 240, 241, 242, 243, 244, 245, 246, 247, 248, 249, 250, 251, 252, 253, 254, 425, 260, 261, 262, 263, 339, 340, 341, 342, 161, 162, 163, 164, 165, 166, 167, 168, 151, 152, 169, 170, 171, 172, 110, 111, 426, 427, 428, 429, 430, 431, 432, 433, 323, 324, 325, 326, 327, 328, 329, 793, 794, 795, 796, 797, 829, 830, 812, 813, 814, 815, 816, 817, 818, 819, 820, 821, 822, 823, 824, 825, 826, 827, 828, 836, 837, 838, 839, 840, 841, 842] (by decide +kernel) (by decide +kernel)
set_option maxRecDepth 20000 in
theorem gL_law_X6_cut : GoodIn wsL_law (wsV RL 40 RX6 yX6_cut wsX6_cut) := goodIn_app (goodIn_of _ (by decide +kernel)) ggL_law_X6_cut
set_option maxRecDepth 20000 in
theorem ggL_law_X7_cut : GoodIn wsL_law wsX7_cut := goodIn_r _ [437, 181, 182, 183, 5, 184, 101, 100, 438, 439, 440, 441, 281, 282, 283, 284, 273, 274, 275, 276, 209, 210, 211, 212, 213, 214, 215, 216, 217, 218, 219, 220, 205, 206, 207, 208, 225, 226, 227, 228, 229, 230, 102, 798, 799, 800, 801, 802, 803, 804, 805, 806, 807, 808, 809, 810, 811] (by decide +kernel) (by decide +kernel)
set_option maxRecDepth 20000 in
theorem gL_law_X7_cut : GoodIn wsL_law (wsV RL 43 RX7 yX7_cut wsX7_cut) := goodIn_app (goodIn_of _ (by decide +kernel)) ggL_law_X7_cut
set_option maxRecDepth 20000 in
theorem ggL_law_X6_set : GoodIn wsL_law wsX6_set := goodIn_r _ [445, 446, 447, 108, 19, 15, 397, 448, 449, 2, 450, 235, 120, 121, 112, 113, 114, 18, 115, 70, 69, 116, 117, 118, 119, 122, 123, 14, 124, 36, 38, 39, 40, 41, 42, 43, 44, 45, 46, 47, 48, 49, 50, 51, 52, 53, 125, 126, 127, 30, 128, 57, 58, 59, 60, 61, 62, 63, 129, 130, 131, 132, 133, 134, 135, 136, 137, 138, 451, 452, 453, 454, 455, 456, 457, 458, 793, 794, 795, 796, 797, 812, 813, 814, 815, 816, 817, 818, 819, 820, 821, 822, 823, 824, 825, 826, 827, 828, 829, 830, 836, 837, 838, 839, 840, 841, 842] (by decide +kernel) (by decide +kernel)
set_option maxRecDepth 20000 in
theorem gL_law_X6_set : GoodIn wsL_law (wsV RL 44 RX6 yX6_set wsX6_set) := goodIn_app (goodIn_of _ (by decide +kernel)) ggL_law_X6_set
set_option maxRecDepth 20000 in
theorem ggL_law_X7_set : GoodIn wsL_law wsX7_set := goodIn_r _ [462, 181, 182, 183, 5, 184, 101, 100, 463, 464, 465, 466, 467, 468, 189, 194, 195, 196, 225, 226, 227, 228, 229, 230, 102, 798, 799, 800, 801, 802, 803, 804, 805, 806, 807, 808, 809, 810, 811] (by decide +kernel) (by decide +kernel)
set_option maxRecDepth 20000 in
theorem gL_law_X7_set : GoodIn wsL_law (wsV RL 47 RX7 yX7_set wsX7_set) := goodIn_app (goodIn_of _ (by decide +kernel)) ggL_law_X7_set
set_option maxRecDepth 20000 in
theorem ggL_law_X6_lineOf : GoodIn wsL_law wsX6_lineOf := goodIn_r _ [472, 108, 15, 289, 473, 474, 475, 476, 291, 151, 2, 152, 235, 120, 121, 477, 478, 479, 14, 480, 40, 43, 793, 794, 795, 796, 797, 812, 813, 814, 815, 816, 817, 818, 819, 820, 821, 822, 823, 824, 825, 826, 827, 828] (by decide +kernel) (by decide +kernel)
set_option maxRecDepth 20000 in
theorem gL_law_X6_lineOf : GoodIn wsL_law (wsV RL 48 RX6 yX6_lineOf wsX6_lineOf) := goodIn_app (goodIn_of _ (by decide +kernel)) ggL_law_X6_lineOf
set_option maxRecDepth 20000 in
theorem ggL_law_X7_lineOf : GoodIn wsL_law wsX7_lineOf := goodIn_r _ [484, 485, 189, 100, 486, 303, 304, 5, 305, 306, 194, 195, 196, 487, 488, 489, 490, 798, 799, 800, 801, 802, 803, 804, 805, 806, 807, 808, 809, 810, 811] (by decide +kernel) (by decide +kernel)
set_option maxRecDepth 20000 in
theorem gL_law_X7_lineOf : GoodIn wsL_law (wsV RL 51 RX7 yX7_lineOf wsX7_lineOf) := goodIn_app (goodIn_of _ (by decide +kernel)) ggL_law_X7_lineOf
set_option maxRecDepth 20000 in
theorem ggL_law_X6_placeOf : GoodIn wsL_law wsX6_placeOf := goodIn_r _ [494, 108, 15, 495, 475, 473, 496, 109, 110, 2, 111, 235, 120, 121, 497, 148, 149, 14, 150, 40, 41, 291, 151, 152, 793, 794, 795, 796, 797, 812, 813, 814, 815, 816, 817, 818, 819, 820, 821, 822, 823, 824, 825, 826, 827, 828] (by decide +kernel) (by decide +kernel)
set_option maxRecDepth 20000 in
theorem gL_law_X6_placeOf : GoodIn wsL_law (wsV RL 52 RX6 yX6_placeOf wsX6_placeOf) := goodIn_app (goodIn_of _ (by decide +kernel)) ggL_law_X6_placeOf
set_option maxRecDepth 20000 in
theorem ggL_law_X7_placeOf : GoodIn wsL_law wsX7_placeOf := goodIn_r _ [501, 502, 189, 100, 486, 190, 191, 5, 192, 193, 194, 195, 196, 201, 202, 203, 204, 798, 799, 800, 801, 802, 803, 804, 805, 806, 807, 808, 809, 810, 811] (by decide +kernel) (by decide +kernel)
set_option maxRecDepth 20000 in
theorem gL_law_X7_placeOf : GoodIn wsL_law (wsV RL 55 RX7 yX7_placeOf wsX7_placeOf) := goodIn_app (goodIn_of _ (by decide +kernel)) ggL_law_X7_placeOf
set_option maxRecDepth 20000 in
theorem ggL_law_X6_battery : GoodIn wsL_law wsX6_battery := goodIn_r _ [506, 15, 397, 507, 508, 398, 108, 509, 331, 332, 30, 333, 58, 510, 256, 257, 258, 59, 259, 260, 261, 262, 57, 61, 60, 263, 132, 133, 134, 511, 421, 422, 14, 423, 36, 424, 240, 241, 242, 243, 244, 245, 246, 247, 40, 248, 249, 250, 251, 252, 253, 254, 425, 793, 794, 795, 796, 797, 812, 813, 814, 815, 816, 817, 818, 819, 820, 821, 822, 823, 824, 825, 826, 827, 828, 836, 837, 838, 839, 840, 841, 842] (by decide +kernel) (by decide +kernel)
set_option maxRecDepth 20000 in
theorem gL_law_X6_battery : GoodIn wsL_law (wsV RL 56 RX6 yX6_battery wsX6_battery) := goodIn_app (goodIn_of _ (by decide +kernel)) ggL_law_X6_battery
set_option maxRecDepth 20000 in
theorem ggL_law_X7_battery : GoodIn wsL_law wsX7_battery := goodIn_r _ [515, 100, 189, 368, 369, 370, 5, 371, 277, 278, 279, 280, 281, 282, 283, 284, 516, 517, 518, 519, 273, 274, 275, 276, 798, 799, 800, 801, 802, 803, 804, 805, 806, 807, 808, 809, 810, 811] (by decide +kernel) (by decide +kernel)
set_option maxRecDepth 20000 in
theorem gL_law_X7_battery : GoodIn wsL_law (wsV RL 59 RX7 yX7_battery wsX7_battery) := goodIn_app (goodIn_of _ (by decide +kernel)) ggL_law_X7_battery
set_option maxRecDepth 20000 in
theorem ggL_law_X6_lines : GoodIn wsL_law wsX6_lines := goodIn_r _ [523, 15, 108, 524, 245, 246, 14, 247, 40, 525, 526, 527, 528, 420, 421, 422, 423, 36, 424, 132, 133, 134, 240, 241, 242, 243, 244, 248, 249, 250, 251, 252, 253, 254, 425, 260, 261, 30, 262, 57, 61, 60, 263, 529, 478, 479, 480, 43, 151, 2, 152, 793, 794, 795, 796, 797, 812, 813, 814, 815, 816, 817, 818, 819, 820, 821, 822, 823, 824, 825, 826, 827, 828, 836, 837, 838, 839, 840, 841, 842] (by decide +kernel) (by decide +kernel)
set_option maxRecDepth 20000 in
theorem gL_law_X6_lines : GoodIn wsL_law (wsV RL 60 RX6 yX6_lines wsX6_lines) := goodIn_app (goodIn_of _ (by decide +kernel)) ggL_law_X6_lines
set_option maxRecDepth 20000 in
theorem ggL_law_X7_lines : GoodIn wsL_law wsX7_lines := goodIn_r _ [533, 502, 189, 194, 195, 5, 196, 534, 535, 536, 537, 100, 538, 539, 540, 541, 516, 517, 518, 519, 281, 282, 283, 284, 273, 274, 275, 276, 542, 543, 544, 545, 798, 799, 800, 801, 802, 803, 804, 805, 806, 807, 808, 809, 810, 811] (by decide +kernel) (by decide +kernel)
set_option maxRecDepth 20000 in
theorem gL_law_X7_lines : GoodIn wsL_law (wsV RL 63 RX7 yX7_lines wsX7_lines) := goodIn_app (goodIn_of _ (by decide +kernel)) ggL_law_X7_lines
set_option maxRecDepth 20000 in
theorem ggL_law_X6_wouldFlush : GoodIn wsL_law wsX6_wouldFlush := goodIn_r _ [549, 108, 31, 15, 397, 550, 328, 133, 329, 235, 120, 2, 121, 551, 126, 127, 30, 128, 57, 58, 59, 60, 61, 62, 63, 552, 324, 325, 326, 327, 293, 241, 242, 14, 243, 244, 245, 246, 247, 40, 248, 249, 250, 251, 252, 253, 254, 510, 256, 257, 258, 259, 260, 261, 262, 263, 132, 134, 793, 794, 795, 796, 797, 812, 813, 814, 815, 816, 817, 818, 819, 820, 821, 822, 823, 824, 825, 826, 827, 828, 836, 837, 838, 839, 840, 841, 842] (by decide +kernel) (by decide +kernel)
set_option maxRecDepth 20000 in
theorem gL_law_X6_wouldFlush : GoodIn wsL_law (wsV RL 64 RX6 yX6_wouldFlush wsX6_wouldFlush) := goodIn_app (goodIn_of _ (by decide +kernel)) ggL_law_X6_wouldFlush
set_option maxRecDepth 20000 in
theorem ggL_law_X7_wouldFlush : GoodIn wsL_law wsX7_wouldFlush := goodIn_r _ [556, 181, 182, 183, 5, 184, 101, 100, 389, 390, 391, 392, 272, 189, 194, 195, 196, 360, 361, 362, 363, 372, 373, 374, 375, 273, 274, 275, 276, 277, 278, 279, 280, 281, 282, 283, 284, 209, 210, 211, 212, 213, 214, 215, 216, 217, 218, 219, 220, 205, 206, 207, 208, 557, 558, 559, 560, 798, 799, 800, 801, 802, 803, 804, 805, 806, 807, 808, 809, 810, 811] (by decide +kernel) (by decide +kernel)
set_option maxRecDepth 20000 in
theorem gL_law_X7_wouldFlush : GoodIn wsL_law (wsV RL 67 RX7 yX7_wouldFlush wsX7_wouldFlush) := goodIn_app (goodIn_of _ (by decide +kernel)) ggL_law_X7_wouldFlush
set_option maxRecDepth 20000 in
theorem ggL_law_X6_critical : GoodIn wsL_law wsX6_critical := goodIn_r _ [564, 15, 397, 507, 550, 328, 133, 329, 473, 293, 241, 242, 14, 243, 244, 245, 246, 247, 40, 248, 249, 250, 251, 252, 253, 254, 565, 431, 432, 30, 433, 61, 60, 793, 794, 795, 796, 797, 812, 813, 814, 815, 816, 817, 818, 819, 820, 821, 822, 823, 824, 825, 826, 827, 828, 836, 837, 838, 839, 840, 841, 842] (by decide +kernel) (by decide +kernel)
set_option maxRecDepth 20000 in
theorem gL_law_X6_critical : GoodIn wsL_law (wsV RL 68 RX6 yX6_critical wsX6_critical) := goodIn_app (goodIn_of _ (by decide +kernel)) ggL_law_X6_critical
set_option maxRecDepth 20000 in
theorem ggL_law_X7_critical : GoodIn wsL_law wsX7_critical := goodIn_r _ [569, 486, 570, 554, 555, 5, 556, 181, 182, 183, 184, 101, 100, 389, 390, 391, 392, 272, 189, 194, 195, 196, 360, 361, 362, 363, 372, 373, 374, 375, 273, 274, 275, 276, 277, 278, 279, 280, 281, 282, 283, 284, 209, 210, 211, 212, 213, 214, 215, 216, 217, 218, 219, 220, 205, 206, 207, 208, 557, 558, 559, 560, 798, 799, 800, 801, 802, 803, 804, 805, 806, 807, 808, 809, 810, 811] (by decide +kernel) (by decide +kernel)
set_option maxRecDepth 20000 in
theorem gL_law_X7_critical : GoodIn wsL_law (wsV RL 71 RX7 yX7_critical wsX7_critical) := goodIn_app (goodIn_of _ (by decide +kernel)) ggL_law_X7_critical
set_option maxRecDepth 20000 in
theorem ggL_law_X6_ticksUntil : GoodIn wsL_law wsX6_ticksUntil := goodIn_r _ [574, 108, 31, 15, 397, 473, 235, 120, 2, 121, 551, 126, 127, 30, 128, 57, 58, 59, 60, 61, 62, 63, 510, 256, 257, 258, 259, 260, 261, 262, 263, 132, 133, 134, 575, 316, 317, 318, 319, 320, 321, 322, 323, 324, 325, 326, 327, 328, 329, 330, 331, 332, 333, 793, 794, 795, 796, 797, 812, 813, 814, 815, 816, 817, 818, 819, 820, 821, 822, 823, 824, 825, 826, 827, 828, 836, 837, 838, 839, 840, 841, 842] (by decide +kernel) (by decide +kernel)
set_option maxRecDepth 20000 in
theorem gL_law_X6_ticksUntil : GoodIn wsL_law (wsV RL 72 RX6 yX6_ticksUntil wsX6_ticksUntil) := goodIn_app (goodIn_of _ (by decide +kernel)) ggL_law_X6_ticksUntil
set_option maxRecDepth 20000 in
theorem ggL_law_X7_ticksUntil : GoodIn wsL_law wsX7_ticksUntil := goodIn_r _ [579, 580, 189, 486, 194, 195, 5, 196, 181, 182, 183, 184, 101, 100, 277, 278, 279, 280, 281, 282, 283, 284, 352, 353, 354, 355, 205, 206, 207, 208, 356, 357, 358, 359, 360, 361, 362, 363, 364, 365, 366, 367, 368, 369, 370, 371, 372, 373, 374, 375, 273, 274, 275, 276, 209, 210, 211, 212, 213, 214, 215, 216, 217, 218, 219, 220, 557, 558, 559, 560, 798, 799, 800, 801, 802, 803, 804, 805, 806, 807, 808, 809, 810, 811] (by decide +kernel) (by decide +kernel)
set_option maxRecDepth 20000 in
theorem gL_law_X7_ticksUntil : GoodIn wsL_law (wsV RL 75 RX7 yX7_ticksUntil wsX7_ticksUntil) := goodIn_app (goodIn_of _ (by decide +kernel)) ggL_law_X7_ticksUntil
set_option maxRecDepth 20000 in
theorem ggL_law_X6_pair : GoodIn wsL_law wsX6_pair := goodIn_r _ [584, 108, 15, 473, 235, 120, 2, 121, 585, 586, 587, 14, 588, 40, 43, 589, 590, 591, 592, 41, 593, 594, 133, 595, 424, 132, 134, 151, 152, 291, 596, 793, 794, 795, 796, 797, 812, 813, 814, 815, 816, 817, 818, 819, 820, 821, 822, 823, 824, 825, 826, 827, 828] (by decide +kernel) (by decide +kernel)
set_option maxRecDepth 20000 in
theorem gL_law_X6_pair : GoodIn wsL_law (wsV RL 76 RX6 yX6_pair wsX6_pair) := goodIn_app (goodIn_of _ (by decide +kernel)) ggL_law_X6_pair
set_option maxRecDepth 20000 in
theorem ggL_law_X7_pair : GoodIn wsL_law wsX7_pair := goodIn_r _ [600, 189, 486, 100, 194, 195, 5, 196, 273, 274, 275, 276, 601, 602, 603, 604, 605, 606, 607, 608, 798, 799, 800, 801, 802, 803, 804, 805, 806, 807, 808, 809, 810, 811] (by decide +kernel) (by decide +kernel)
set_option maxRecDepth 20000 in
theorem gL_law_X7_pair : GoodIn wsL_law (wsV RL 79 RX7 yX7_pair wsX7_pair) := goodIn_app (goodIn_of _ (by decide +kernel)) ggL_law_X7_pair
set_option maxRecDepth 20000 in
theorem ggL_law_X6_count : GoodIn wsL_law wsX6_count := goodIn_r _ [612, 15, 613, 614, 615, 616, 617, 618, 619, 620, 621, 19, 622, 23, 623, 397, 108, 448, 449, 2, 450, 451, 452, 453, 30, 454, 60, 61, 62, 63, 793, 794, 795, 796, 797, 812, 813, 814, 815, 816, 817, 818, 819, 820, 821, 822, 823, 824, 825, 826, 827, 828, 829, 830, 831, 832, 836, 837, 838, 839, 840, 841, 842] (by decide +kernel) (by decide +kernel)
set_option maxRecDepth 20000 in
theorem gL_law_X6_count : GoodIn wsL_law (wsV RL 80 RX6 yX6_count wsX6_count) := goodIn_app (goodIn_of _ (by decide +kernel)) ggL_law_X6_count
set_option maxRecDepth 20000 in
theorem ggL_law_X7_count : GoodIn wsL_law wsX7_count := goodIn_r _ [627, 580, 100, 230, 628, 629, 630, 189, 194, 195, 5, 196, 798, 799, 800, 801, 802, 803, 804, 805, 806, 807, 808, 809, 810, 811] (by decide +kernel) (by decide +kernel)
set_option maxRecDepth 20000 in
theorem gL_law_X7_count : GoodIn wsL_law (wsV RL 83 RX7 yX7_count wsX7_count) := goodIn_app (goodIn_of _ (by decide +kernel)) ggL_law_X7_count
set_option maxRecDepth 20000 in
theorem ggL_law_X6_undo : GoodIn wsL_law wsX6_undo := goodIn_r _ [634, 19, 622, 290, 15, 635, 636, 637, 18, 638, 70, 69, 120, 2, 121, 122, 123, 14, 124, 36, 38, 39, 40, 41, 42, 43, 44, 45, 46, 47, 48, 49, 50, 51, 52, 53, 125, 126, 127, 30, 128, 57, 58, 59, 60, 61, 62, 63, 129, 130, 131, 132, 133, 134, 135, 136, 137, 138, 793, 794, 795, 796, 797, 829, 830, 812, 813, 814, 815, 816, 817, 818, 819, 820, 821, 822, 823, 824, 825, 826, 827, 828, 836, 837, 838, 839, 840, 841, 842] (by decide +kernel) (by decide +kernel)
set_option maxRecDepth 20000 in
theorem gL_law_X6_undo : GoodIn wsL_law (wsV RL 84 RX6 yX6_undo wsX6_undo) := goodIn_app (goodIn_of _ (by decide +kernel)) ggL_law_X6_undo
set_option maxRecDepth 20000 in
theorem ggL_law_X7_undo : GoodIn wsL_law wsX7_undo := goodIn_r _ [642, 230, 302, 100, 102, 798, 799, 800, 801, 802, 803, 804, 805, 806, 807, 808, 809, 810, 811] (by decide +kernel) (by decide +kernel)
set_option maxRecDepth 20000 in
theorem gL_law_X7_undo : GoodIn wsL_law (wsV RL 87 RX7 yX7_undo wsX7_undo) := goodIn_app (goodIn_of _ (by decide +kernel)) ggL_law_X7_undo
set_option maxRecDepth 20000 in
theorem ggL_law_X6_type : GoodIn wsL_law wsX6_type := goodIn_r _ [646, 108, 23, 623, 647, 235, 120, 2, 121, 648, 649, 650, 22, 651, 75, 74, 793, 794, 795, 796, 797, 831, 832] (by decide +kernel) (by decide +kernel)
set_option maxRecDepth 20000 in
theorem gL_law_X6_type : GoodIn wsL_law (wsV RL 88 RX6 yX6_type wsX6_type) := goodIn_app (goodIn_of _ (by decide +kernel)) ggL_law_X6_type
set_option maxRecDepth 20000 in
theorem ggL_law_X7_type : GoodIn wsL_law wsX7_type := goodIn_r _ [655, 656, 657, 189, 628, 658, 103, 194, 195, 5, 196, 798, 799, 800, 801, 802, 803, 804, 805, 806, 807, 808, 809, 810, 811] (by decide +kernel) (by decide +kernel)
set_option maxRecDepth 20000 in
theorem gL_law_X7_type : GoodIn wsL_law (wsV RL 91 RX7 yX7_type wsX7_type) := goodIn_app (goodIn_of _ (by decide +kernel)) ggL_law_X7_type
set_option maxRecDepth 20000 in
theorem ggL_law_X6_clearText : GoodIn wsL_law wsX6_clearText := goodIn_r _ [662, 23, 623, 793, 794, 795, 796, 797, 831, 832] (by decide +kernel) (by decide +kernel)
set_option maxRecDepth 20000 in
theorem gL_law_X6_clearText : GoodIn wsL_law (wsV RL 92 RX6 yX6_clearText wsX6_clearText) := goodIn_app (goodIn_of _ (by decide +kernel)) ggL_law_X6_clearText
set_option maxRecDepth 20000 in
theorem ggL_law_X7_clearText : GoodIn wsL_law wsX7_clearText := goodIn_r _ [666, 628, 798, 799, 800, 801, 802, 803, 804, 805, 806, 807, 808, 809, 810, 811] (by decide +kernel) (by decide +kernel)
set_option maxRecDepth 20000 in
theorem gL_law_X7_clearText : GoodIn wsL_law (wsV RL 95 RX7 yX7_clearText wsX7_clearText) := goodIn_app (goodIn_of _ (by decide +kernel)) ggL_law_X7_clearText
set_option maxRecDepth 20000 in
theorem ggL_law_X6_fault : GoodIn wsL_law wsX6_fault := goodIn_r _ [670, 108, 27, 23, 15, 671, 672, 473, 673, 674, 235, 120, 2, 121, 675, 676, 677, 26, 678, 80, 84, 85, 679, 680, 681, 682, 123, 14, 124, 36, 38, 39, 40, 41, 42, 43, 44, 45, 46, 47, 48, 49, 50, 51, 52, 53, 125, 126, 127, 30, 128, 57, 58, 59, 60, 61, 62, 63, 129, 130, 131, 132, 133, 134, 135, 136, 137, 138, 683, 684, 685, 83, 686, 90, 94, 687, 688, 689, 690, 89, 95, 92, 691, 692, 693, 694, 91, 695, 696, 697, 22, 698, 75, 74, 699, 700, 701, 702, 703, 704, 705, 706, 707, 708, 709, 710, 93, 711, 712, 713, 714, 110, 111, 715, 716, 717, 718, 719, 720, 721, 722, 723, 724, 725, 726, 727, 728, 140, 141, 142, 143, 144, 145, 146, 147, 148, 149, 150, 151, 152, 153, 154, 155, 156, 157, 158, 159, 160, 161, 162, 163, 164, 165, 166, 167, 168, 169, 170, 171, 172, 173, 174, 175, 176, 729, 237, 238, 239, 240, 241, 242, 243, 244, 245, 246, 247, 248, 249, 250, 251, 252, 253, 254, 255, 256, 257, 258, 259, 260, 261, 262, 263, 730, 312, 313, 314, 315, 316, 317, 318, 319, 320, 321, 322, 323, 324, 325, 326, 327, 328, 329, 330, 331, 332, 333, 334, 335, 336, 337, 338, 339, 340, 341, 342, 731, 381, 382, 383, 384, 732, 417, 418, 419, 420, 421, 422, 423, 424, 425, 426, 427, 428, 429, 430, 431, 432, 433, 733, 400, 401, 402, 403, 793, 794, 795, 796, 797, 833, 834, 835, 843, 844, 845, 846, 847, 848, 849, 831, 832, 812, 813, 814, 815, 816, 817, 818, 819, 820, 821, 822, 823, 824, 825, 826, 827, 828, 836, 837, 838, 839, 840, 841, 842] (by decide +kernel) (by decide +kernel)
set_option maxRecDepth 20000 in
theorem gL_law_X6_fault : GoodIn wsL_law (wsV RL 96 RX6 yX6_fault wsX6_fault) := goodIn_app (goodIn_of _ (by decide +kernel)) ggL_law_X6_fault
set_option maxRecDepth 20000 in
theorem ggL_law_X7_fault : GoodIn wsL_law wsX7_fault := goodIn_r _ [737, 738, 189, 486, 739, 740, 741, 194, 195, 5, 196, 181, 182, 183, 184, 101, 100, 742, 743, 744, 745, 746, 628, 747, 748, 229, 749, 750, 751, 752, 103, 753, 754, 755, 756, 757, 758, 759, 760, 761, 762, 763, 764, 765, 766, 767, 768, 769, 770, 771, 772, 773, 774, 775, 776, 777, 351, 272, 190, 191, 192, 193, 778, 779, 780, 781, 185, 186, 187, 188, 197, 198, 199, 200, 201, 202, 203, 204, 205, 206, 207, 208, 209, 210, 211, 212, 213, 214, 215, 216, 217, 218, 219, 220, 221, 222, 223, 224, 268, 269, 270, 271, 273, 274, 275, 276, 277, 278, 279, 280, 281, 282, 283, 284, 347, 348, 349, 350, 352, 353, 354, 355, 356, 357, 358, 359, 360, 361, 362, 363, 364, 365, 366, 367, 368, 369, 370, 371, 372, 373, 374, 375, 389, 390, 391, 392, 438, 439, 440, 441, 408, 409, 410, 411, 302, 557, 558, 559, 560, 798, 799, 800, 801, 802, 803, 804, 805, 806, 807, 808, 809, 810, 811] (by decide +kernel) (by decide +kernel)
set_option maxRecDepth 20000 in
theorem gL_law_X7_fault : GoodIn wsL_law (wsV RL 99 RX7 yX7_fault wsX7_fault) := goodIn_app (goodIn_of _ (by decide +kernel)) ggL_law_X7_fault
set_option maxRecDepth 20000 in
theorem ggL_law_X6_play : GoodIn wsL_law wsX6_play := goodIn_r _ [785, 27, 23, 15, 671, 672, 290, 19, 786, 787, 675, 676, 677, 26, 678, 80, 84, 85, 679, 680, 681, 682, 123, 14, 124, 36, 38, 39, 40, 41, 42, 43, 44, 45, 46, 47, 48, 49, 50, 51, 52, 53, 125, 126, 127, 30, 128, 57, 58, 59, 60, 61, 62, 63, 129, 2, 130, 131, 132, 133, 134, 135, 136, 137, 138, 683, 684, 685, 83, 686, 90, 94, 687, 688, 689, 690, 89, 95, 92, 691, 692, 693, 694, 91, 695, 696, 697, 22, 698, 75, 74, 699, 700, 701, 702, 120, 121, 703, 704, 705, 706, 707, 708, 709, 710, 93, 711, 712, 713, 714, 110, 111, 715, 716, 717, 718, 719, 720, 721, 722, 723, 724, 725, 726, 727, 728, 140, 141, 142, 143, 144, 145, 146, 147, 148, 149, 150, 151, 152, 153, 154, 155, 156, 157, 158, 159, 160, 161, 162, 163, 164, 165, 166, 167, 168, 169, 170, 171, 172, 173, 174, 175, 176, 729, 237, 238, 239, 240, 241, 242, 243, 244, 245, 246, 247, 248, 249, 250, 251, 252, 253, 254, 255, 256, 257, 258, 259, 260, 261, 262, 263, 730, 312, 313, 314, 315, 316, 317, 318, 319, 320, 321, 322, 323, 324, 325, 326, 327, 328, 329, 330, 331, 332, 333, 334, 335, 336, 337, 338, 339, 340, 341, 342, 731, 381, 382, 383, 384, 732, 417, 418, 419, 420, 421, 422, 423, 424, 425, 426, 427, 428, 429, 430, 431, 432, 433, 733, 400, 401, 402, 403, 112, 113, 114, 18, 115, 70, 69, 116, 117, 118, 119, 122, 788, 793, 794, 795, 796, 797, 833, 834, 835, 843, 844, 845, 846, 847, 848, 849, 831, 832, 812, 813, 814, 815, 816, 817, 818, 819, 820, 821, 822, 823, 824, 825, 826, 827, 828, 836, 837, 838, 839, 840, 841, 842, 829, 830] (by decide +kernel) (by decide +kernel)
set_option maxRecDepth 20000 in
theorem gL_law_X6_play : GoodIn wsL_law (wsV RL 100 RX6 yX6_play wsX6_play) := goodIn_app (goodIn_of _ (by decide +kernel)) ggL_law_X6_play
set_option maxRecDepth 20000 in
theorem ggL_law_X7_play : GoodIn wsL_law wsX7_play := goodIn_r _ [792, 302, 746, 181, 182, 183, 5, 184, 101, 100, 742, 743, 744, 745, 739, 628, 747, 748, 229, 486, 749, 750, 751, 752, 103, 753, 754, 755, 756, 757, 758, 759, 760, 761, 762, 763, 764, 765, 194, 195, 196, 766, 767, 768, 769, 770, 771, 772, 773, 740, 741, 774, 775, 776, 777, 351, 272, 190, 191, 192, 193, 778, 779, 780, 781, 185, 186, 187, 188, 189, 197, 198, 199, 200, 201, 202, 203, 204, 205, 206, 207, 208, 209, 210, 211, 212, 213, 214, 215, 216, 217, 218, 219, 220, 221, 222, 223, 224, 268, 269, 270, 271, 273, 274, 275, 276, 277, 278, 279, 280, 281, 282, 283, 284, 347, 348, 349, 350, 352, 353, 354, 355, 356, 357, 358, 359, 360, 361, 362, 363, 364, 365, 366, 367, 368, 369, 370, 371, 372, 373, 374, 375, 389, 390, 391, 392, 438, 439, 440, 441, 408, 409, 410, 411, 557, 558, 559, 560, 225, 226, 227, 228, 230, 102, 798, 799, 800, 801, 802, 803, 804, 805, 806, 807, 808, 809, 810, 811] (by decide +kernel) (by decide +kernel)
set_option maxRecDepth 20000 in
theorem gL_law_X7_play : GoodIn wsL_law (wsV RL 103 RX7 yX7_play wsX7_play) := goodIn_app (goodIn_of _ (by decide +kernel)) ggL_law_X7_play
theorem dL_law_0 : decode cL_law 0 = .ok (.new 7, 3) := by decide +kernel
theorem dL_law_3 : decode cL_law 3 = .ok (.dup, 1) := by decide +kernel
theorem dL_law_4 : decode cL_law 4 = .ok (.invokespecial 9, 3) := by decide +kernel
theorem dL_law_7 : decode cL_law 7 = .ok (.astore_n 1, 1) := by decide +kernel
theorem dL_law_8 : decode cL_law 8 = .ok (.new 10, 3) := by decide +kernel
theorem dL_law_11 : decode cL_law 11 = .ok (.dup, 1) := by decide +kernel
theorem dL_law_12 : decode cL_law 12 = .ok (.invokespecial 12, 3) := by decide +kernel
theorem dL_law_15 : decode cL_law 15 = .ok (.astore_n 2, 1) := by decide +kernel
theorem dL_law_16 : decode cL_law 16 = .ok (.iconst 0, 1) := by decide +kernel
theorem dL_law_17 : decode cL_law 17 = .ok (.istore_n 3, 1) := by decide +kernel
theorem dL_law_18 : decode cL_law 18 = .ok (.iload_n 3, 1) := by decide +kernel
theorem dL_law_19 : decode cL_law 19 = .ok (.aload_n 0, 1) := by decide +kernel
theorem dL_law_20 : decode cL_law 20 = .ok (.arraylength, 1) := by decide +kernel
theorem dL_law_21 : decode cL_law 21 = .ok (.iconst 3, 1) := by decide +kernel
theorem dL_law_22 : decode cL_law 22 = .ok (.isub, 1) := by decide +kernel
theorem dL_law_23 : decode cL_law 23 = .ok (.if_icmp .gt 605, 3) := by decide +kernel
theorem dL_law_26 : decode cL_law 26 = .ok (.aload_n 0, 1) := by decide +kernel
theorem dL_law_27 : decode cL_law 27 = .ok (.iload_n 3, 1) := by decide +kernel
theorem dL_law_28 : decode cL_law 28 = .ok (.iaload, 1) := by decide +kernel
theorem dL_law_29 : decode cL_law 29 = .ok (.bipush 31, 2) := by decide +kernel
theorem dL_law_31 : decode cL_law 31 = .ok (.iand, 1) := by decide +kernel
theorem dL_law_32 : decode cL_law 32 = .ok (.tableswitch 590 0 21 #[104, 127, 160, 183, 206, 229, 242, 255, 288, 321, 354, 377, 400, 423, 436, 459, 482, 505, 518, 541, 554, 577], 104) := by decide +kernel
theorem dL_law_136 : decode cL_law 136 = .ok (.aload_n 1, 1) := by decide +kernel
theorem dL_law_137 : decode cL_law 137 = .ok (.aload_n 0, 1) := by decide +kernel
theorem dL_law_138 : decode cL_law 138 = .ok (.iload_n 3, 1) := by decide +kernel
theorem dL_law_139 : decode cL_law 139 = .ok (.iconst 1, 1) := by decide +kernel
theorem dL_law_140 : decode cL_law 140 = .ok (.iadd, 1) := by decide +kernel
theorem dL_law_141 : decode cL_law 141 = .ok (.iaload, 1) := by decide +kernel
theorem dL_law_142 : decode cL_law 142 = .ok (.invokevirtual 13, 3) := by decide +kernel
theorem dL_law_145 : decode cL_law 145 = .ok (.aload_n 2, 1) := by decide +kernel
theorem dL_law_146 : decode cL_law 146 = .ok (.aload_n 0, 1) := by decide +kernel
theorem dL_law_147 : decode cL_law 147 = .ok (.iload_n 3, 1) := by decide +kernel
theorem dL_law_148 : decode cL_law 148 = .ok (.iconst 1, 1) := by decide +kernel
theorem dL_law_149 : decode cL_law 149 = .ok (.iadd, 1) := by decide +kernel
theorem dL_law_150 : decode cL_law 150 = .ok (.iaload, 1) := by decide +kernel
theorem dL_law_151 : decode cL_law 151 = .ok (.invokevirtual 17, 3) := by decide +kernel
theorem dL_law_154 : decode cL_law 154 = .ok (.if_icmp .eq 468, 3) := by decide +kernel
theorem dL_law_157 : decode cL_law 157 = .ok (.iconst 0, 1) := by decide +kernel
theorem dL_law_158 : decode cL_law 158 = .ok (.ireturn, 1) := by decide +kernel
theorem dL_law_159 : decode cL_law 159 = .ok (.aload_n 1, 1) := by decide +kernel
theorem dL_law_160 : decode cL_law 160 = .ok (.aload_n 0, 1) := by decide +kernel
theorem dL_law_161 : decode cL_law 161 = .ok (.iload_n 3, 1) := by decide +kernel
theorem dL_law_162 : decode cL_law 162 = .ok (.iconst 1, 1) := by decide +kernel
theorem dL_law_163 : decode cL_law 163 = .ok (.iadd, 1) := by decide +kernel
theorem dL_law_164 : decode cL_law 164 = .ok (.iaload, 1) := by decide +kernel
theorem dL_law_165 : decode cL_law 165 = .ok (.aload_n 0, 1) := by decide +kernel
theorem dL_law_166 : decode cL_law 166 = .ok (.iload_n 3, 1) := by decide +kernel
theorem dL_law_167 : decode cL_law 167 = .ok (.iconst 2, 1) := by decide +kernel
theorem dL_law_168 : decode cL_law 168 = .ok (.iadd, 1) := by decide +kernel
theorem dL_law_169 : decode cL_law 169 = .ok (.iaload, 1) := by decide +kernel
theorem dL_law_170 : decode cL_law 170 = .ok (.invokevirtual 18, 3) := by decide +kernel
theorem dL_law_173 : decode cL_law 173 = .ok (.aload_n 2, 1) := by decide +kernel
theorem dL_law_174 : decode cL_law 174 = .ok (.aload_n 0, 1) := by decide +kernel
theorem dL_law_175 : decode cL_law 175 = .ok (.iload_n 3, 1) := by decide +kernel
theorem dL_law_176 : decode cL_law 176 = .ok (.iconst 1, 1) := by decide +kernel
theorem dL_law_177 : decode cL_law 177 = .ok (.iadd, 1) := by decide +kernel
theorem dL_law_178 : decode cL_law 178 = .ok (.iaload, 1) := by decide +kernel
theorem dL_law_179 : decode cL_law 179 = .ok (.aload_n 0, 1) := by decide +kernel
theorem dL_law_180 : decode cL_law 180 = .ok (.iload_n 3, 1) := by decide +kernel
theorem dL_law_181 : decode cL_law 181 = .ok (.iconst 2, 1) := by decide +kernel
theorem dL_law_182 : decode cL_law 182 = .ok (.iadd, 1) := by decide +kernel
theorem dL_law_183 : decode cL_law 183 = .ok (.iaload, 1) := by decide +kernel
theorem dL_law_184 : decode cL_law 184 = .ok (.invokevirtual 22, 3) := by decide +kernel
theorem dL_law_187 : decode cL_law 187 = .ok (.if_icmp .eq 435, 3) := by decide +kernel
theorem dL_law_190 : decode cL_law 190 = .ok (.iconst 0, 1) := by decide +kernel
theorem dL_law_191 : decode cL_law 191 = .ok (.ireturn, 1) := by decide +kernel
theorem dL_law_192 : decode cL_law 192 = .ok (.aload_n 1, 1) := by decide +kernel
theorem dL_law_193 : decode cL_law 193 = .ok (.aload_n 0, 1) := by decide +kernel
theorem dL_law_194 : decode cL_law 194 = .ok (.iload_n 3, 1) := by decide +kernel
theorem dL_law_195 : decode cL_law 195 = .ok (.iconst 1, 1) := by decide +kernel
theorem dL_law_196 : decode cL_law 196 = .ok (.iadd, 1) := by decide +kernel
theorem dL_law_197 : decode cL_law 197 = .ok (.iaload, 1) := by decide +kernel
theorem dL_law_198 : decode cL_law 198 = .ok (.invokevirtual 23, 3) := by decide +kernel
theorem dL_law_201 : decode cL_law 201 = .ok (.aload_n 2, 1) := by decide +kernel
theorem dL_law_202 : decode cL_law 202 = .ok (.aload_n 0, 1) := by decide +kernel
theorem dL_law_203 : decode cL_law 203 = .ok (.iload_n 3, 1) := by decide +kernel
theorem dL_law_204 : decode cL_law 204 = .ok (.iconst 1, 1) := by decide +kernel
theorem dL_law_205 : decode cL_law 205 = .ok (.iadd, 1) := by decide +kernel
theorem dL_law_206 : decode cL_law 206 = .ok (.iaload, 1) := by decide +kernel
theorem dL_law_207 : decode cL_law 207 = .ok (.invokevirtual 26, 3) := by decide +kernel
theorem dL_law_210 : decode cL_law 210 = .ok (.if_icmp .eq 412, 3) := by decide +kernel
theorem dL_law_213 : decode cL_law 213 = .ok (.iconst 0, 1) := by decide +kernel
theorem dL_law_214 : decode cL_law 214 = .ok (.ireturn, 1) := by decide +kernel
theorem dL_law_215 : decode cL_law 215 = .ok (.aload_n 1, 1) := by decide +kernel
theorem dL_law_216 : decode cL_law 216 = .ok (.aload_n 0, 1) := by decide +kernel
theorem dL_law_217 : decode cL_law 217 = .ok (.iload_n 3, 1) := by decide +kernel
theorem dL_law_218 : decode cL_law 218 = .ok (.iconst 1, 1) := by decide +kernel
theorem dL_law_219 : decode cL_law 219 = .ok (.iadd, 1) := by decide +kernel
theorem dL_law_220 : decode cL_law 220 = .ok (.iaload, 1) := by decide +kernel
theorem dL_law_221 : decode cL_law 221 = .ok (.invokevirtual 27, 3) := by decide +kernel
theorem dL_law_224 : decode cL_law 224 = .ok (.aload_n 2, 1) := by decide +kernel
theorem dL_law_225 : decode cL_law 225 = .ok (.aload_n 0, 1) := by decide +kernel
theorem dL_law_226 : decode cL_law 226 = .ok (.iload_n 3, 1) := by decide +kernel
theorem dL_law_227 : decode cL_law 227 = .ok (.iconst 1, 1) := by decide +kernel
theorem dL_law_228 : decode cL_law 228 = .ok (.iadd, 1) := by decide +kernel
theorem dL_law_229 : decode cL_law 229 = .ok (.iaload, 1) := by decide +kernel
theorem dL_law_230 : decode cL_law 230 = .ok (.invokevirtual 30, 3) := by decide +kernel
theorem dL_law_233 : decode cL_law 233 = .ok (.if_icmp .eq 389, 3) := by decide +kernel
theorem dL_law_236 : decode cL_law 236 = .ok (.iconst 0, 1) := by decide +kernel
theorem dL_law_237 : decode cL_law 237 = .ok (.ireturn, 1) := by decide +kernel
theorem dL_law_238 : decode cL_law 238 = .ok (.aload_n 1, 1) := by decide +kernel
theorem dL_law_239 : decode cL_law 239 = .ok (.aload_n 0, 1) := by decide +kernel
theorem dL_law_240 : decode cL_law 240 = .ok (.iload_n 3, 1) := by decide +kernel
theorem dL_law_241 : decode cL_law 241 = .ok (.iconst 1, 1) := by decide +kernel
theorem dL_law_242 : decode cL_law 242 = .ok (.iadd, 1) := by decide +kernel
theorem dL_law_243 : decode cL_law 243 = .ok (.iaload, 1) := by decide +kernel
theorem dL_law_244 : decode cL_law 244 = .ok (.invokevirtual 31, 3) := by decide +kernel
theorem dL_law_247 : decode cL_law 247 = .ok (.aload_n 2, 1) := by decide +kernel
theorem dL_law_248 : decode cL_law 248 = .ok (.aload_n 0, 1) := by decide +kernel
theorem dL_law_249 : decode cL_law 249 = .ok (.iload_n 3, 1) := by decide +kernel
theorem dL_law_250 : decode cL_law 250 = .ok (.iconst 1, 1) := by decide +kernel
theorem dL_law_251 : decode cL_law 251 = .ok (.iadd, 1) := by decide +kernel
theorem dL_law_252 : decode cL_law 252 = .ok (.iaload, 1) := by decide +kernel
theorem dL_law_253 : decode cL_law 253 = .ok (.invokevirtual 34, 3) := by decide +kernel
theorem dL_law_256 : decode cL_law 256 = .ok (.if_icmp .eq 366, 3) := by decide +kernel
theorem dL_law_259 : decode cL_law 259 = .ok (.iconst 0, 1) := by decide +kernel
theorem dL_law_260 : decode cL_law 260 = .ok (.ireturn, 1) := by decide +kernel
theorem dL_law_261 : decode cL_law 261 = .ok (.aload_n 1, 1) := by decide +kernel
theorem dL_law_262 : decode cL_law 262 = .ok (.invokevirtual 35, 3) := by decide +kernel
theorem dL_law_265 : decode cL_law 265 = .ok (.aload_n 2, 1) := by decide +kernel
theorem dL_law_266 : decode cL_law 266 = .ok (.invokevirtual 39, 3) := by decide +kernel
theorem dL_law_269 : decode cL_law 269 = .ok (.if_icmp .eq 353, 3) := by decide +kernel
theorem dL_law_272 : decode cL_law 272 = .ok (.iconst 0, 1) := by decide +kernel
theorem dL_law_273 : decode cL_law 273 = .ok (.ireturn, 1) := by decide +kernel
theorem dL_law_274 : decode cL_law 274 = .ok (.aload_n 1, 1) := by decide +kernel
theorem dL_law_275 : decode cL_law 275 = .ok (.invokevirtual 40, 3) := by decide +kernel
theorem dL_law_278 : decode cL_law 278 = .ok (.aload_n 2, 1) := by decide +kernel
theorem dL_law_279 : decode cL_law 279 = .ok (.invokevirtual 43, 3) := by decide +kernel
theorem dL_law_282 : decode cL_law 282 = .ok (.if_icmp .eq 340, 3) := by decide +kernel
theorem dL_law_285 : decode cL_law 285 = .ok (.iconst 0, 1) := by decide +kernel
theorem dL_law_286 : decode cL_law 286 = .ok (.ireturn, 1) := by decide +kernel
theorem dL_law_287 : decode cL_law 287 = .ok (.aload_n 1, 1) := by decide +kernel
theorem dL_law_288 : decode cL_law 288 = .ok (.aload_n 0, 1) := by decide +kernel
theorem dL_law_289 : decode cL_law 289 = .ok (.iload_n 3, 1) := by decide +kernel
theorem dL_law_290 : decode cL_law 290 = .ok (.iconst 1, 1) := by decide +kernel
theorem dL_law_291 : decode cL_law 291 = .ok (.iadd, 1) := by decide +kernel
theorem dL_law_292 : decode cL_law 292 = .ok (.iaload, 1) := by decide +kernel
theorem dL_law_293 : decode cL_law 293 = .ok (.aload_n 0, 1) := by decide +kernel
theorem dL_law_294 : decode cL_law 294 = .ok (.iload_n 3, 1) := by decide +kernel
theorem dL_law_295 : decode cL_law 295 = .ok (.iconst 2, 1) := by decide +kernel
theorem dL_law_296 : decode cL_law 296 = .ok (.iadd, 1) := by decide +kernel
theorem dL_law_297 : decode cL_law 297 = .ok (.iaload, 1) := by decide +kernel
theorem dL_law_298 : decode cL_law 298 = .ok (.invokevirtual 44, 3) := by decide +kernel
theorem dL_law_301 : decode cL_law 301 = .ok (.aload_n 2, 1) := by decide +kernel
theorem dL_law_302 : decode cL_law 302 = .ok (.aload_n 0, 1) := by decide +kernel
theorem dL_law_303 : decode cL_law 303 = .ok (.iload_n 3, 1) := by decide +kernel
theorem dL_law_304 : decode cL_law 304 = .ok (.iconst 1, 1) := by decide +kernel
theorem dL_law_305 : decode cL_law 305 = .ok (.iadd, 1) := by decide +kernel
theorem dL_law_306 : decode cL_law 306 = .ok (.iaload, 1) := by decide +kernel
theorem dL_law_307 : decode cL_law 307 = .ok (.aload_n 0, 1) := by decide +kernel
theorem dL_law_308 : decode cL_law 308 = .ok (.iload_n 3, 1) := by decide +kernel
theorem dL_law_309 : decode cL_law 309 = .ok (.iconst 2, 1) := by decide +kernel
theorem dL_law_310 : decode cL_law 310 = .ok (.iadd, 1) := by decide +kernel
theorem dL_law_311 : decode cL_law 311 = .ok (.iaload, 1) := by decide +kernel
theorem dL_law_312 : decode cL_law 312 = .ok (.invokevirtual 47, 3) := by decide +kernel
theorem dL_law_315 : decode cL_law 315 = .ok (.if_icmp .eq 307, 3) := by decide +kernel
theorem dL_law_318 : decode cL_law 318 = .ok (.iconst 0, 1) := by decide +kernel
theorem dL_law_319 : decode cL_law 319 = .ok (.ireturn, 1) := by decide +kernel
theorem dL_law_320 : decode cL_law 320 = .ok (.aload_n 1, 1) := by decide +kernel
theorem dL_law_321 : decode cL_law 321 = .ok (.aload_n 0, 1) := by decide +kernel
theorem dL_law_322 : decode cL_law 322 = .ok (.iload_n 3, 1) := by decide +kernel
theorem dL_law_323 : decode cL_law 323 = .ok (.iconst 1, 1) := by decide +kernel
theorem dL_law_324 : decode cL_law 324 = .ok (.iadd, 1) := by decide +kernel
theorem dL_law_325 : decode cL_law 325 = .ok (.iaload, 1) := by decide +kernel
theorem dL_law_326 : decode cL_law 326 = .ok (.aload_n 0, 1) := by decide +kernel
theorem dL_law_327 : decode cL_law 327 = .ok (.iload_n 3, 1) := by decide +kernel
theorem dL_law_328 : decode cL_law 328 = .ok (.iconst 2, 1) := by decide +kernel
theorem dL_law_329 : decode cL_law 329 = .ok (.iadd, 1) := by decide +kernel
theorem dL_law_330 : decode cL_law 330 = .ok (.iaload, 1) := by decide +kernel
theorem dL_law_331 : decode cL_law 331 = .ok (.invokevirtual 48, 3) := by decide +kernel
theorem dL_law_334 : decode cL_law 334 = .ok (.aload_n 2, 1) := by decide +kernel
theorem dL_law_335 : decode cL_law 335 = .ok (.aload_n 0, 1) := by decide +kernel
theorem dL_law_336 : decode cL_law 336 = .ok (.iload_n 3, 1) := by decide +kernel
theorem dL_law_337 : decode cL_law 337 = .ok (.iconst 1, 1) := by decide +kernel
theorem dL_law_338 : decode cL_law 338 = .ok (.iadd, 1) := by decide +kernel
theorem dL_law_339 : decode cL_law 339 = .ok (.iaload, 1) := by decide +kernel
theorem dL_law_340 : decode cL_law 340 = .ok (.aload_n 0, 1) := by decide +kernel
theorem dL_law_341 : decode cL_law 341 = .ok (.iload_n 3, 1) := by decide +kernel
theorem dL_law_342 : decode cL_law 342 = .ok (.iconst 2, 1) := by decide +kernel
theorem dL_law_343 : decode cL_law 343 = .ok (.iadd, 1) := by decide +kernel
theorem dL_law_344 : decode cL_law 344 = .ok (.iaload, 1) := by decide +kernel
theorem dL_law_345 : decode cL_law 345 = .ok (.invokevirtual 51, 3) := by decide +kernel
theorem dL_law_348 : decode cL_law 348 = .ok (.if_icmp .eq 274, 3) := by decide +kernel
theorem dL_law_351 : decode cL_law 351 = .ok (.iconst 0, 1) := by decide +kernel
theorem dL_law_352 : decode cL_law 352 = .ok (.ireturn, 1) := by decide +kernel
theorem dL_law_353 : decode cL_law 353 = .ok (.aload_n 1, 1) := by decide +kernel
theorem dL_law_354 : decode cL_law 354 = .ok (.aload_n 0, 1) := by decide +kernel
theorem dL_law_355 : decode cL_law 355 = .ok (.iload_n 3, 1) := by decide +kernel
theorem dL_law_356 : decode cL_law 356 = .ok (.iconst 1, 1) := by decide +kernel
theorem dL_law_357 : decode cL_law 357 = .ok (.iadd, 1) := by decide +kernel
theorem dL_law_358 : decode cL_law 358 = .ok (.iaload, 1) := by decide +kernel
theorem dL_law_359 : decode cL_law 359 = .ok (.aload_n 0, 1) := by decide +kernel
theorem dL_law_360 : decode cL_law 360 = .ok (.iload_n 3, 1) := by decide +kernel
theorem dL_law_361 : decode cL_law 361 = .ok (.iconst 2, 1) := by decide +kernel
theorem dL_law_362 : decode cL_law 362 = .ok (.iadd, 1) := by decide +kernel
theorem dL_law_363 : decode cL_law 363 = .ok (.iaload, 1) := by decide +kernel
theorem dL_law_364 : decode cL_law 364 = .ok (.invokevirtual 52, 3) := by decide +kernel
theorem dL_law_367 : decode cL_law 367 = .ok (.aload_n 2, 1) := by decide +kernel
theorem dL_law_368 : decode cL_law 368 = .ok (.aload_n 0, 1) := by decide +kernel
theorem dL_law_369 : decode cL_law 369 = .ok (.iload_n 3, 1) := by decide +kernel
theorem dL_law_370 : decode cL_law 370 = .ok (.iconst 1, 1) := by decide +kernel
theorem dL_law_371 : decode cL_law 371 = .ok (.iadd, 1) := by decide +kernel
theorem dL_law_372 : decode cL_law 372 = .ok (.iaload, 1) := by decide +kernel
theorem dL_law_373 : decode cL_law 373 = .ok (.aload_n 0, 1) := by decide +kernel
theorem dL_law_374 : decode cL_law 374 = .ok (.iload_n 3, 1) := by decide +kernel
theorem dL_law_375 : decode cL_law 375 = .ok (.iconst 2, 1) := by decide +kernel
theorem dL_law_376 : decode cL_law 376 = .ok (.iadd, 1) := by decide +kernel
theorem dL_law_377 : decode cL_law 377 = .ok (.iaload, 1) := by decide +kernel
theorem dL_law_378 : decode cL_law 378 = .ok (.invokevirtual 55, 3) := by decide +kernel
theorem dL_law_381 : decode cL_law 381 = .ok (.if_icmp .eq 241, 3) := by decide +kernel
theorem dL_law_384 : decode cL_law 384 = .ok (.iconst 0, 1) := by decide +kernel
theorem dL_law_385 : decode cL_law 385 = .ok (.ireturn, 1) := by decide +kernel
theorem dL_law_386 : decode cL_law 386 = .ok (.aload_n 1, 1) := by decide +kernel
theorem dL_law_387 : decode cL_law 387 = .ok (.aload_n 0, 1) := by decide +kernel
theorem dL_law_388 : decode cL_law 388 = .ok (.iload_n 3, 1) := by decide +kernel
theorem dL_law_389 : decode cL_law 389 = .ok (.iconst 1, 1) := by decide +kernel
theorem dL_law_390 : decode cL_law 390 = .ok (.iadd, 1) := by decide +kernel
theorem dL_law_391 : decode cL_law 391 = .ok (.iaload, 1) := by decide +kernel
theorem dL_law_392 : decode cL_law 392 = .ok (.invokevirtual 56, 3) := by decide +kernel
theorem dL_law_395 : decode cL_law 395 = .ok (.aload_n 2, 1) := by decide +kernel
theorem dL_law_396 : decode cL_law 396 = .ok (.aload_n 0, 1) := by decide +kernel
theorem dL_law_397 : decode cL_law 397 = .ok (.iload_n 3, 1) := by decide +kernel
theorem dL_law_398 : decode cL_law 398 = .ok (.iconst 1, 1) := by decide +kernel
theorem dL_law_399 : decode cL_law 399 = .ok (.iadd, 1) := by decide +kernel
theorem dL_law_400 : decode cL_law 400 = .ok (.iaload, 1) := by decide +kernel
theorem dL_law_401 : decode cL_law 401 = .ok (.invokevirtual 59, 3) := by decide +kernel
theorem dL_law_404 : decode cL_law 404 = .ok (.if_icmp .eq 218, 3) := by decide +kernel
theorem dL_law_407 : decode cL_law 407 = .ok (.iconst 0, 1) := by decide +kernel
theorem dL_law_408 : decode cL_law 408 = .ok (.ireturn, 1) := by decide +kernel
theorem dL_law_409 : decode cL_law 409 = .ok (.aload_n 1, 1) := by decide +kernel
theorem dL_law_410 : decode cL_law 410 = .ok (.aload_n 0, 1) := by decide +kernel
theorem dL_law_411 : decode cL_law 411 = .ok (.iload_n 3, 1) := by decide +kernel
theorem dL_law_412 : decode cL_law 412 = .ok (.iconst 1, 1) := by decide +kernel
theorem dL_law_413 : decode cL_law 413 = .ok (.iadd, 1) := by decide +kernel
theorem dL_law_414 : decode cL_law 414 = .ok (.iaload, 1) := by decide +kernel
theorem dL_law_415 : decode cL_law 415 = .ok (.invokevirtual 60, 3) := by decide +kernel
theorem dL_law_418 : decode cL_law 418 = .ok (.aload_n 2, 1) := by decide +kernel
theorem dL_law_419 : decode cL_law 419 = .ok (.aload_n 0, 1) := by decide +kernel
theorem dL_law_420 : decode cL_law 420 = .ok (.iload_n 3, 1) := by decide +kernel
theorem dL_law_421 : decode cL_law 421 = .ok (.iconst 1, 1) := by decide +kernel
theorem dL_law_422 : decode cL_law 422 = .ok (.iadd, 1) := by decide +kernel
theorem dL_law_423 : decode cL_law 423 = .ok (.iaload, 1) := by decide +kernel
theorem dL_law_424 : decode cL_law 424 = .ok (.invokevirtual 63, 3) := by decide +kernel
theorem dL_law_427 : decode cL_law 427 = .ok (.if_icmp .eq 195, 3) := by decide +kernel
theorem dL_law_430 : decode cL_law 430 = .ok (.iconst 0, 1) := by decide +kernel
theorem dL_law_431 : decode cL_law 431 = .ok (.ireturn, 1) := by decide +kernel
theorem dL_law_432 : decode cL_law 432 = .ok (.aload_n 1, 1) := by decide +kernel
theorem dL_law_433 : decode cL_law 433 = .ok (.aload_n 0, 1) := by decide +kernel
theorem dL_law_434 : decode cL_law 434 = .ok (.iload_n 3, 1) := by decide +kernel
theorem dL_law_435 : decode cL_law 435 = .ok (.iconst 1, 1) := by decide +kernel
theorem dL_law_436 : decode cL_law 436 = .ok (.iadd, 1) := by decide +kernel
theorem dL_law_437 : decode cL_law 437 = .ok (.iaload, 1) := by decide +kernel
theorem dL_law_438 : decode cL_law 438 = .ok (.invokevirtual 64, 3) := by decide +kernel
theorem dL_law_441 : decode cL_law 441 = .ok (.aload_n 2, 1) := by decide +kernel
theorem dL_law_442 : decode cL_law 442 = .ok (.aload_n 0, 1) := by decide +kernel
theorem dL_law_443 : decode cL_law 443 = .ok (.iload_n 3, 1) := by decide +kernel
theorem dL_law_444 : decode cL_law 444 = .ok (.iconst 1, 1) := by decide +kernel
theorem dL_law_445 : decode cL_law 445 = .ok (.iadd, 1) := by decide +kernel
theorem dL_law_446 : decode cL_law 446 = .ok (.iaload, 1) := by decide +kernel
theorem dL_law_447 : decode cL_law 447 = .ok (.invokevirtual 67, 3) := by decide +kernel
theorem dL_law_450 : decode cL_law 450 = .ok (.if_icmp .eq 172, 3) := by decide +kernel
theorem dL_law_453 : decode cL_law 453 = .ok (.iconst 0, 1) := by decide +kernel
theorem dL_law_454 : decode cL_law 454 = .ok (.ireturn, 1) := by decide +kernel
theorem dL_law_455 : decode cL_law 455 = .ok (.aload_n 1, 1) := by decide +kernel
theorem dL_law_456 : decode cL_law 456 = .ok (.invokevirtual 68, 3) := by decide +kernel
theorem dL_law_459 : decode cL_law 459 = .ok (.aload_n 2, 1) := by decide +kernel
theorem dL_law_460 : decode cL_law 460 = .ok (.invokevirtual 71, 3) := by decide +kernel
theorem dL_law_463 : decode cL_law 463 = .ok (.if_icmp .eq 159, 3) := by decide +kernel
theorem dL_law_466 : decode cL_law 466 = .ok (.iconst 0, 1) := by decide +kernel
theorem dL_law_467 : decode cL_law 467 = .ok (.ireturn, 1) := by decide +kernel
theorem dL_law_468 : decode cL_law 468 = .ok (.aload_n 1, 1) := by decide +kernel
theorem dL_law_469 : decode cL_law 469 = .ok (.aload_n 0, 1) := by decide +kernel
theorem dL_law_470 : decode cL_law 470 = .ok (.iload_n 3, 1) := by decide +kernel
theorem dL_law_471 : decode cL_law 471 = .ok (.iconst 1, 1) := by decide +kernel
theorem dL_law_472 : decode cL_law 472 = .ok (.iadd, 1) := by decide +kernel
theorem dL_law_473 : decode cL_law 473 = .ok (.iaload, 1) := by decide +kernel
theorem dL_law_474 : decode cL_law 474 = .ok (.invokevirtual 72, 3) := by decide +kernel
theorem dL_law_477 : decode cL_law 477 = .ok (.aload_n 2, 1) := by decide +kernel
theorem dL_law_478 : decode cL_law 478 = .ok (.aload_n 0, 1) := by decide +kernel
theorem dL_law_479 : decode cL_law 479 = .ok (.iload_n 3, 1) := by decide +kernel
theorem dL_law_480 : decode cL_law 480 = .ok (.iconst 1, 1) := by decide +kernel
theorem dL_law_481 : decode cL_law 481 = .ok (.iadd, 1) := by decide +kernel
theorem dL_law_482 : decode cL_law 482 = .ok (.iaload, 1) := by decide +kernel
theorem dL_law_483 : decode cL_law 483 = .ok (.invokevirtual 75, 3) := by decide +kernel
theorem dL_law_486 : decode cL_law 486 = .ok (.if_icmp .eq 136, 3) := by decide +kernel
theorem dL_law_489 : decode cL_law 489 = .ok (.iconst 0, 1) := by decide +kernel
theorem dL_law_490 : decode cL_law 490 = .ok (.ireturn, 1) := by decide +kernel
theorem dL_law_491 : decode cL_law 491 = .ok (.aload_n 1, 1) := by decide +kernel
theorem dL_law_492 : decode cL_law 492 = .ok (.aload_n 0, 1) := by decide +kernel
theorem dL_law_493 : decode cL_law 493 = .ok (.iload_n 3, 1) := by decide +kernel
theorem dL_law_494 : decode cL_law 494 = .ok (.iconst 1, 1) := by decide +kernel
theorem dL_law_495 : decode cL_law 495 = .ok (.iadd, 1) := by decide +kernel
theorem dL_law_496 : decode cL_law 496 = .ok (.iaload, 1) := by decide +kernel
theorem dL_law_497 : decode cL_law 497 = .ok (.invokevirtual 76, 3) := by decide +kernel
theorem dL_law_500 : decode cL_law 500 = .ok (.aload_n 2, 1) := by decide +kernel
theorem dL_law_501 : decode cL_law 501 = .ok (.aload_n 0, 1) := by decide +kernel
theorem dL_law_502 : decode cL_law 502 = .ok (.iload_n 3, 1) := by decide +kernel
theorem dL_law_503 : decode cL_law 503 = .ok (.iconst 1, 1) := by decide +kernel
theorem dL_law_504 : decode cL_law 504 = .ok (.iadd, 1) := by decide +kernel
theorem dL_law_505 : decode cL_law 505 = .ok (.iaload, 1) := by decide +kernel
theorem dL_law_506 : decode cL_law 506 = .ok (.invokevirtual 79, 3) := by decide +kernel
theorem dL_law_509 : decode cL_law 509 = .ok (.if_icmp .eq 113, 3) := by decide +kernel
theorem dL_law_512 : decode cL_law 512 = .ok (.iconst 0, 1) := by decide +kernel
theorem dL_law_513 : decode cL_law 513 = .ok (.ireturn, 1) := by decide +kernel
theorem dL_law_514 : decode cL_law 514 = .ok (.aload_n 1, 1) := by decide +kernel
theorem dL_law_515 : decode cL_law 515 = .ok (.aload_n 0, 1) := by decide +kernel
theorem dL_law_516 : decode cL_law 516 = .ok (.iload_n 3, 1) := by decide +kernel
theorem dL_law_517 : decode cL_law 517 = .ok (.iconst 1, 1) := by decide +kernel
theorem dL_law_518 : decode cL_law 518 = .ok (.iadd, 1) := by decide +kernel
theorem dL_law_519 : decode cL_law 519 = .ok (.iaload, 1) := by decide +kernel
theorem dL_law_520 : decode cL_law 520 = .ok (.invokevirtual 80, 3) := by decide +kernel
theorem dL_law_523 : decode cL_law 523 = .ok (.aload_n 2, 1) := by decide +kernel
theorem dL_law_524 : decode cL_law 524 = .ok (.aload_n 0, 1) := by decide +kernel
theorem dL_law_525 : decode cL_law 525 = .ok (.iload_n 3, 1) := by decide +kernel
theorem dL_law_526 : decode cL_law 526 = .ok (.iconst 1, 1) := by decide +kernel
theorem dL_law_527 : decode cL_law 527 = .ok (.iadd, 1) := by decide +kernel
theorem dL_law_528 : decode cL_law 528 = .ok (.iaload, 1) := by decide +kernel
theorem dL_law_529 : decode cL_law 529 = .ok (.invokevirtual 83, 3) := by decide +kernel
theorem dL_law_532 : decode cL_law 532 = .ok (.if_icmp .eq 90, 3) := by decide +kernel
theorem dL_law_535 : decode cL_law 535 = .ok (.iconst 0, 1) := by decide +kernel
theorem dL_law_536 : decode cL_law 536 = .ok (.ireturn, 1) := by decide +kernel
theorem dL_law_537 : decode cL_law 537 = .ok (.aload_n 1, 1) := by decide +kernel
theorem dL_law_538 : decode cL_law 538 = .ok (.invokevirtual 84, 3) := by decide +kernel
theorem dL_law_541 : decode cL_law 541 = .ok (.aload_n 2, 1) := by decide +kernel
theorem dL_law_542 : decode cL_law 542 = .ok (.invokevirtual 87, 3) := by decide +kernel
theorem dL_law_545 : decode cL_law 545 = .ok (.if_icmp .eq 77, 3) := by decide +kernel
theorem dL_law_548 : decode cL_law 548 = .ok (.iconst 0, 1) := by decide +kernel
theorem dL_law_549 : decode cL_law 549 = .ok (.ireturn, 1) := by decide +kernel
theorem dL_law_550 : decode cL_law 550 = .ok (.aload_n 1, 1) := by decide +kernel
theorem dL_law_551 : decode cL_law 551 = .ok (.aload_n 0, 1) := by decide +kernel
theorem dL_law_552 : decode cL_law 552 = .ok (.iload_n 3, 1) := by decide +kernel
theorem dL_law_553 : decode cL_law 553 = .ok (.iconst 1, 1) := by decide +kernel
theorem dL_law_554 : decode cL_law 554 = .ok (.iadd, 1) := by decide +kernel
theorem dL_law_555 : decode cL_law 555 = .ok (.iaload, 1) := by decide +kernel
theorem dL_law_556 : decode cL_law 556 = .ok (.invokevirtual 88, 3) := by decide +kernel
theorem dL_law_559 : decode cL_law 559 = .ok (.aload_n 2, 1) := by decide +kernel
theorem dL_law_560 : decode cL_law 560 = .ok (.aload_n 0, 1) := by decide +kernel
theorem dL_law_561 : decode cL_law 561 = .ok (.iload_n 3, 1) := by decide +kernel
theorem dL_law_562 : decode cL_law 562 = .ok (.iconst 1, 1) := by decide +kernel
theorem dL_law_563 : decode cL_law 563 = .ok (.iadd, 1) := by decide +kernel
theorem dL_law_564 : decode cL_law 564 = .ok (.iaload, 1) := by decide +kernel
theorem dL_law_565 : decode cL_law 565 = .ok (.invokevirtual 91, 3) := by decide +kernel
theorem dL_law_568 : decode cL_law 568 = .ok (.if_icmp .eq 54, 3) := by decide +kernel
theorem dL_law_571 : decode cL_law 571 = .ok (.iconst 0, 1) := by decide +kernel
theorem dL_law_572 : decode cL_law 572 = .ok (.ireturn, 1) := by decide +kernel
theorem dL_law_573 : decode cL_law 573 = .ok (.aload_n 1, 1) := by decide +kernel
theorem dL_law_574 : decode cL_law 574 = .ok (.invokevirtual 92, 3) := by decide +kernel
theorem dL_law_577 : decode cL_law 577 = .ok (.aload_n 2, 1) := by decide +kernel
theorem dL_law_578 : decode cL_law 578 = .ok (.invokevirtual 95, 3) := by decide +kernel
theorem dL_law_581 : decode cL_law 581 = .ok (.if_icmp .eq 41, 3) := by decide +kernel
theorem dL_law_584 : decode cL_law 584 = .ok (.iconst 0, 1) := by decide +kernel
theorem dL_law_585 : decode cL_law 585 = .ok (.ireturn, 1) := by decide +kernel
theorem dL_law_586 : decode cL_law 586 = .ok (.aload_n 1, 1) := by decide +kernel
theorem dL_law_587 : decode cL_law 587 = .ok (.aload_n 0, 1) := by decide +kernel
theorem dL_law_588 : decode cL_law 588 = .ok (.iload_n 3, 1) := by decide +kernel
theorem dL_law_589 : decode cL_law 589 = .ok (.iconst 1, 1) := by decide +kernel
theorem dL_law_590 : decode cL_law 590 = .ok (.iadd, 1) := by decide +kernel
theorem dL_law_591 : decode cL_law 591 = .ok (.iaload, 1) := by decide +kernel
theorem dL_law_592 : decode cL_law 592 = .ok (.invokevirtual 96, 3) := by decide +kernel
theorem dL_law_595 : decode cL_law 595 = .ok (.aload_n 2, 1) := by decide +kernel
theorem dL_law_596 : decode cL_law 596 = .ok (.aload_n 0, 1) := by decide +kernel
theorem dL_law_597 : decode cL_law 597 = .ok (.iload_n 3, 1) := by decide +kernel
theorem dL_law_598 : decode cL_law 598 = .ok (.iconst 1, 1) := by decide +kernel
theorem dL_law_599 : decode cL_law 599 = .ok (.iadd, 1) := by decide +kernel
theorem dL_law_600 : decode cL_law 600 = .ok (.iaload, 1) := by decide +kernel
theorem dL_law_601 : decode cL_law 601 = .ok (.invokevirtual 99, 3) := by decide +kernel
theorem dL_law_604 : decode cL_law 604 = .ok (.if_icmp .eq 18, 3) := by decide +kernel
theorem dL_law_607 : decode cL_law 607 = .ok (.iconst 0, 1) := by decide +kernel
theorem dL_law_608 : decode cL_law 608 = .ok (.ireturn, 1) := by decide +kernel
theorem dL_law_609 : decode cL_law 609 = .ok (.aload_n 1, 1) := by decide +kernel
theorem dL_law_610 : decode cL_law 610 = .ok (.invokevirtual 100, 3) := by decide +kernel
theorem dL_law_613 : decode cL_law 613 = .ok (.aload_n 2, 1) := by decide +kernel
theorem dL_law_614 : decode cL_law 614 = .ok (.invokevirtual 103, 3) := by decide +kernel
theorem dL_law_617 : decode cL_law 617 = .ok (.if_icmp .eq 5, 3) := by decide +kernel
theorem dL_law_620 : decode cL_law 620 = .ok (.iconst 0, 1) := by decide +kernel
theorem dL_law_621 : decode cL_law 621 = .ok (.ireturn, 1) := by decide +kernel
theorem dL_law_622 : decode cL_law 622 = .ok (.iinc 3 3, 3) := by decide +kernel
theorem dL_law_625 : decode cL_law 625 = .ok (.goto (-607), 3) := by decide +kernel
theorem dL_law_628 : decode cL_law 628 = .ok (.iconst 1, 1) := by decide +kernel
theorem dL_law_629 : decode cL_law 629 = .ok (.ireturn, 1) := by decide +kernel
