-- ===== PART A: goes FIRST, ahead of the names: the tables' words, and 'selects' of the private methods out of them =====
/-- a private method of a class that the tables say can be made, by its rows of tables_1 -/
def lw_okq (q : MethodName × Nat) : Prop := (q.1.cls ≠ "java/lang/invoke/MethodHandle" ∧ q.1.cls ≠ "java/lang/invoke/VarHandle") ∧ Cond.instantiable q.1.cls q.2 ∈ tables_1 ∧ Cond.privateMethod q.1 ∈ tables_1 ∧ Cond.instanceMethod q.1 ∈ tables_1
def lw_privs : List (MethodName × Nat) := []
def lw_tbl : List Cond := k2_sels lw_privs ++ tables_1
theorem lw_privs_ok : ∀ q ∈ lw_privs, lw_okq q := fun _ h => absurd h List.not_mem_nil
-- ===== end of PART A; then your names; then what follows =====
/-! ===== BEGIN words of one list among another's, by their places ===== -/
theorem goodIn_r {big : List Cond} (ws : List Cond) (ps : List Nat) (hp : ws = ps.filterMap (fun i => big[i]?)) (h : ws.all goodWord = true) : GoodIn big ws := by
  intro w hw
  have h1 := List.all_eq_true.mp h w hw
  rw [hp] at hw
  obtain ⟨i, -, hi⟩ := List.mem_filterMap.mp hw
  have hm : w ∈ big := by first | exact List.mem_of_getElem? hi | exact List.getElem?_mem hi
  exact ⟨hm, good_of_word h1⟩
theorem goodIn_app {big a b : List Cond} (ha : GoodIn big a) (hb : GoodIn big b) : GoodIn big (a ++ b) := fun w h => (List.mem_append.mp h).elim (ha w) (hb w)
theorem goodIn_ca {big a b : List Cond} {c : Cond} (ha : GoodIn big (c :: a)) (hb : GoodIn big b) : GoodIn big (c :: (a ++ b)) := fun w h => (List.mem_cons.mp h).elim (fun e => ha w (List.mem_cons.mpr (Or.inl e))) (fun h => (List.mem_append.mp h).elim (fun h => ha w (List.mem_cons.mpr (Or.inr h))) (hb w))
theorem goodIn_sub {big ws : List Cond} (hm : ∀ w ∈ ws, w ∈ big) (h : ws.all goodWord = true) : GoodIn big ws := fun w hw => ⟨hm w hw, good_of_word (List.all_eq_true.mp h w hw)⟩
/-! ===== END ===== -/

/-! ===== BEGIN printed: names, fields, word lists, decode rows ===== -/
def RX0 : String := "BatteryCaches$Battery"
def TX0 : u_T := fun k => match k with
  | 0 => ("BatteryCaches$Battery", "charge", "I", false)
  | 1 => ("BatteryCaches$Battery", "wear", "I", false)
  | 2 => ("BatteryCaches$Battery", "cycle", "I", false)
  | 3 => ("BatteryCaches$Battery", "lineCost", "I", false)
  | 4 => ("BatteryCaches$Battery", "cutCost", "I", false)
  | 5 => ("BatteryCaches$Battery", "rise", "I", false)
  | _ => ("BatteryCaches$Battery", "fall", "I", false)
def tyX0 : Nat → FieldType := fun k => match k with
  | 0 => .int
  | 1 => .int
  | 2 => .int
  | 3 => .int
  | 4 => .int
  | 5 => .int
  | _ => .int
abbrev wsX00 : List Cond := u_ws RX0 TX0 7
theorem nmX0 : ∀ a, a < 7 → ∀ b, b < 7 → a ≠ b → (TX0 a).2.1 ≠ (TX0 b).2.1 := by decide +kernel
theorem tyX0_ok : ∀ k, k < 7 → parseFieldDescriptor (TX0 k).2.2.1 = some (tyX0 k) := by decide +kernel
abbrev cX0_init : ByteArray := prog_2_method_1_code
def yX0_init : MethodName := ⟨RX0, "<init>", "()V"⟩
abbrev cX0_copyFrom : ByteArray := prog_2_method_2_code
def yX0_copyFrom : MethodName := ⟨RX0, "copyFrom", "(LBatteryCaches$Battery;)V"⟩
abbrev cX0_setting : ByteArray := prog_2_method_3_code
def yX0_setting : MethodName := ⟨RX0, "setting", "(I)I"⟩
abbrev cX0_changeSetting : ByteArray := prog_2_method_4_code
def yX0_changeSetting : MethodName := ⟨RX0, "changeSetting", "(II)V"⟩
abbrev cX0_capacity : ByteArray := prog_2_method_5_code
def yX0_capacity : MethodName := ⟨RX0, "capacity", "()I"⟩
abbrev cX0_allowance : ByteArray := prog_2_method_6_code
def yX0_allowance : MethodName := ⟨RX0, "allowance", "()I"⟩
abbrev cX0_savable : ByteArray := prog_2_method_7_code
def yX0_savable : MethodName := ⟨RX0, "savable", "()I"⟩
abbrev cX0_costToSave : ByteArray := prog_2_method_8_code
def yX0_costToSave : MethodName := ⟨RX0, "costToSave", "(I)I"⟩
abbrev cX0_useUp : ByteArray := prog_2_method_9_code
def yX0_useUp : MethodName := ⟨RX0, "useUp", "(I)V"⟩
abbrev cX0_saveAtCut : ByteArray := prog_2_method_10_code
def yX0_saveAtCut : MethodName := ⟨RX0, "saveAtCut", "(I)V"⟩
abbrev cX0_passTick : ByteArray := prog_2_method_11_code
def yX0_passTick : MethodName := ⟨RX0, "passTick", "()Z"⟩
abbrev cX0_fallInCycle : ByteArray := prog_2_method_12_code
def yX0_fallInCycle : MethodName := ⟨RX0, "fallInCycle", "()V"⟩
def RX1 : String := "BatteryCaches$History"
def TX1 : u_T := fun k => match k with
  | 0 => ("BatteryCaches$History", "states", "[LBatteryCaches$State;", true)
  | _ => ("BatteryCaches$History", "size", "I", false)
def tyX1 : Nat → FieldType := fun k => match k with
  | 0 => .array (.object "BatteryCaches$State")
  | _ => .int
abbrev wsX10 : List Cond := u_ws RX1 TX1 2
theorem nmX1 : ∀ a, a < 2 → ∀ b, b < 2 → a ≠ b → (TX1 a).2.1 ≠ (TX1 b).2.1 := by decide +kernel
theorem tyX1_ok : ∀ k, k < 2 → parseFieldDescriptor (TX1 k).2.2.1 = some (tyX1 k) := by decide +kernel
abbrev cX1_init : ByteArray := prog_3_method_1_code
def yX1_init : MethodName := ⟨RX1, "<init>", "()V"⟩
abbrev cX1_keep : ByteArray := prog_3_method_2_code
def yX1_keep : MethodName := ⟨RX1, "keep", "(LBatteryCaches$State;)V"⟩
abbrev cX1_dropOldest : ByteArray := prog_3_method_4_code
def yX1_dropOldest : MethodName := ⟨RX1, "dropOldest", "()V"⟩
def RX2 : String := "BatteryCaches$Order"
def TX2 : u_T := fun k => match k with
  | 0 => ("BatteryCaches$Order", "start", "I", false)
  | 1 => ("BatteryCaches$Order", "next", "I", false)
  | 2 => ("BatteryCaches$Order", "letter", "I", false)
  | 3 => ("BatteryCaches$Order", "number", "I", false)
  | 4 => ("BatteryCaches$Order", "newValue", "I", false)
  | 5 => ("BatteryCaches$Order", "reason", "I", false)
  | _ => ("BatteryCaches$Order", "cause", "I", false)
def tyX2 : Nat → FieldType := fun k => match k with
  | 0 => .int
  | 1 => .int
  | 2 => .int
  | 3 => .int
  | 4 => .int
  | 5 => .int
  | _ => .int
abbrev wsX20 : List Cond := u_ws RX2 TX2 7
theorem nmX2 : ∀ a, a < 7 → ∀ b, b < 7 → a ≠ b → (TX2 a).2.1 ≠ (TX2 b).2.1 := by decide +kernel
theorem tyX2_ok : ∀ k, k < 7 → parseFieldDescriptor (TX2 k).2.2.1 = some (tyX2 k) := by decide +kernel
abbrev cX2_init : ByteArray := prog_4_method_1_code
def yX2_init : MethodName := ⟨RX2, "<init>", "()V"⟩
def RX3 : String := "BatteryCaches$Rehearsal"
def TX3 : u_T := fun k => match k with
  | 0 => ("BatteryCaches$Rehearsal", "trial", "LBatteryCaches$State;", true)
  | 1 => ("BatteryCaches$Rehearsal", "order", "LBatteryCaches$Order;", true)
  | _ => ("BatteryCaches$Rehearsal", "done", "I", false)
def tyX3 : Nat → FieldType := fun k => match k with
  | 0 => .object "BatteryCaches$State"
  | 1 => .object "BatteryCaches$Order"
  | _ => .int
abbrev wsX30 : List Cond := u_ws RX3 TX3 3
theorem nmX3 : ∀ a, a < 3 → ∀ b, b < 3 → a ≠ b → (TX3 a).2.1 ≠ (TX3 b).2.1 := by decide +kernel
theorem tyX3_ok : ∀ k, k < 3 → parseFieldDescriptor (TX3 k).2.2.1 = some (tyX3 k) := by decide +kernel
abbrev cX3_init : ByteArray := prog_5_method_1_code
def yX3_init : MethodName := ⟨RX3, "<init>", "()V"⟩
def RX4 : String := "BatteryCaches$State"
def TX4 : u_T := fun k => match k with
  | 0 => ("BatteryCaches$State", "battery", "LBatteryCaches$Battery;", true)
  | 1 => ("BatteryCaches$State", "disk", "[I", true)
  | 2 => ("BatteryCaches$State", "laid", "[I", true)
  | 3 => ("BatteryCaches$State", "kind", "[I", true)
  | 4 => ("BatteryCaches$State", "place", "[I", true)
  | 5 => ("BatteryCaches$State", "value", "[I", true)
  | 6 => ("BatteryCaches$State", "turn", "[I", true)
  | 7 => ("BatteryCaches$State", "lastTurn", "I", false)
  | 8 => ("BatteryCaches$State", "ticks", "I", false)
  | 9 => ("BatteryCaches$State", "hits", "I", false)
  | 10 => ("BatteryCaches$State", "misses", "I", false)
  | 11 => ("BatteryCaches$State", "flushed", "I", false)
  | 12 => ("BatteryCaches$State", "wentThrough", "I", false)
  | 13 => ("BatteryCaches$State", "lost", "I", false)
  | 14 => ("BatteryCaches$State", "cuts", "I", false)
  | 15 => ("BatteryCaches$State", "cyclesEnded", "I", false)
  | _ => ("BatteryCaches$State", "laidInAll", "I", false)
def tyX4 : Nat → FieldType := fun k => match k with
  | 0 => .object "BatteryCaches$Battery"
  | 1 => .array .int
  | 2 => .array .int
  | 3 => .array .int
  | 4 => .array .int
  | 5 => .array .int
  | 6 => .array .int
  | 7 => .int
  | 8 => .int
  | 9 => .int
  | 10 => .int
  | 11 => .int
  | 12 => .int
  | 13 => .int
  | 14 => .int
  | 15 => .int
  | _ => .int
abbrev wsX40 : List Cond := u_ws RX4 TX4 17
theorem nmX4 : ∀ a, a < 17 → ∀ b, b < 17 → a ≠ b → (TX4 a).2.1 ≠ (TX4 b).2.1 := by decide +kernel
theorem tyX4_ok : ∀ k, k < 17 → parseFieldDescriptor (TX4 k).2.2.1 = some (tyX4 k) := by decide +kernel
abbrev cX4_init : ByteArray := prog_6_method_1_code
def yX4_init : MethodName := ⟨RX4, "<init>", "()V"⟩
abbrev cX4_copy : ByteArray := prog_6_method_2_code
def yX4_copy : MethodName := ⟨RX4, "copy", "(LBatteryCaches$State;LBatteryCaches$State;)V"⟩
abbrev cX4_readPlace : ByteArray := prog_6_method_3_code
def yX4_readPlace : MethodName := ⟨RX4, "readPlace", "(I)I"⟩
abbrev cX4_writePlace : ByteArray := prog_6_method_4_code
def yX4_writePlace : MethodName := ⟨RX4, "writePlace", "(II)I"⟩
abbrev cX4_lineFor : ByteArray := prog_6_method_5_code
def yX4_lineFor : MethodName := ⟨RX4, "lineFor", "(I)I"⟩
abbrev cX4_lineToTake : ByteArray := prog_6_method_6_code
def yX4_lineToTake : MethodName := ⟨RX4, "lineToTake", "()I"⟩
abbrev cX4_layIntoLine : ByteArray := prog_6_method_7_code
def yX4_layIntoLine : MethodName := ⟨RX4, "layIntoLine", "(II)V"⟩
abbrev cX4_flushLine : ByteArray := prog_6_method_8_code
def yX4_flushLine : MethodName := ⟨RX4, "flushLine", "(I)V"⟩
abbrev cX4_layOnDisk : ByteArray := prog_6_method_9_code
def yX4_layOnDisk : MethodName := ⟨RX4, "layOnDisk", "(II)V"⟩
abbrev cX4_passTicks : ByteArray := prog_6_method_10_code
def yX4_passTicks : MethodName := ⟨RX4, "passTicks", "(I)I"⟩
abbrev cX4_putLoad : ByteArray := prog_6_method_11_code
def yX4_putLoad : MethodName := ⟨RX4, "putLoad", "(I)I"⟩
abbrev cX4_beginCycle : ByteArray := prog_6_method_12_code
def yX4_beginCycle : MethodName := ⟨RX4, "beginCycle", "()I"⟩
abbrev cX4_cutPower : ByteArray := prog_6_method_13_code
def yX4_cutPower : MethodName := ⟨RX4, "cutPower", "()I"⟩
abbrev cX4_tooMany : ByteArray := prog_6_method_14_code
def yX4_tooMany : MethodName := ⟨RX4, "tooMany", "()I"⟩
abbrev cX4_flushLowest : ByteArray := prog_6_method_15_code
def yX4_flushLowest : MethodName := ⟨RX4, "flushLowest", "(I)I"⟩
abbrev cX4_savedByCut : ByteArray := prog_6_method_16_code
def yX4_savedByCut : MethodName := ⟨RX4, "savedByCut", "()I"⟩
abbrev cX4_lostByCut : ByteArray := prog_6_method_17_code
def yX4_lostByCut : MethodName := ⟨RX4, "lostByCut", "()I"⟩
abbrev cX4_holderOf : ByteArray := prog_6_method_18_code
def yX4_holderOf : MethodName := ⟨RX4, "holderOf", "(I)I"⟩
abbrev cX4_lowestEmpty : ByteArray := prog_6_method_19_code
def yX4_lowestEmpty : MethodName := ⟨RX4, "lowestEmpty", "()I"⟩
abbrev cX4_lowestTurn : ByteArray := prog_6_method_20_code
def yX4_lowestTurn : MethodName := ⟨RX4, "lowestTurn", "(I)I"⟩
abbrev cX4_linesAhead : ByteArray := prog_6_method_21_code
def yX4_linesAhead : MethodName := ⟨RX4, "linesAhead", "(II)I"⟩
abbrev cX4_numberOf : ByteArray := prog_6_method_22_code
def yX4_numberOf : MethodName := ⟨RX4, "numberOf", "(I)I"⟩
abbrev cX4_setOf : ByteArray := prog_6_method_23_code
def yX4_setOf : MethodName := ⟨RX4, "setOf", "(I)I"⟩
def RX5 : String := "BatteryCaches$Text"
def TX5 : u_T := fun k => match k with
  | 0 => ("BatteryCaches$Text", "characters", "[I", true)
  | _ => ("BatteryCaches$Text", "length", "I", false)
def tyX5 : Nat → FieldType := fun k => match k with
  | 0 => .array .int
  | _ => .int
abbrev wsX50 : List Cond := u_ws RX5 TX5 2
theorem nmX5 : ∀ a, a < 2 → ∀ b, b < 2 → a ≠ b → (TX5 a).2.1 ≠ (TX5 b).2.1 := by decide +kernel
theorem tyX5_ok : ∀ k, k < 2 → parseFieldDescriptor (TX5 k).2.2.1 = some (tyX5 k) := by decide +kernel
abbrev cX5_init : ByteArray := prog_7_method_1_code
def yX5_init : MethodName := ⟨RX5, "<init>", "()V"⟩
def RX6 : String := "BatteryCaches"
def TX6 : u_T := fun k => match k with
  | 0 => ("BatteryCaches", "now", "LBatteryCaches$State;", true)
  | 1 => ("BatteryCaches", "history", "LBatteryCaches$History;", true)
  | 2 => ("BatteryCaches", "text", "LBatteryCaches$Text;", true)
  | 3 => ("BatteryCaches", "rehearsal", "LBatteryCaches$Rehearsal;", true)
  | _ => ("BatteryCaches", "trialBattery", "LBatteryCaches$Battery;", true)
def tyX6 : Nat → FieldType := fun k => match k with
  | 0 => .object "BatteryCaches$State"
  | 1 => .object "BatteryCaches$History"
  | 2 => .object "BatteryCaches$Text"
  | 3 => .object "BatteryCaches$Rehearsal"
  | _ => .object "BatteryCaches$Battery"
abbrev wsX60 : List Cond := u_ws RX6 TX6 5
theorem nmX6 : ∀ a, a < 5 → ∀ b, b < 5 → a ≠ b → (TX6 a).2.1 ≠ (TX6 b).2.1 := by decide +kernel
theorem tyX6_ok : ∀ k, k < 5 → parseFieldDescriptor (TX6 k).2.2.1 = some (tyX6 k) := by decide +kernel
abbrev cX6_init : ByteArray := prog_1_method_1_code
def yX6_init : MethodName := ⟨RX6, "<init>", "()V"⟩
abbrev cX6_read : ByteArray := prog_1_method_2_code
def yX6_read : MethodName := ⟨RX6, "read", "(I)I"⟩
abbrev cX6_write : ByteArray := prog_1_method_3_code
def yX6_write : MethodName := ⟨RX6, "write", "(II)I"⟩
abbrev cX6_flush : ByteArray := prog_1_method_4_code
def yX6_flush : MethodName := ⟨RX6, "flush", "(I)I"⟩
abbrev cX6_tick : ByteArray := prog_1_method_5_code
def yX6_tick : MethodName := ⟨RX6, "tick", "(I)I"⟩
abbrev cX6_load : ByteArray := prog_1_method_6_code
def yX6_load : MethodName := ⟨RX6, "load", "(I)I"⟩
abbrev cX6_learn : ByteArray := prog_1_method_7_code
def yX6_learn : MethodName := ⟨RX6, "learn", "()I"⟩
abbrev cX6_cut : ByteArray := prog_1_method_8_code
def yX6_cut : MethodName := ⟨RX6, "cut", "()I"⟩
abbrev cX6_set : ByteArray := prog_1_method_9_code
def yX6_set : MethodName := ⟨RX6, "set", "(II)I"⟩
abbrev cX6_lineOf : ByteArray := prog_1_method_10_code
def yX6_lineOf : MethodName := ⟨RX6, "lineOf", "(II)I"⟩
abbrev cX6_placeOf : ByteArray := prog_1_method_11_code
def yX6_placeOf : MethodName := ⟨RX6, "placeOf", "(II)I"⟩
abbrev cX6_battery : ByteArray := prog_1_method_12_code
def yX6_battery : MethodName := ⟨RX6, "battery", "(I)I"⟩
abbrev cX6_lines : ByteArray := prog_1_method_13_code
def yX6_lines : MethodName := ⟨RX6, "lines", "(I)I"⟩
abbrev cX6_wouldFlush : ByteArray := prog_1_method_14_code
def yX6_wouldFlush : MethodName := ⟨RX6, "wouldFlush", "(I)I"⟩
abbrev cX6_critical : ByteArray := prog_1_method_15_code
def yX6_critical : MethodName := ⟨RX6, "critical", "()I"⟩
abbrev cX6_count : ByteArray := prog_1_method_18_code
def yX6_count : MethodName := ⟨RX6, "count", "(I)I"⟩
abbrev cX6_isWithin : ByteArray := prog_1_method_24_code
def yX6_isWithin : MethodName := ⟨RX6, "isWithin", "(III)Z"⟩
abbrev cX6_isPlace : ByteArray := prog_1_method_25_code
def yX6_isPlace : MethodName := ⟨RX6, "isPlace", "(I)Z"⟩
abbrev cX6_isLine : ByteArray := prog_1_method_26_code
def yX6_isLine : MethodName := ⟨RX6, "isLine", "(I)Z"⟩
abbrev cX6_isSetting : ByteArray := prog_1_method_27_code
def yX6_isSetting : MethodName := ⟨RX6, "isSetting", "(I)Z"⟩
abbrev cX6_copyRow : ByteArray := prog_1_method_28_code
def yX6_copyRow : MethodName := ⟨RX6, "copyRow", "([I[I)V"⟩
def RX7 : String := "BatteryCachesModel"
def TX7 : u_T := fun k => match k with
  | _ => ("", "", "", false)
def tyX7 : Nat → FieldType := fun k => match k with
  | _ => .int
abbrev wsX70 : List Cond := u_ws RX7 TX7 0
theorem nmX7 : ∀ a, a < 0 → ∀ b, b < 0 → a ≠ b → (TX7 a).2.1 ≠ (TX7 b).2.1 := by decide +kernel
theorem tyX7_ok : ∀ k, k < 0 → parseFieldDescriptor (TX7 k).2.2.1 = some (tyX7 k) := by decide +kernel
def RJ6 : String := "java/lang/Integer"
def TJ6 : u_T := fun k => match k with
  | _ => ("", "", "", false)
def tyJ6 : Nat → FieldType := fun k => match k with
  | _ => .int
abbrev wsJ60 : List Cond := u_ws RJ6 TJ6 0
theorem nmJ6 : ∀ a, a < 0 → ∀ b, b < 0 → a ≠ b → (TJ6 a).2.1 ≠ (TJ6 b).2.1 := by decide +kernel
theorem tyJ6_ok : ∀ k, k < 0 → parseFieldDescriptor (TJ6 k).2.2.1 = some (tyJ6 k) := by decide +kernel
abbrev cJ6_bitCount_0f7a4 : ByteArray := prog_10_method_49_code
def yJ6_bitCount_0f7a4 : MethodName := ⟨RJ6, "bitCount", "(I)I"⟩
def RJ9 : String := "java/lang/Math"
def TJ9 : u_T := fun k => match k with
  | _ => ("", "", "", false)
def tyJ9 : Nat → FieldType := fun k => match k with
  | _ => .int
abbrev wsJ90 : List Cond := u_ws RJ9 TJ9 0
theorem nmJ9 : ∀ a, a < 0 → ∀ b, b < 0 → a ≠ b → (TJ9 a).2.1 ≠ (TJ9 b).2.1 := by decide +kernel
theorem tyJ9_ok : ∀ k, k < 0 → parseFieldDescriptor (TJ9 k).2.2.1 = some (tyJ9 k) := by decide +kernel
abbrev cJ9_max_7cf53 : ByteArray := prog_11_method_65_code
def yJ9_max_7cf53 : MethodName := ⟨RJ9, "max", "(II)I"⟩
abbrev cJ9_min_7cf53 : ByteArray := prog_11_method_69_code
def yJ9_min_7cf53 : MethodName := ⟨RJ9, "min", "(II)I"⟩
def RJ10 : String := "java/lang/System"
def TJ10 : u_T := fun k => match k with
  | _ => ("", "", "", false)
def tyJ10 : Nat → FieldType := fun k => match k with
  | _ => .int
abbrev wsJ100 : List Cond := u_ws RJ10 TJ10 0
theorem nmJ10 : ∀ a, a < 0 → ∀ b, b < 0 → a ≠ b → (TJ10 a).2.1 ≠ (TJ10 b).2.1 := by decide +kernel
theorem tyJ10_ok : ∀ k, k < 0 → parseFieldDescriptor (TJ10 k).2.2.1 = some (tyJ10 k) := by decide +kernel
def RL : String := "BatteryCachesLaw"
abbrev cL_cell : ByteArray := method_2_code
def yL_cell : MethodName := ⟨RL, "cell", "([II)I"⟩
abbrev cL_up : ByteArray := method_3_code
def yL_up : MethodName := ⟨RL, "up", "(II)I"⟩
abbrev cL_isStep : ByteArray := method_4_code
def yL_isStep : MethodName := ⟨RL, "isStep", "(LBatteryCaches;[II)Z"⟩
abbrev cL_bits : ByteArray := method_5_code
def yL_bits : MethodName := ⟨RL, "bits", "(I)I"⟩
abbrev cL_isKept : ByteArray := method_6_code
def yL_isKept : MethodName := ⟨RL, "isKept", "(LBatteryCaches;[II)Z"⟩
abbrev cL_law : ByteArray := code
def yL_law : MethodName := ⟨RL, "law", "([I)Z"⟩
def wsX0_init : List Cond := .code yX0_init cX0_init 1 none :: ([.methodLink RX0 3 objectInit, .instanceMethod objectInit, .code objectInit ⟨#[0xb1]⟩ 1 none, .fieldLink RX0 9 "BatteryCaches$Battery" "charge" "I", .fieldLink RX0 15 "BatteryCaches$Battery" "wear" "I", .fieldLink RX0 18 "BatteryCaches$Battery" "cycle" "I", .fieldLink RX0 21 "BatteryCaches$Battery" "lineCost" "I", .fieldLink RX0 24 "BatteryCaches$Battery" "cutCost" "I", .fieldLink RX0 27 "BatteryCaches$Battery" "rise" "I", .fieldLink RX0 30 "BatteryCaches$Battery" "fall" "I"] ++ wsX00)
def wsX0_copyFrom : List Cond := .code yX0_copyFrom cX0_copyFrom 2 none :: ([.fieldLink RX0 9 "BatteryCaches$Battery" "charge" "I", .fieldLink RX0 15 "BatteryCaches$Battery" "wear" "I", .fieldLink RX0 18 "BatteryCaches$Battery" "cycle" "I", .fieldLink RX0 21 "BatteryCaches$Battery" "lineCost" "I", .fieldLink RX0 24 "BatteryCaches$Battery" "cutCost" "I", .fieldLink RX0 27 "BatteryCaches$Battery" "rise" "I", .fieldLink RX0 30 "BatteryCaches$Battery" "fall" "I"] ++ wsX00)
def wsX0_setting : List Cond := .code yX0_setting cX0_setting 2 (some .int) :: ([.fieldLink RX0 21 "BatteryCaches$Battery" "lineCost" "I", .fieldLink RX0 24 "BatteryCaches$Battery" "cutCost" "I", .fieldLink RX0 27 "BatteryCaches$Battery" "rise" "I", .fieldLink RX0 30 "BatteryCaches$Battery" "fall" "I"] ++ wsX00)
def wsX0_changeSetting : List Cond := .code yX0_changeSetting cX0_changeSetting 3 none :: ([.fieldLink RX0 21 "BatteryCaches$Battery" "lineCost" "I", .fieldLink RX0 24 "BatteryCaches$Battery" "cutCost" "I", .fieldLink RX0 27 "BatteryCaches$Battery" "rise" "I", .fieldLink RX0 30 "BatteryCaches$Battery" "fall" "I"] ++ wsX00)
def wsX0_capacity : List Cond := .code yX0_capacity cX0_capacity 1 (some .int) :: ([.fieldLink RX0 15 "BatteryCaches$Battery" "wear" "I"] ++ wsX00)
def wsX0_savable : List Cond := .code yX0_savable cX0_savable 1 (some .int) :: ([.fieldLink RX0 9 "BatteryCaches$Battery" "charge" "I", .fieldLink RX0 24 "BatteryCaches$Battery" "cutCost" "I", .fieldLink RX0 21 "BatteryCaches$Battery" "lineCost" "I", .methodLink RX0 37 Lib.Math.min.name, .static Lib.Math.min.name, .initialized "java/lang/Math", .code Lib.Math.min.name Lib.Math.min.code 2 (some .int)] ++ wsX00)
def wsX0_allowance : List Cond := .code yX0_allowance cX0_allowance 1 (some .int) :: ([.fieldLink RX0 18 "BatteryCaches$Battery" "cycle" "I", .methodLink RX0 33 yX0_savable, .instanceMethod yX0_savable, .selects RX0 yX0_savable yX0_savable, .initialized RX0, .code yX0_savable cX0_savable 1 (some .int), .fieldLink RX0 9 "BatteryCaches$Battery" "charge" "I", .fieldLink RX0 24 "BatteryCaches$Battery" "cutCost" "I", .fieldLink RX0 21 "BatteryCaches$Battery" "lineCost" "I", .methodLink RX0 37 Lib.Math.min.name, .static Lib.Math.min.name, .initialized "java/lang/Math", .code Lib.Math.min.name Lib.Math.min.code 2 (some .int)] ++ wsX00)
def wsX0_costToSave : List Cond := .code yX0_costToSave cX0_costToSave 2 (some .int) :: ([.fieldLink RX0 24 "BatteryCaches$Battery" "cutCost" "I", .fieldLink RX0 21 "BatteryCaches$Battery" "lineCost" "I"] ++ wsX00)
def wsX0_useUp : List Cond := .code yX0_useUp cX0_useUp 2 none :: ([.fieldLink RX0 9 "BatteryCaches$Battery" "charge" "I", .methodLink RX0 43 Lib.Math.max.name, .static Lib.Math.max.name, .initialized "java/lang/Math", .code Lib.Math.max.name Lib.Math.max.code 2 (some .int)] ++ wsX00)
def wsX0_saveAtCut : List Cond := .code yX0_saveAtCut cX0_saveAtCut 2 none :: ([.fieldLink RX0 18 "BatteryCaches$Battery" "cycle" "I", .methodLink RX0 46 yX0_costToSave, .instanceMethod yX0_costToSave, .selects RX0 yX0_costToSave yX0_costToSave, .initialized RX0, .code yX0_costToSave cX0_costToSave 2 (some .int), .fieldLink RX0 24 "BatteryCaches$Battery" "cutCost" "I", .fieldLink RX0 21 "BatteryCaches$Battery" "lineCost" "I", .methodLink RX0 50 yX0_useUp, .instanceMethod yX0_useUp, .selects RX0 yX0_useUp yX0_useUp, .code yX0_useUp cX0_useUp 2 none, .fieldLink RX0 9 "BatteryCaches$Battery" "charge" "I", .methodLink RX0 43 Lib.Math.max.name, .static Lib.Math.max.name, .initialized "java/lang/Math", .code Lib.Math.max.name Lib.Math.max.code 2 (some .int)] ++ wsX00)
def wsX0_fallInCycle : List Cond := .code yX0_fallInCycle cX0_fallInCycle 1 none :: ([.fieldLink RX0 30 "BatteryCaches$Battery" "fall" "I", .fieldLink RX0 9 "BatteryCaches$Battery" "charge" "I", .fieldLink RX0 15 "BatteryCaches$Battery" "wear" "I", .methodLink RX0 37 Lib.Math.min.name, .static Lib.Math.min.name, .initialized "java/lang/Math", .code Lib.Math.min.name Lib.Math.min.code 2 (some .int), .fieldLink RX0 18 "BatteryCaches$Battery" "cycle" "I", .methodLink RX0 50 yX0_useUp, .instanceMethod yX0_useUp, .selects RX0 yX0_useUp yX0_useUp, .initialized RX0, .code yX0_useUp cX0_useUp 2 none, .methodLink RX0 43 Lib.Math.max.name, .static Lib.Math.max.name, .code Lib.Math.max.name Lib.Math.max.code 2 (some .int)] ++ wsX00)
def wsX0_passTick_r1 : List Cond := [Cond.fieldLink RX0 18 "BatteryCaches$Battery" "cycle" "I", Cond.fieldLink RX0 9 "BatteryCaches$Battery" "charge" "I", Cond.fieldLink RX0 27 "BatteryCaches$Battery" "rise" "I", Cond.methodLink RX0 37 Lib.Math.min.name, Cond.static Lib.Math.min.name, Cond.initialized "java/lang/Math", Cond.code Lib.Math.min.name Lib.Math.min.code 2 (some .int), Cond.methodLink RX0 54 yX0_fallInCycle, Cond.instanceMethod yX0_fallInCycle, Cond.selects RX0 yX0_fallInCycle yX0_fallInCycle, Cond.initialized RX0, Cond.code yX0_fallInCycle cX0_fallInCycle 1 none, Cond.fieldLink RX0 30 "BatteryCaches$Battery" "fall" "I", Cond.fieldLink RX0 15 "BatteryCaches$Battery" "wear" "I", Cond.methodLink RX0 50 yX0_useUp, Cond.instanceMethod yX0_useUp, Cond.selects RX0 yX0_useUp yX0_useUp, Cond.code yX0_useUp cX0_useUp 2 none, Cond.methodLink RX0 43 Lib.Math.max.name, Cond.static Lib.Math.max.name, Cond.code Lib.Math.max.name Lib.Math.max.code 2 (some .int), Cond.methodLink RX0 57 yX0_capacity, Cond.instanceMethod yX0_capacity, Cond.selects RX0 yX0_capacity yX0_capacity]
def wsX0_passTick_r2 : List Cond := [Cond.code yX0_capacity cX0_capacity 1 (some .int)]
def wsX0_passTick : List Cond := .code yX0_passTick cX0_passTick 1 (some .boolean) :: ((wsX0_passTick_r1 ++ wsX0_passTick_r2) ++ wsX00)
def wsX4_init_r1 : List Cond := [Cond.methodLink RX4 3 objectInit, Cond.instanceMethod objectInit, Cond.code objectInit ⟨#[0xb1]⟩ 1 none, Cond.classLink RX4 9 RX0, Cond.instantiable RX0 7, Cond.initialized RX0, Cond.fieldLink RX4 12 "BatteryCaches$State" "battery" "LBatteryCaches$Battery;", Cond.arrayClass .int, Cond.fieldLink RX4 18 "BatteryCaches$State" "disk" "[I", Cond.fieldLink RX4 22 "BatteryCaches$State" "laid" "[I", Cond.fieldLink RX4 25 "BatteryCaches$State" "kind" "[I", Cond.fieldLink RX4 28 "BatteryCaches$State" "place" "[I", Cond.fieldLink RX4 31 "BatteryCaches$State" "value" "[I", Cond.fieldLink RX4 34 "BatteryCaches$State" "turn" "[I", Cond.fieldLink RX4 37 "BatteryCaches$State" "lastTurn" "I", Cond.fieldLink RX4 41 "BatteryCaches$State" "ticks" "I", Cond.fieldLink RX4 44 "BatteryCaches$State" "hits" "I", Cond.fieldLink RX4 47 "BatteryCaches$State" "misses" "I", Cond.fieldLink RX4 50 "BatteryCaches$State" "flushed" "I", Cond.fieldLink RX4 53 "BatteryCaches$State" "wentThrough" "I", Cond.fieldLink RX4 56 "BatteryCaches$State" "lost" "I", Cond.fieldLink RX4 59 "BatteryCaches$State" "cuts" "I", Cond.fieldLink RX4 62 "BatteryCaches$State" "cyclesEnded" "I", Cond.fieldLink RX4 65 "BatteryCaches$State" "laidInAll" "I"]
def wsX4_init_r2 : List Cond := [Cond.instanceMethod yX0_init, Cond.code yX0_init cX0_init 1 none, Cond.methodLink RX0 3 objectInit, Cond.fieldLink RX0 9 "BatteryCaches$Battery" "charge" "I", Cond.fieldLink RX0 15 "BatteryCaches$Battery" "wear" "I", Cond.fieldLink RX0 18 "BatteryCaches$Battery" "cycle" "I", Cond.fieldLink RX0 21 "BatteryCaches$Battery" "lineCost" "I", Cond.fieldLink RX0 24 "BatteryCaches$Battery" "cutCost" "I", Cond.fieldLink RX0 27 "BatteryCaches$Battery" "rise" "I", Cond.fieldLink RX0 30 "BatteryCaches$Battery" "fall" "I"]
def wsX4_init : List Cond := .code yX4_init cX4_init 1 none :: ((wsX4_init_r1 ++ wsX4_init_r2) ++ wsX00 ++ wsX40)
def wsX1_init_r1 : List Cond := [Cond.methodLink RX1 3 objectInit, Cond.instanceMethod objectInit, Cond.code objectInit ⟨#[0xb1]⟩ 1 none, Cond.classLink RX1 9 RX4, Cond.fieldLink RX1 11 "BatteryCaches$History" "states" "[LBatteryCaches$State;", Cond.fieldLink RX1 17 "BatteryCaches$History" "size" "I", Cond.instantiable RX4 17, Cond.initialized RX4, Cond.instanceMethod yX4_init, Cond.code yX4_init cX4_init 1 none, Cond.methodLink RX4 3 objectInit, Cond.classLink RX4 9 RX0, Cond.instantiable RX0 7, Cond.initialized RX0, Cond.fieldLink RX4 12 "BatteryCaches$State" "battery" "LBatteryCaches$Battery;", Cond.arrayClass .int, Cond.fieldLink RX4 18 "BatteryCaches$State" "disk" "[I", Cond.fieldLink RX4 22 "BatteryCaches$State" "laid" "[I", Cond.fieldLink RX4 25 "BatteryCaches$State" "kind" "[I", Cond.fieldLink RX4 28 "BatteryCaches$State" "place" "[I", Cond.fieldLink RX4 31 "BatteryCaches$State" "value" "[I", Cond.fieldLink RX4 34 "BatteryCaches$State" "turn" "[I", Cond.fieldLink RX4 37 "BatteryCaches$State" "lastTurn" "I", Cond.fieldLink RX4 41 "BatteryCaches$State" "ticks" "I"]
def wsX1_init_r2 : List Cond := [Cond.fieldLink RX4 44 "BatteryCaches$State" "hits" "I", Cond.fieldLink RX4 47 "BatteryCaches$State" "misses" "I", Cond.fieldLink RX4 50 "BatteryCaches$State" "flushed" "I", Cond.fieldLink RX4 53 "BatteryCaches$State" "wentThrough" "I", Cond.fieldLink RX4 56 "BatteryCaches$State" "lost" "I", Cond.fieldLink RX4 59 "BatteryCaches$State" "cuts" "I", Cond.fieldLink RX4 62 "BatteryCaches$State" "cyclesEnded" "I", Cond.fieldLink RX4 65 "BatteryCaches$State" "laidInAll" "I", Cond.instanceMethod yX0_init, Cond.code yX0_init cX0_init 1 none, Cond.methodLink RX0 3 objectInit, Cond.fieldLink RX0 9 "BatteryCaches$Battery" "charge" "I", Cond.fieldLink RX0 15 "BatteryCaches$Battery" "wear" "I", Cond.fieldLink RX0 18 "BatteryCaches$Battery" "cycle" "I", Cond.fieldLink RX0 21 "BatteryCaches$Battery" "lineCost" "I", Cond.fieldLink RX0 24 "BatteryCaches$Battery" "cutCost" "I", Cond.fieldLink RX0 27 "BatteryCaches$Battery" "rise" "I", Cond.fieldLink RX0 30 "BatteryCaches$Battery" "fall" "I"]
def wsX1_init : List Cond := .code yX1_init cX1_init 2 none :: ((wsX1_init_r1 ++ wsX1_init_r2) ++ wsX10 ++ wsX40 ++ wsX00)
def wsX1_dropOldest : List Cond := .code yX1_dropOldest cX1_dropOldest 3 none :: ([.fieldLink RX1 11 "BatteryCaches$History" "states" "[LBatteryCaches$State;", .fieldLink RX1 17 "BatteryCaches$History" "size" "I"] ++ wsX10)
def wsX6_isWithin : List Cond := .code yX6_isWithin cX6_isWithin 3 (some .boolean) :: ([])
def wsX6_copyRow : List Cond := .code yX6_copyRow cX6_copyRow 2 none :: ([.methodLink RX6 253 Lib.Math.min.name, .static Lib.Math.min.name, .initialized "java/lang/Math", .code Lib.Math.min.name Lib.Math.min.code 2 (some .int), .methodLink RX6 256 arraycopyName, .native arraycopyName, .static arraycopyName, .initialized "java/lang/System"])
def wsX4_copy_r1 : List Cond := [Cond.fieldLink RX4 12 "BatteryCaches$State" "battery" "LBatteryCaches$Battery;", Cond.fieldLink RX4 18 "BatteryCaches$State" "disk" "[I", Cond.fieldLink RX4 22 "BatteryCaches$State" "laid" "[I", Cond.fieldLink RX4 25 "BatteryCaches$State" "kind" "[I", Cond.fieldLink RX4 28 "BatteryCaches$State" "place" "[I", Cond.fieldLink RX4 31 "BatteryCaches$State" "value" "[I", Cond.fieldLink RX4 34 "BatteryCaches$State" "turn" "[I", Cond.fieldLink RX4 37 "BatteryCaches$State" "lastTurn" "I", Cond.fieldLink RX4 41 "BatteryCaches$State" "ticks" "I", Cond.fieldLink RX4 44 "BatteryCaches$State" "hits" "I", Cond.fieldLink RX4 47 "BatteryCaches$State" "misses" "I", Cond.fieldLink RX4 50 "BatteryCaches$State" "flushed" "I", Cond.fieldLink RX4 53 "BatteryCaches$State" "wentThrough" "I", Cond.fieldLink RX4 56 "BatteryCaches$State" "lost" "I", Cond.fieldLink RX4 59 "BatteryCaches$State" "cuts" "I", Cond.fieldLink RX4 62 "BatteryCaches$State" "cyclesEnded" "I", Cond.fieldLink RX4 65 "BatteryCaches$State" "laidInAll" "I", Cond.methodLink RX4 68 yX0_copyFrom, Cond.instanceMethod yX0_copyFrom, Cond.selects RX0 yX0_copyFrom yX0_copyFrom, Cond.initialized RX0, Cond.code yX0_copyFrom cX0_copyFrom 2 none, Cond.fieldLink RX0 9 "BatteryCaches$Battery" "charge" "I", Cond.fieldLink RX0 15 "BatteryCaches$Battery" "wear" "I"]
def wsX4_copy_r2 : List Cond := [Cond.fieldLink RX0 18 "BatteryCaches$Battery" "cycle" "I", Cond.fieldLink RX0 21 "BatteryCaches$Battery" "lineCost" "I", Cond.fieldLink RX0 24 "BatteryCaches$Battery" "cutCost" "I", Cond.fieldLink RX0 27 "BatteryCaches$Battery" "rise" "I", Cond.fieldLink RX0 30 "BatteryCaches$Battery" "fall" "I", Cond.static yX6_copyRow, Cond.initialized RX6, Cond.code yX6_copyRow cX6_copyRow 2 none, Cond.methodLink RX6 253 Lib.Math.min.name, Cond.static Lib.Math.min.name, Cond.initialized "java/lang/Math", Cond.code Lib.Math.min.name Lib.Math.min.code 2 (some .int), Cond.methodLink RX6 256 arraycopyName, Cond.native arraycopyName, Cond.static arraycopyName, Cond.initialized "java/lang/System"]
def wsX4_copy : List Cond := .code yX4_copy cX4_copy 2 none :: ((wsX4_copy_r1 ++ wsX4_copy_r2) ++ wsX40 ++ wsX00)
def wsX1_keep_r1 : List Cond := [Cond.fieldLink RX1 17 "BatteryCaches$History" "size" "I", Cond.fieldLink RX1 11 "BatteryCaches$History" "states" "[LBatteryCaches$State;", Cond.methodLink RX1 22 yX1_dropOldest, Cond.instanceMethod yX1_dropOldest, Cond.selects RX1 yX1_dropOldest yX1_dropOldest, Cond.initialized RX1, Cond.code yX1_dropOldest cX1_dropOldest 3 none, Cond.static yX6_isWithin, Cond.initialized RX6, Cond.code yX6_isWithin cX6_isWithin 3 (some .boolean), Cond.methodLink RX1 29 yX4_copy, Cond.static yX4_copy, Cond.initialized RX4, Cond.code yX4_copy cX4_copy 2 none, Cond.fieldLink RX4 12 "BatteryCaches$State" "battery" "LBatteryCaches$Battery;", Cond.fieldLink RX4 18 "BatteryCaches$State" "disk" "[I", Cond.fieldLink RX4 22 "BatteryCaches$State" "laid" "[I", Cond.fieldLink RX4 25 "BatteryCaches$State" "kind" "[I", Cond.fieldLink RX4 28 "BatteryCaches$State" "place" "[I", Cond.fieldLink RX4 31 "BatteryCaches$State" "value" "[I", Cond.fieldLink RX4 34 "BatteryCaches$State" "turn" "[I", Cond.fieldLink RX4 37 "BatteryCaches$State" "lastTurn" "I", Cond.fieldLink RX4 41 "BatteryCaches$State" "ticks" "I", Cond.fieldLink RX4 44 "BatteryCaches$State" "hits" "I"]
def wsX1_keep_r2 : List Cond := [Cond.fieldLink RX4 47 "BatteryCaches$State" "misses" "I", Cond.fieldLink RX4 50 "BatteryCaches$State" "flushed" "I", Cond.fieldLink RX4 53 "BatteryCaches$State" "wentThrough" "I", Cond.fieldLink RX4 56 "BatteryCaches$State" "lost" "I", Cond.fieldLink RX4 59 "BatteryCaches$State" "cuts" "I", Cond.fieldLink RX4 62 "BatteryCaches$State" "cyclesEnded" "I", Cond.fieldLink RX4 65 "BatteryCaches$State" "laidInAll" "I", Cond.methodLink RX4 68 yX0_copyFrom, Cond.instanceMethod yX0_copyFrom, Cond.selects RX0 yX0_copyFrom yX0_copyFrom, Cond.initialized RX0, Cond.code yX0_copyFrom cX0_copyFrom 2 none, Cond.fieldLink RX0 9 "BatteryCaches$Battery" "charge" "I", Cond.fieldLink RX0 15 "BatteryCaches$Battery" "wear" "I", Cond.fieldLink RX0 18 "BatteryCaches$Battery" "cycle" "I", Cond.fieldLink RX0 21 "BatteryCaches$Battery" "lineCost" "I", Cond.fieldLink RX0 24 "BatteryCaches$Battery" "cutCost" "I", Cond.fieldLink RX0 27 "BatteryCaches$Battery" "rise" "I", Cond.fieldLink RX0 30 "BatteryCaches$Battery" "fall" "I", Cond.static yX6_copyRow, Cond.code yX6_copyRow cX6_copyRow 2 none, Cond.methodLink RX6 253 Lib.Math.min.name, Cond.static Lib.Math.min.name, Cond.initialized "java/lang/Math"]
def wsX1_keep_r3 : List Cond := [Cond.code Lib.Math.min.name Lib.Math.min.code 2 (some .int), Cond.methodLink RX6 256 arraycopyName, Cond.native arraycopyName, Cond.static arraycopyName, Cond.initialized "java/lang/System"]
def wsX1_keep : List Cond := .code yX1_keep cX1_keep 2 none :: ((wsX1_keep_r1 ++ (wsX1_keep_r2 ++ wsX1_keep_r3)) ++ wsX10 ++ wsX40 ++ wsX00)
def wsX2_init : List Cond := .code yX2_init cX2_init 1 none :: ([.methodLink RX2 3 objectInit, .instanceMethod objectInit, .code objectInit ⟨#[0xb1]⟩ 1 none, .fieldLink RX2 9 "BatteryCaches$Order" "start" "I", .fieldLink RX2 15 "BatteryCaches$Order" "next" "I", .fieldLink RX2 18 "BatteryCaches$Order" "letter" "I", .fieldLink RX2 21 "BatteryCaches$Order" "number" "I", .fieldLink RX2 24 "BatteryCaches$Order" "newValue" "I", .fieldLink RX2 27 "BatteryCaches$Order" "reason" "I", .fieldLink RX2 30 "BatteryCaches$Order" "cause" "I"] ++ wsX20)
def wsX3_init_r1 : List Cond := [Cond.methodLink RX3 3 objectInit, Cond.instanceMethod objectInit, Cond.code objectInit ⟨#[0xb1]⟩ 1 none, Cond.classLink RX3 9 RX4, Cond.instantiable RX4 17, Cond.initialized RX4, Cond.fieldLink RX3 12 "BatteryCaches$Rehearsal" "trial" "LBatteryCaches$State;", Cond.classLink RX3 18 RX2, Cond.instantiable RX2 7, Cond.initialized RX2, Cond.fieldLink RX3 21 "BatteryCaches$Rehearsal" "order" "LBatteryCaches$Order;", Cond.fieldLink RX3 25 "BatteryCaches$Rehearsal" "done" "I", Cond.instanceMethod yX4_init, Cond.code yX4_init cX4_init 1 none, Cond.methodLink RX4 3 objectInit, Cond.classLink RX4 9 RX0, Cond.instantiable RX0 7, Cond.initialized RX0, Cond.fieldLink RX4 12 "BatteryCaches$State" "battery" "LBatteryCaches$Battery;", Cond.arrayClass .int, Cond.fieldLink RX4 18 "BatteryCaches$State" "disk" "[I", Cond.fieldLink RX4 22 "BatteryCaches$State" "laid" "[I", Cond.fieldLink RX4 25 "BatteryCaches$State" "kind" "[I", Cond.fieldLink RX4 28 "BatteryCaches$State" "place" "[I"]
def wsX3_init_r2 : List Cond := [Cond.fieldLink RX4 31 "BatteryCaches$State" "value" "[I", Cond.fieldLink RX4 34 "BatteryCaches$State" "turn" "[I", Cond.fieldLink RX4 37 "BatteryCaches$State" "lastTurn" "I", Cond.fieldLink RX4 41 "BatteryCaches$State" "ticks" "I", Cond.fieldLink RX4 44 "BatteryCaches$State" "hits" "I", Cond.fieldLink RX4 47 "BatteryCaches$State" "misses" "I", Cond.fieldLink RX4 50 "BatteryCaches$State" "flushed" "I", Cond.fieldLink RX4 53 "BatteryCaches$State" "wentThrough" "I", Cond.fieldLink RX4 56 "BatteryCaches$State" "lost" "I", Cond.fieldLink RX4 59 "BatteryCaches$State" "cuts" "I", Cond.fieldLink RX4 62 "BatteryCaches$State" "cyclesEnded" "I", Cond.fieldLink RX4 65 "BatteryCaches$State" "laidInAll" "I", Cond.instanceMethod yX0_init, Cond.code yX0_init cX0_init 1 none, Cond.methodLink RX0 3 objectInit, Cond.fieldLink RX0 9 "BatteryCaches$Battery" "charge" "I", Cond.fieldLink RX0 15 "BatteryCaches$Battery" "wear" "I", Cond.fieldLink RX0 18 "BatteryCaches$Battery" "cycle" "I", Cond.fieldLink RX0 21 "BatteryCaches$Battery" "lineCost" "I", Cond.fieldLink RX0 24 "BatteryCaches$Battery" "cutCost" "I", Cond.fieldLink RX0 27 "BatteryCaches$Battery" "rise" "I", Cond.fieldLink RX0 30 "BatteryCaches$Battery" "fall" "I", Cond.instanceMethod yX2_init, Cond.code yX2_init cX2_init 1 none]
def wsX3_init_r3 : List Cond := [Cond.methodLink RX2 3 objectInit, Cond.fieldLink RX2 9 "BatteryCaches$Order" "start" "I", Cond.fieldLink RX2 15 "BatteryCaches$Order" "next" "I", Cond.fieldLink RX2 18 "BatteryCaches$Order" "letter" "I", Cond.fieldLink RX2 21 "BatteryCaches$Order" "number" "I", Cond.fieldLink RX2 24 "BatteryCaches$Order" "newValue" "I", Cond.fieldLink RX2 27 "BatteryCaches$Order" "reason" "I", Cond.fieldLink RX2 30 "BatteryCaches$Order" "cause" "I"]
def wsX3_init : List Cond := .code yX3_init cX3_init 1 none :: ((wsX3_init_r1 ++ (wsX3_init_r2 ++ wsX3_init_r3)) ++ wsX40 ++ wsX30 ++ wsX20 ++ wsX00)
def wsX4_holderOf : List Cond := .code yX4_holderOf cX4_holderOf 3 (some .int) :: ([.fieldLink RX4 25 "BatteryCaches$State" "kind" "[I", .fieldLink RX4 28 "BatteryCaches$State" "place" "[I"] ++ wsX40)
def wsX6_isLine : List Cond := .code yX6_isLine cX6_isLine 1 (some .boolean) :: ([])
def wsX4_lowestEmpty : List Cond := .code yX4_lowestEmpty cX4_lowestEmpty 2 (some .int) :: ([.fieldLink RX4 25 "BatteryCaches$State" "kind" "[I"] ++ wsX40)
def wsX4_lowestTurn : List Cond := .code yX4_lowestTurn cX4_lowestTurn 5 (some .int) :: ([.fieldLink RX4 25 "BatteryCaches$State" "kind" "[I", .fieldLink RX4 34 "BatteryCaches$State" "turn" "[I"] ++ wsX40)
def wsX4_lineToTake : List Cond := .code yX4_lineToTake cX4_lineToTake 2 (some .int) :: ([.methodLink RX4 108 yX4_lowestEmpty, .instanceMethod yX4_lowestEmpty, .selects RX4 yX4_lowestEmpty yX4_lowestEmpty, .initialized RX4, .code yX4_lowestEmpty cX4_lowestEmpty 2 (some .int), .fieldLink RX4 25 "BatteryCaches$State" "kind" "[I", .methodLink RX4 111 yX4_lowestTurn, .instanceMethod yX4_lowestTurn, .selects RX4 yX4_lowestTurn yX4_lowestTurn, .code yX4_lowestTurn cX4_lowestTurn 5 (some .int), .fieldLink RX4 34 "BatteryCaches$State" "turn" "[I"] ++ wsX40)
def wsX6_isPlace : List Cond := .code yX6_isPlace cX6_isPlace 1 (some .boolean) :: ([])
def wsX4_layOnDisk : List Cond := .code yX4_layOnDisk cX4_layOnDisk 3 none :: ([.fieldLink RX4 18 "BatteryCaches$State" "disk" "[I", .fieldLink RX4 22 "BatteryCaches$State" "laid" "[I", .fieldLink RX4 65 "BatteryCaches$State" "laidInAll" "I", .static yX6_isPlace, .initialized RX6, .code yX6_isPlace cX6_isPlace 1 (some .boolean)] ++ wsX40)
def wsX4_flushLine : List Cond := .code yX4_flushLine cX4_flushLine 2 none :: ([.fieldLink RX4 25 "BatteryCaches$State" "kind" "[I", .fieldLink RX4 28 "BatteryCaches$State" "place" "[I", .fieldLink RX4 31 "BatteryCaches$State" "value" "[I", .fieldLink RX4 50 "BatteryCaches$State" "flushed" "I", .static yX6_isLine, .initialized RX6, .code yX6_isLine cX6_isLine 1 (some .boolean), .methodLink RX4 91 yX4_layOnDisk, .instanceMethod yX4_layOnDisk, .selects RX4 yX4_layOnDisk yX4_layOnDisk, .initialized RX4, .code yX4_layOnDisk cX4_layOnDisk 3 none, .fieldLink RX4 18 "BatteryCaches$State" "disk" "[I", .fieldLink RX4 22 "BatteryCaches$State" "laid" "[I", .fieldLink RX4 65 "BatteryCaches$State" "laidInAll" "I", .static yX6_isPlace, .code yX6_isPlace cX6_isPlace 1 (some .boolean)] ++ wsX40)
def wsX4_layIntoLine : List Cond := .code yX4_layIntoLine cX4_layIntoLine 3 none :: ([.fieldLink RX4 25 "BatteryCaches$State" "kind" "[I", .fieldLink RX4 28 "BatteryCaches$State" "place" "[I", .fieldLink RX4 31 "BatteryCaches$State" "value" "[I", .fieldLink RX4 18 "BatteryCaches$State" "disk" "[I", .static yX6_isLine, .initialized RX6, .code yX6_isLine cX6_isLine 1 (some .boolean), .static yX6_isPlace, .code yX6_isPlace cX6_isPlace 1 (some .boolean)] ++ wsX40)
def wsX4_lineFor_r1 : List Cond := [Cond.fieldLink RX4 44 "BatteryCaches$State" "hits" "I", Cond.fieldLink RX4 47 "BatteryCaches$State" "misses" "I", Cond.fieldLink RX4 37 "BatteryCaches$State" "lastTurn" "I", Cond.fieldLink RX4 34 "BatteryCaches$State" "turn" "[I", Cond.methodLink RX4 95 yX4_holderOf, Cond.instanceMethod yX4_holderOf, Cond.selects RX4 yX4_holderOf yX4_holderOf, Cond.initialized RX4, Cond.code yX4_holderOf cX4_holderOf 3 (some .int), Cond.fieldLink RX4 25 "BatteryCaches$State" "kind" "[I", Cond.fieldLink RX4 28 "BatteryCaches$State" "place" "[I", Cond.static yX6_isLine, Cond.initialized RX6, Cond.code yX6_isLine cX6_isLine 1 (some .boolean), Cond.methodLink RX4 98 yX4_lineToTake, Cond.instanceMethod yX4_lineToTake, Cond.selects RX4 yX4_lineToTake yX4_lineToTake, Cond.code yX4_lineToTake cX4_lineToTake 2 (some .int), Cond.methodLink RX4 108 yX4_lowestEmpty, Cond.instanceMethod yX4_lowestEmpty, Cond.selects RX4 yX4_lowestEmpty yX4_lowestEmpty, Cond.code yX4_lowestEmpty cX4_lowestEmpty 2 (some .int), Cond.methodLink RX4 111 yX4_lowestTurn, Cond.instanceMethod yX4_lowestTurn]
def wsX4_lineFor_r2 : List Cond := [Cond.selects RX4 yX4_lowestTurn yX4_lowestTurn, Cond.code yX4_lowestTurn cX4_lowestTurn 5 (some .int), Cond.methodLink RX4 101 yX4_flushLine, Cond.instanceMethod yX4_flushLine, Cond.selects RX4 yX4_flushLine yX4_flushLine, Cond.code yX4_flushLine cX4_flushLine 2 none, Cond.fieldLink RX4 31 "BatteryCaches$State" "value" "[I", Cond.fieldLink RX4 50 "BatteryCaches$State" "flushed" "I", Cond.methodLink RX4 91 yX4_layOnDisk, Cond.instanceMethod yX4_layOnDisk, Cond.selects RX4 yX4_layOnDisk yX4_layOnDisk, Cond.code yX4_layOnDisk cX4_layOnDisk 3 none, Cond.fieldLink RX4 18 "BatteryCaches$State" "disk" "[I", Cond.fieldLink RX4 22 "BatteryCaches$State" "laid" "[I", Cond.fieldLink RX4 65 "BatteryCaches$State" "laidInAll" "I", Cond.static yX6_isPlace, Cond.code yX6_isPlace cX6_isPlace 1 (some .boolean), Cond.methodLink RX4 105 yX4_layIntoLine, Cond.instanceMethod yX4_layIntoLine, Cond.selects RX4 yX4_layIntoLine yX4_layIntoLine, Cond.code yX4_layIntoLine cX4_layIntoLine 3 none]
def wsX4_lineFor : List Cond := .code yX4_lineFor cX4_lineFor 3 (some .int) :: ((wsX4_lineFor_r1 ++ wsX4_lineFor_r2) ++ wsX40)
def wsX4_readPlace_r1 : List Cond := [Cond.fieldLink RX4 31 "BatteryCaches$State" "value" "[I", Cond.methodLink RX4 76 yX4_lineFor, Cond.instanceMethod yX4_lineFor, Cond.selects RX4 yX4_lineFor yX4_lineFor, Cond.initialized RX4, Cond.code yX4_lineFor cX4_lineFor 3 (some .int), Cond.fieldLink RX4 44 "BatteryCaches$State" "hits" "I", Cond.fieldLink RX4 47 "BatteryCaches$State" "misses" "I", Cond.fieldLink RX4 37 "BatteryCaches$State" "lastTurn" "I", Cond.fieldLink RX4 34 "BatteryCaches$State" "turn" "[I", Cond.methodLink RX4 95 yX4_holderOf, Cond.instanceMethod yX4_holderOf, Cond.selects RX4 yX4_holderOf yX4_holderOf, Cond.code yX4_holderOf cX4_holderOf 3 (some .int), Cond.fieldLink RX4 25 "BatteryCaches$State" "kind" "[I", Cond.fieldLink RX4 28 "BatteryCaches$State" "place" "[I", Cond.static yX6_isLine, Cond.initialized RX6, Cond.code yX6_isLine cX6_isLine 1 (some .boolean), Cond.methodLink RX4 98 yX4_lineToTake, Cond.instanceMethod yX4_lineToTake, Cond.selects RX4 yX4_lineToTake yX4_lineToTake, Cond.code yX4_lineToTake cX4_lineToTake 2 (some .int), Cond.methodLink RX4 108 yX4_lowestEmpty]
def wsX4_readPlace_r2 : List Cond := [Cond.instanceMethod yX4_lowestEmpty, Cond.selects RX4 yX4_lowestEmpty yX4_lowestEmpty, Cond.code yX4_lowestEmpty cX4_lowestEmpty 2 (some .int), Cond.methodLink RX4 111 yX4_lowestTurn, Cond.instanceMethod yX4_lowestTurn, Cond.selects RX4 yX4_lowestTurn yX4_lowestTurn, Cond.code yX4_lowestTurn cX4_lowestTurn 5 (some .int), Cond.methodLink RX4 101 yX4_flushLine, Cond.instanceMethod yX4_flushLine, Cond.selects RX4 yX4_flushLine yX4_flushLine, Cond.code yX4_flushLine cX4_flushLine 2 none, Cond.fieldLink RX4 50 "BatteryCaches$State" "flushed" "I", Cond.methodLink RX4 91 yX4_layOnDisk, Cond.instanceMethod yX4_layOnDisk, Cond.selects RX4 yX4_layOnDisk yX4_layOnDisk, Cond.code yX4_layOnDisk cX4_layOnDisk 3 none, Cond.fieldLink RX4 18 "BatteryCaches$State" "disk" "[I", Cond.fieldLink RX4 22 "BatteryCaches$State" "laid" "[I", Cond.fieldLink RX4 65 "BatteryCaches$State" "laidInAll" "I", Cond.static yX6_isPlace, Cond.code yX6_isPlace cX6_isPlace 1 (some .boolean), Cond.methodLink RX4 105 yX4_layIntoLine, Cond.instanceMethod yX4_layIntoLine, Cond.selects RX4 yX4_layIntoLine yX4_layIntoLine]
def wsX4_readPlace_r3 : List Cond := [Cond.code yX4_layIntoLine cX4_layIntoLine 3 none]
def wsX4_readPlace : List Cond := .code yX4_readPlace cX4_readPlace 3 (some .int) :: ((wsX4_readPlace_r1 ++ (wsX4_readPlace_r2 ++ wsX4_readPlace_r3)) ++ wsX40)
def wsX4_setOf : List Cond := .code yX4_setOf cX4_setOf 4 (some .int) :: ([.fieldLink RX4 25 "BatteryCaches$State" "kind" "[I"] ++ wsX40)
def wsJ6_bitCount_0f7a4 : List Cond := .code yJ6_bitCount_0f7a4 cJ6_bitCount_0f7a4 1 (some .int) :: ([.constant RJ6 265 (1431655765), .constant RJ6 266 (858993459), .constant RJ6 267 (252645135)])
def wsX4_numberOf : List Cond := .code yX4_numberOf cX4_numberOf 2 (some .int) :: ([.methodLink RX4 154 yX4_setOf, .instanceMethod yX4_setOf, .selects RX4 yX4_setOf yX4_setOf, .initialized RX4, .code yX4_setOf cX4_setOf 4 (some .int), .fieldLink RX4 25 "BatteryCaches$State" "kind" "[I", .methodLink RX4 157 yJ6_bitCount_0f7a4, .static yJ6_bitCount_0f7a4, .initialized RJ6, .code yJ6_bitCount_0f7a4 cJ6_bitCount_0f7a4 1 (some .int), .constant RJ6 265 (1431655765), .constant RJ6 266 (858993459), .constant RJ6 267 (252645135)] ++ wsX40)
def wsX4_writePlace_r1 : List Cond := [Cond.fieldLink RX4 31 "BatteryCaches$State" "value" "[I", Cond.fieldLink RX4 25 "BatteryCaches$State" "kind" "[I", Cond.fieldLink RX4 12 "BatteryCaches$State" "battery" "LBatteryCaches$Battery;", Cond.fieldLink RX4 53 "BatteryCaches$State" "wentThrough" "I", Cond.methodLink RX4 76 yX4_lineFor, Cond.instanceMethod yX4_lineFor, Cond.selects RX4 yX4_lineFor yX4_lineFor, Cond.initialized RX4, Cond.code yX4_lineFor cX4_lineFor 3 (some .int), Cond.fieldLink RX4 44 "BatteryCaches$State" "hits" "I", Cond.fieldLink RX4 47 "BatteryCaches$State" "misses" "I", Cond.fieldLink RX4 37 "BatteryCaches$State" "lastTurn" "I", Cond.fieldLink RX4 34 "BatteryCaches$State" "turn" "[I", Cond.methodLink RX4 95 yX4_holderOf, Cond.instanceMethod yX4_holderOf, Cond.selects RX4 yX4_holderOf yX4_holderOf, Cond.code yX4_holderOf cX4_holderOf 3 (some .int), Cond.fieldLink RX4 28 "BatteryCaches$State" "place" "[I", Cond.static yX6_isLine, Cond.initialized RX6, Cond.code yX6_isLine cX6_isLine 1 (some .boolean), Cond.methodLink RX4 98 yX4_lineToTake, Cond.instanceMethod yX4_lineToTake, Cond.selects RX4 yX4_lineToTake yX4_lineToTake]
def wsX4_writePlace_r2 : List Cond := [Cond.code yX4_lineToTake cX4_lineToTake 2 (some .int), Cond.methodLink RX4 108 yX4_lowestEmpty, Cond.instanceMethod yX4_lowestEmpty, Cond.selects RX4 yX4_lowestEmpty yX4_lowestEmpty, Cond.code yX4_lowestEmpty cX4_lowestEmpty 2 (some .int), Cond.methodLink RX4 111 yX4_lowestTurn, Cond.instanceMethod yX4_lowestTurn, Cond.selects RX4 yX4_lowestTurn yX4_lowestTurn, Cond.code yX4_lowestTurn cX4_lowestTurn 5 (some .int), Cond.methodLink RX4 101 yX4_flushLine, Cond.instanceMethod yX4_flushLine, Cond.selects RX4 yX4_flushLine yX4_flushLine, Cond.code yX4_flushLine cX4_flushLine 2 none, Cond.fieldLink RX4 50 "BatteryCaches$State" "flushed" "I", Cond.methodLink RX4 91 yX4_layOnDisk, Cond.instanceMethod yX4_layOnDisk, Cond.selects RX4 yX4_layOnDisk yX4_layOnDisk, Cond.code yX4_layOnDisk cX4_layOnDisk 3 none, Cond.fieldLink RX4 18 "BatteryCaches$State" "disk" "[I", Cond.fieldLink RX4 22 "BatteryCaches$State" "laid" "[I", Cond.fieldLink RX4 65 "BatteryCaches$State" "laidInAll" "I", Cond.static yX6_isPlace, Cond.code yX6_isPlace cX6_isPlace 1 (some .boolean), Cond.methodLink RX4 105 yX4_layIntoLine]
def wsX4_writePlace_r3 : List Cond := [Cond.instanceMethod yX4_layIntoLine, Cond.selects RX4 yX4_layIntoLine yX4_layIntoLine, Cond.code yX4_layIntoLine cX4_layIntoLine 3 none, Cond.methodLink RX4 84 yX4_numberOf, Cond.instanceMethod yX4_numberOf, Cond.selects RX4 yX4_numberOf yX4_numberOf, Cond.code yX4_numberOf cX4_numberOf 2 (some .int), Cond.methodLink RX4 154 yX4_setOf, Cond.instanceMethod yX4_setOf, Cond.selects RX4 yX4_setOf yX4_setOf, Cond.code yX4_setOf cX4_setOf 4 (some .int), Cond.methodLink RX4 157 yJ6_bitCount_0f7a4, Cond.static yJ6_bitCount_0f7a4, Cond.initialized RJ6, Cond.code yJ6_bitCount_0f7a4 cJ6_bitCount_0f7a4 1 (some .int), Cond.constant RJ6 265 (1431655765), Cond.constant RJ6 266 (858993459), Cond.constant RJ6 267 (252645135), Cond.methodLink RX4 87 yX0_allowance, Cond.instanceMethod yX0_allowance, Cond.selects RX0 yX0_allowance yX0_allowance, Cond.initialized RX0, Cond.code yX0_allowance cX0_allowance 1 (some .int), Cond.fieldLink RX0 18 "BatteryCaches$Battery" "cycle" "I"]
def wsX4_writePlace_r4 : List Cond := [Cond.methodLink RX0 33 yX0_savable, Cond.instanceMethod yX0_savable, Cond.selects RX0 yX0_savable yX0_savable, Cond.code yX0_savable cX0_savable 1 (some .int), Cond.fieldLink RX0 9 "BatteryCaches$Battery" "charge" "I", Cond.fieldLink RX0 24 "BatteryCaches$Battery" "cutCost" "I", Cond.fieldLink RX0 21 "BatteryCaches$Battery" "lineCost" "I", Cond.methodLink RX0 37 Lib.Math.min.name, Cond.static Lib.Math.min.name, Cond.initialized "java/lang/Math", Cond.code Lib.Math.min.name Lib.Math.min.code 2 (some .int)]
def wsX4_writePlace : List Cond := .code yX4_writePlace cX4_writePlace 4 (some .int) :: ((wsX4_writePlace_r1 ++ (wsX4_writePlace_r2 ++ (wsX4_writePlace_r3 ++ wsX4_writePlace_r4))) ++ wsX40 ++ wsX00)
def wsX4_tooMany_r1 : List Cond := [Cond.fieldLink RX4 12 "BatteryCaches$State" "battery" "LBatteryCaches$Battery;", Cond.methodLink RX4 139 Lib.Math.max.name, Cond.static Lib.Math.max.name, Cond.initialized "java/lang/Math", Cond.code Lib.Math.max.name Lib.Math.max.code 2 (some .int), Cond.methodLink RX4 84 yX4_numberOf, Cond.instanceMethod yX4_numberOf, Cond.selects RX4 yX4_numberOf yX4_numberOf, Cond.initialized RX4, Cond.code yX4_numberOf cX4_numberOf 2 (some .int), Cond.methodLink RX4 154 yX4_setOf, Cond.instanceMethod yX4_setOf, Cond.selects RX4 yX4_setOf yX4_setOf, Cond.code yX4_setOf cX4_setOf 4 (some .int), Cond.fieldLink RX4 25 "BatteryCaches$State" "kind" "[I", Cond.methodLink RX4 157 yJ6_bitCount_0f7a4, Cond.static yJ6_bitCount_0f7a4, Cond.initialized RJ6, Cond.code yJ6_bitCount_0f7a4 cJ6_bitCount_0f7a4 1 (some .int), Cond.constant RJ6 265 (1431655765), Cond.constant RJ6 266 (858993459), Cond.constant RJ6 267 (252645135), Cond.methodLink RX4 87 yX0_allowance, Cond.instanceMethod yX0_allowance]
def wsX4_tooMany_r2 : List Cond := [Cond.selects RX0 yX0_allowance yX0_allowance, Cond.initialized RX0, Cond.code yX0_allowance cX0_allowance 1 (some .int), Cond.fieldLink RX0 18 "BatteryCaches$Battery" "cycle" "I", Cond.methodLink RX0 33 yX0_savable, Cond.instanceMethod yX0_savable, Cond.selects RX0 yX0_savable yX0_savable, Cond.code yX0_savable cX0_savable 1 (some .int), Cond.fieldLink RX0 9 "BatteryCaches$Battery" "charge" "I", Cond.fieldLink RX0 24 "BatteryCaches$Battery" "cutCost" "I", Cond.fieldLink RX0 21 "BatteryCaches$Battery" "lineCost" "I", Cond.methodLink RX0 37 Lib.Math.min.name, Cond.static Lib.Math.min.name, Cond.code Lib.Math.min.name Lib.Math.min.code 2 (some .int)]
def wsX4_tooMany : List Cond := .code yX4_tooMany cX4_tooMany 1 (some .int) :: ((wsX4_tooMany_r1 ++ wsX4_tooMany_r2) ++ wsX40 ++ wsX00)
def wsX4_flushLowest_r1 : List Cond := [Cond.methodLink RX4 111 yX4_lowestTurn, Cond.instanceMethod yX4_lowestTurn, Cond.selects RX4 yX4_lowestTurn yX4_lowestTurn, Cond.initialized RX4, Cond.code yX4_lowestTurn cX4_lowestTurn 5 (some .int), Cond.fieldLink RX4 25 "BatteryCaches$State" "kind" "[I", Cond.fieldLink RX4 34 "BatteryCaches$State" "turn" "[I", Cond.methodLink RX4 101 yX4_flushLine, Cond.instanceMethod yX4_flushLine, Cond.selects RX4 yX4_flushLine yX4_flushLine, Cond.code yX4_flushLine cX4_flushLine 2 none, Cond.fieldLink RX4 28 "BatteryCaches$State" "place" "[I", Cond.fieldLink RX4 31 "BatteryCaches$State" "value" "[I", Cond.fieldLink RX4 50 "BatteryCaches$State" "flushed" "I", Cond.static yX6_isLine, Cond.initialized RX6, Cond.code yX6_isLine cX6_isLine 1 (some .boolean), Cond.methodLink RX4 91 yX4_layOnDisk, Cond.instanceMethod yX4_layOnDisk, Cond.selects RX4 yX4_layOnDisk yX4_layOnDisk, Cond.code yX4_layOnDisk cX4_layOnDisk 3 none, Cond.fieldLink RX4 18 "BatteryCaches$State" "disk" "[I", Cond.fieldLink RX4 22 "BatteryCaches$State" "laid" "[I", Cond.fieldLink RX4 65 "BatteryCaches$State" "laidInAll" "I"]
def wsX4_flushLowest_r2 : List Cond := [Cond.static yX6_isPlace, Cond.code yX6_isPlace cX6_isPlace 1 (some .boolean)]
def wsX4_flushLowest : List Cond := .code yX4_flushLowest cX4_flushLowest 3 (some .int) :: ((wsX4_flushLowest_r1 ++ wsX4_flushLowest_r2) ++ wsX40)
def wsX4_passTicks_r1 : List Cond := [Cond.fieldLink RX4 50 "BatteryCaches$State" "flushed" "I", Cond.fieldLink RX4 41 "BatteryCaches$State" "ticks" "I", Cond.fieldLink RX4 12 "BatteryCaches$State" "battery" "LBatteryCaches$Battery;", Cond.fieldLink RX4 62 "BatteryCaches$State" "cyclesEnded" "I", Cond.methodLink RX4 117 yX0_passTick, Cond.instanceMethod yX0_passTick, Cond.selects RX0 yX0_passTick yX0_passTick, Cond.initialized RX0, Cond.code yX0_passTick cX0_passTick 1 (some .boolean), Cond.fieldLink RX0 18 "BatteryCaches$Battery" "cycle" "I", Cond.fieldLink RX0 9 "BatteryCaches$Battery" "charge" "I", Cond.fieldLink RX0 27 "BatteryCaches$Battery" "rise" "I", Cond.methodLink RX0 37 Lib.Math.min.name, Cond.static Lib.Math.min.name, Cond.initialized "java/lang/Math", Cond.code Lib.Math.min.name Lib.Math.min.code 2 (some .int), Cond.methodLink RX0 54 yX0_fallInCycle, Cond.instanceMethod yX0_fallInCycle, Cond.selects RX0 yX0_fallInCycle yX0_fallInCycle, Cond.code yX0_fallInCycle cX0_fallInCycle 1 none, Cond.fieldLink RX0 30 "BatteryCaches$Battery" "fall" "I", Cond.fieldLink RX0 15 "BatteryCaches$Battery" "wear" "I", Cond.methodLink RX0 50 yX0_useUp, Cond.instanceMethod yX0_useUp]
def wsX4_passTicks_r2 : List Cond := [Cond.selects RX0 yX0_useUp yX0_useUp, Cond.code yX0_useUp cX0_useUp 2 none, Cond.methodLink RX0 43 Lib.Math.max.name, Cond.static Lib.Math.max.name, Cond.code Lib.Math.max.name Lib.Math.max.code 2 (some .int), Cond.methodLink RX0 57 yX0_capacity, Cond.instanceMethod yX0_capacity, Cond.selects RX0 yX0_capacity yX0_capacity, Cond.code yX0_capacity cX0_capacity 1 (some .int), Cond.methodLink RX4 121 yX4_tooMany, Cond.instanceMethod yX4_tooMany, Cond.selects RX4 yX4_tooMany yX4_tooMany, Cond.initialized RX4, Cond.code yX4_tooMany cX4_tooMany 1 (some .int), Cond.methodLink RX4 139 Lib.Math.max.name, Cond.methodLink RX4 84 yX4_numberOf, Cond.instanceMethod yX4_numberOf, Cond.selects RX4 yX4_numberOf yX4_numberOf, Cond.code yX4_numberOf cX4_numberOf 2 (some .int), Cond.methodLink RX4 154 yX4_setOf, Cond.instanceMethod yX4_setOf, Cond.selects RX4 yX4_setOf yX4_setOf, Cond.code yX4_setOf cX4_setOf 4 (some .int), Cond.fieldLink RX4 25 "BatteryCaches$State" "kind" "[I"]
def wsX4_passTicks_r3 : List Cond := [Cond.methodLink RX4 157 yJ6_bitCount_0f7a4, Cond.static yJ6_bitCount_0f7a4, Cond.initialized RJ6, Cond.code yJ6_bitCount_0f7a4 cJ6_bitCount_0f7a4 1 (some .int), Cond.constant RJ6 265 (1431655765), Cond.constant RJ6 266 (858993459), Cond.constant RJ6 267 (252645135), Cond.methodLink RX4 87 yX0_allowance, Cond.instanceMethod yX0_allowance, Cond.selects RX0 yX0_allowance yX0_allowance, Cond.code yX0_allowance cX0_allowance 1 (some .int), Cond.methodLink RX0 33 yX0_savable, Cond.instanceMethod yX0_savable, Cond.selects RX0 yX0_savable yX0_savable, Cond.code yX0_savable cX0_savable 1 (some .int), Cond.fieldLink RX0 24 "BatteryCaches$Battery" "cutCost" "I", Cond.fieldLink RX0 21 "BatteryCaches$Battery" "lineCost" "I", Cond.methodLink RX4 124 yX4_flushLowest, Cond.instanceMethod yX4_flushLowest, Cond.selects RX4 yX4_flushLowest yX4_flushLowest, Cond.code yX4_flushLowest cX4_flushLowest 3 (some .int), Cond.methodLink RX4 111 yX4_lowestTurn, Cond.instanceMethod yX4_lowestTurn, Cond.selects RX4 yX4_lowestTurn yX4_lowestTurn]
def wsX4_passTicks_r4 : List Cond := [Cond.code yX4_lowestTurn cX4_lowestTurn 5 (some .int), Cond.fieldLink RX4 34 "BatteryCaches$State" "turn" "[I", Cond.methodLink RX4 101 yX4_flushLine, Cond.instanceMethod yX4_flushLine, Cond.selects RX4 yX4_flushLine yX4_flushLine, Cond.code yX4_flushLine cX4_flushLine 2 none, Cond.fieldLink RX4 28 "BatteryCaches$State" "place" "[I", Cond.fieldLink RX4 31 "BatteryCaches$State" "value" "[I", Cond.static yX6_isLine, Cond.initialized RX6, Cond.code yX6_isLine cX6_isLine 1 (some .boolean), Cond.methodLink RX4 91 yX4_layOnDisk, Cond.instanceMethod yX4_layOnDisk, Cond.selects RX4 yX4_layOnDisk yX4_layOnDisk, Cond.code yX4_layOnDisk cX4_layOnDisk 3 none, Cond.fieldLink RX4 18 "BatteryCaches$State" "disk" "[I", Cond.fieldLink RX4 22 "BatteryCaches$State" "laid" "[I", Cond.fieldLink RX4 65 "BatteryCaches$State" "laidInAll" "I", Cond.static yX6_isPlace, Cond.code yX6_isPlace cX6_isPlace 1 (some .boolean)]
def wsX4_passTicks : List Cond := .code yX4_passTicks cX4_passTicks 4 (some .int) :: ((wsX4_passTicks_r1 ++ (wsX4_passTicks_r2 ++ (wsX4_passTicks_r3 ++ wsX4_passTicks_r4))) ++ wsX40 ++ wsX00)
def wsX4_putLoad_r1 : List Cond := [Cond.fieldLink RX4 12 "BatteryCaches$State" "battery" "LBatteryCaches$Battery;", Cond.methodLink RX4 127 yX0_useUp, Cond.instanceMethod yX0_useUp, Cond.selects RX0 yX0_useUp yX0_useUp, Cond.initialized RX0, Cond.code yX0_useUp cX0_useUp 2 none, Cond.fieldLink RX0 9 "BatteryCaches$Battery" "charge" "I", Cond.methodLink RX0 43 Lib.Math.max.name, Cond.static Lib.Math.max.name, Cond.initialized "java/lang/Math", Cond.code Lib.Math.max.name Lib.Math.max.code 2 (some .int), Cond.methodLink RX4 121 yX4_tooMany, Cond.instanceMethod yX4_tooMany, Cond.selects RX4 yX4_tooMany yX4_tooMany, Cond.initialized RX4, Cond.code yX4_tooMany cX4_tooMany 1 (some .int), Cond.methodLink RX4 139 Lib.Math.max.name, Cond.methodLink RX4 84 yX4_numberOf, Cond.instanceMethod yX4_numberOf, Cond.selects RX4 yX4_numberOf yX4_numberOf, Cond.code yX4_numberOf cX4_numberOf 2 (some .int), Cond.methodLink RX4 154 yX4_setOf, Cond.instanceMethod yX4_setOf, Cond.selects RX4 yX4_setOf yX4_setOf]
def wsX4_putLoad_r2 : List Cond := [Cond.code yX4_setOf cX4_setOf 4 (some .int), Cond.fieldLink RX4 25 "BatteryCaches$State" "kind" "[I", Cond.methodLink RX4 157 yJ6_bitCount_0f7a4, Cond.static yJ6_bitCount_0f7a4, Cond.initialized RJ6, Cond.code yJ6_bitCount_0f7a4 cJ6_bitCount_0f7a4 1 (some .int), Cond.constant RJ6 265 (1431655765), Cond.constant RJ6 266 (858993459), Cond.constant RJ6 267 (252645135), Cond.methodLink RX4 87 yX0_allowance, Cond.instanceMethod yX0_allowance, Cond.selects RX0 yX0_allowance yX0_allowance, Cond.code yX0_allowance cX0_allowance 1 (some .int), Cond.fieldLink RX0 18 "BatteryCaches$Battery" "cycle" "I", Cond.methodLink RX0 33 yX0_savable, Cond.instanceMethod yX0_savable, Cond.selects RX0 yX0_savable yX0_savable, Cond.code yX0_savable cX0_savable 1 (some .int), Cond.fieldLink RX0 24 "BatteryCaches$Battery" "cutCost" "I", Cond.fieldLink RX0 21 "BatteryCaches$Battery" "lineCost" "I", Cond.methodLink RX0 37 Lib.Math.min.name, Cond.static Lib.Math.min.name, Cond.code Lib.Math.min.name Lib.Math.min.code 2 (some .int), Cond.methodLink RX4 124 yX4_flushLowest]
def wsX4_putLoad_r3 : List Cond := [Cond.instanceMethod yX4_flushLowest, Cond.selects RX4 yX4_flushLowest yX4_flushLowest, Cond.code yX4_flushLowest cX4_flushLowest 3 (some .int), Cond.methodLink RX4 111 yX4_lowestTurn, Cond.instanceMethod yX4_lowestTurn, Cond.selects RX4 yX4_lowestTurn yX4_lowestTurn, Cond.code yX4_lowestTurn cX4_lowestTurn 5 (some .int), Cond.fieldLink RX4 34 "BatteryCaches$State" "turn" "[I", Cond.methodLink RX4 101 yX4_flushLine, Cond.instanceMethod yX4_flushLine, Cond.selects RX4 yX4_flushLine yX4_flushLine, Cond.code yX4_flushLine cX4_flushLine 2 none, Cond.fieldLink RX4 28 "BatteryCaches$State" "place" "[I", Cond.fieldLink RX4 31 "BatteryCaches$State" "value" "[I", Cond.fieldLink RX4 50 "BatteryCaches$State" "flushed" "I", Cond.static yX6_isLine, Cond.initialized RX6, Cond.code yX6_isLine cX6_isLine 1 (some .boolean), Cond.methodLink RX4 91 yX4_layOnDisk, Cond.instanceMethod yX4_layOnDisk, Cond.selects RX4 yX4_layOnDisk yX4_layOnDisk, Cond.code yX4_layOnDisk cX4_layOnDisk 3 none, Cond.fieldLink RX4 18 "BatteryCaches$State" "disk" "[I", Cond.fieldLink RX4 22 "BatteryCaches$State" "laid" "[I"]
def wsX4_putLoad_r4 : List Cond := [Cond.fieldLink RX4 65 "BatteryCaches$State" "laidInAll" "I", Cond.static yX6_isPlace, Cond.code yX6_isPlace cX6_isPlace 1 (some .boolean)]
def wsX4_putLoad : List Cond := .code yX4_putLoad cX4_putLoad 2 (some .int) :: ((wsX4_putLoad_r1 ++ (wsX4_putLoad_r2 ++ (wsX4_putLoad_r3 ++ wsX4_putLoad_r4))) ++ wsX40 ++ wsX00)
def wsX4_beginCycle_r1 : List Cond := [Cond.fieldLink RX4 12 "BatteryCaches$State" "battery" "LBatteryCaches$Battery;", Cond.fieldLink RX4 130 "BatteryCaches$Battery" "cycle" "I", Cond.methodLink RX4 121 yX4_tooMany, Cond.instanceMethod yX4_tooMany, Cond.selects RX4 yX4_tooMany yX4_tooMany, Cond.initialized RX4, Cond.code yX4_tooMany cX4_tooMany 1 (some .int), Cond.methodLink RX4 139 Lib.Math.max.name, Cond.static Lib.Math.max.name, Cond.initialized "java/lang/Math", Cond.code Lib.Math.max.name Lib.Math.max.code 2 (some .int), Cond.methodLink RX4 84 yX4_numberOf, Cond.instanceMethod yX4_numberOf, Cond.selects RX4 yX4_numberOf yX4_numberOf, Cond.code yX4_numberOf cX4_numberOf 2 (some .int), Cond.methodLink RX4 154 yX4_setOf, Cond.instanceMethod yX4_setOf, Cond.selects RX4 yX4_setOf yX4_setOf, Cond.code yX4_setOf cX4_setOf 4 (some .int), Cond.fieldLink RX4 25 "BatteryCaches$State" "kind" "[I", Cond.methodLink RX4 157 yJ6_bitCount_0f7a4, Cond.static yJ6_bitCount_0f7a4, Cond.initialized RJ6, Cond.code yJ6_bitCount_0f7a4 cJ6_bitCount_0f7a4 1 (some .int)]
def wsX4_beginCycle_r2 : List Cond := [Cond.constant RJ6 265 (1431655765), Cond.constant RJ6 266 (858993459), Cond.constant RJ6 267 (252645135), Cond.methodLink RX4 87 yX0_allowance, Cond.instanceMethod yX0_allowance, Cond.selects RX0 yX0_allowance yX0_allowance, Cond.initialized RX0, Cond.code yX0_allowance cX0_allowance 1 (some .int), Cond.fieldLink RX0 18 "BatteryCaches$Battery" "cycle" "I", Cond.methodLink RX0 33 yX0_savable, Cond.instanceMethod yX0_savable, Cond.selects RX0 yX0_savable yX0_savable, Cond.code yX0_savable cX0_savable 1 (some .int), Cond.fieldLink RX0 9 "BatteryCaches$Battery" "charge" "I", Cond.fieldLink RX0 24 "BatteryCaches$Battery" "cutCost" "I", Cond.fieldLink RX0 21 "BatteryCaches$Battery" "lineCost" "I", Cond.methodLink RX0 37 Lib.Math.min.name, Cond.static Lib.Math.min.name, Cond.code Lib.Math.min.name Lib.Math.min.code 2 (some .int), Cond.methodLink RX4 124 yX4_flushLowest, Cond.instanceMethod yX4_flushLowest, Cond.selects RX4 yX4_flushLowest yX4_flushLowest, Cond.code yX4_flushLowest cX4_flushLowest 3 (some .int), Cond.methodLink RX4 111 yX4_lowestTurn]
def wsX4_beginCycle_r3 : List Cond := [Cond.instanceMethod yX4_lowestTurn, Cond.selects RX4 yX4_lowestTurn yX4_lowestTurn, Cond.code yX4_lowestTurn cX4_lowestTurn 5 (some .int), Cond.fieldLink RX4 34 "BatteryCaches$State" "turn" "[I", Cond.methodLink RX4 101 yX4_flushLine, Cond.instanceMethod yX4_flushLine, Cond.selects RX4 yX4_flushLine yX4_flushLine, Cond.code yX4_flushLine cX4_flushLine 2 none, Cond.fieldLink RX4 28 "BatteryCaches$State" "place" "[I", Cond.fieldLink RX4 31 "BatteryCaches$State" "value" "[I", Cond.fieldLink RX4 50 "BatteryCaches$State" "flushed" "I", Cond.static yX6_isLine, Cond.initialized RX6, Cond.code yX6_isLine cX6_isLine 1 (some .boolean), Cond.methodLink RX4 91 yX4_layOnDisk, Cond.instanceMethod yX4_layOnDisk, Cond.selects RX4 yX4_layOnDisk yX4_layOnDisk, Cond.code yX4_layOnDisk cX4_layOnDisk 3 none, Cond.fieldLink RX4 18 "BatteryCaches$State" "disk" "[I", Cond.fieldLink RX4 22 "BatteryCaches$State" "laid" "[I", Cond.fieldLink RX4 65 "BatteryCaches$State" "laidInAll" "I", Cond.static yX6_isPlace, Cond.code yX6_isPlace cX6_isPlace 1 (some .boolean)]
def wsX4_beginCycle : List Cond := .code yX4_beginCycle cX4_beginCycle 1 (some .int) :: ((wsX4_beginCycle_r1 ++ (wsX4_beginCycle_r2 ++ wsX4_beginCycle_r3)) ++ wsX40 ++ wsX00)
def wsX4_savedByCut_r1 : List Cond := [Cond.fieldLink RX4 12 "BatteryCaches$State" "battery" "LBatteryCaches$Battery;", Cond.methodLink RX4 148 Lib.Math.min.name, Cond.static Lib.Math.min.name, Cond.initialized "java/lang/Math", Cond.code Lib.Math.min.name Lib.Math.min.code 2 (some .int), Cond.methodLink RX4 84 yX4_numberOf, Cond.instanceMethod yX4_numberOf, Cond.selects RX4 yX4_numberOf yX4_numberOf, Cond.initialized RX4, Cond.code yX4_numberOf cX4_numberOf 2 (some .int), Cond.methodLink RX4 154 yX4_setOf, Cond.instanceMethod yX4_setOf, Cond.selects RX4 yX4_setOf yX4_setOf, Cond.code yX4_setOf cX4_setOf 4 (some .int), Cond.fieldLink RX4 25 "BatteryCaches$State" "kind" "[I", Cond.methodLink RX4 157 yJ6_bitCount_0f7a4, Cond.static yJ6_bitCount_0f7a4, Cond.initialized RJ6, Cond.code yJ6_bitCount_0f7a4 cJ6_bitCount_0f7a4 1 (some .int), Cond.constant RJ6 265 (1431655765), Cond.constant RJ6 266 (858993459), Cond.constant RJ6 267 (252645135), Cond.methodLink RX4 145 yX0_savable, Cond.instanceMethod yX0_savable]
def wsX4_savedByCut_r2 : List Cond := [Cond.selects RX0 yX0_savable yX0_savable, Cond.initialized RX0, Cond.code yX0_savable cX0_savable 1 (some .int), Cond.fieldLink RX0 9 "BatteryCaches$Battery" "charge" "I", Cond.fieldLink RX0 24 "BatteryCaches$Battery" "cutCost" "I", Cond.fieldLink RX0 21 "BatteryCaches$Battery" "lineCost" "I", Cond.methodLink RX0 37 Lib.Math.min.name]
def wsX4_savedByCut : List Cond := .code yX4_savedByCut cX4_savedByCut 1 (some .int) :: ((wsX4_savedByCut_r1 ++ wsX4_savedByCut_r2) ++ wsX40 ++ wsX00)
def wsX4_cutPower_r1 : List Cond := [Cond.fieldLink RX4 12 "BatteryCaches$State" "battery" "LBatteryCaches$Battery;", Cond.fieldLink RX4 25 "BatteryCaches$State" "kind" "[I", Cond.fieldLink RX4 56 "BatteryCaches$State" "lost" "I", Cond.fieldLink RX4 59 "BatteryCaches$State" "cuts" "I", Cond.methodLink RX4 133 yX4_savedByCut, Cond.instanceMethod yX4_savedByCut, Cond.selects RX4 yX4_savedByCut yX4_savedByCut, Cond.initialized RX4, Cond.code yX4_savedByCut cX4_savedByCut 1 (some .int), Cond.methodLink RX4 148 Lib.Math.min.name, Cond.static Lib.Math.min.name, Cond.initialized "java/lang/Math", Cond.code Lib.Math.min.name Lib.Math.min.code 2 (some .int), Cond.methodLink RX4 84 yX4_numberOf, Cond.instanceMethod yX4_numberOf, Cond.selects RX4 yX4_numberOf yX4_numberOf, Cond.code yX4_numberOf cX4_numberOf 2 (some .int), Cond.methodLink RX4 154 yX4_setOf, Cond.instanceMethod yX4_setOf, Cond.selects RX4 yX4_setOf yX4_setOf, Cond.code yX4_setOf cX4_setOf 4 (some .int), Cond.methodLink RX4 157 yJ6_bitCount_0f7a4, Cond.static yJ6_bitCount_0f7a4, Cond.initialized RJ6]
def wsX4_cutPower_r2 : List Cond := [Cond.code yJ6_bitCount_0f7a4 cJ6_bitCount_0f7a4 1 (some .int), Cond.constant RJ6 265 (1431655765), Cond.constant RJ6 266 (858993459), Cond.constant RJ6 267 (252645135), Cond.methodLink RX4 145 yX0_savable, Cond.instanceMethod yX0_savable, Cond.selects RX0 yX0_savable yX0_savable, Cond.initialized RX0, Cond.code yX0_savable cX0_savable 1 (some .int), Cond.fieldLink RX0 9 "BatteryCaches$Battery" "charge" "I", Cond.fieldLink RX0 24 "BatteryCaches$Battery" "cutCost" "I", Cond.fieldLink RX0 21 "BatteryCaches$Battery" "lineCost" "I", Cond.methodLink RX0 37 Lib.Math.min.name, Cond.methodLink RX4 124 yX4_flushLowest, Cond.instanceMethod yX4_flushLowest, Cond.selects RX4 yX4_flushLowest yX4_flushLowest, Cond.code yX4_flushLowest cX4_flushLowest 3 (some .int), Cond.methodLink RX4 111 yX4_lowestTurn, Cond.instanceMethod yX4_lowestTurn, Cond.selects RX4 yX4_lowestTurn yX4_lowestTurn, Cond.code yX4_lowestTurn cX4_lowestTurn 5 (some .int), Cond.fieldLink RX4 34 "BatteryCaches$State" "turn" "[I", Cond.methodLink RX4 101 yX4_flushLine, Cond.instanceMethod yX4_flushLine]
def wsX4_cutPower_r3 : List Cond := [Cond.selects RX4 yX4_flushLine yX4_flushLine, Cond.code yX4_flushLine cX4_flushLine 2 none, Cond.fieldLink RX4 28 "BatteryCaches$State" "place" "[I", Cond.fieldLink RX4 31 "BatteryCaches$State" "value" "[I", Cond.fieldLink RX4 50 "BatteryCaches$State" "flushed" "I", Cond.static yX6_isLine, Cond.initialized RX6, Cond.code yX6_isLine cX6_isLine 1 (some .boolean), Cond.methodLink RX4 91 yX4_layOnDisk, Cond.instanceMethod yX4_layOnDisk, Cond.selects RX4 yX4_layOnDisk yX4_layOnDisk, Cond.code yX4_layOnDisk cX4_layOnDisk 3 none, Cond.fieldLink RX4 18 "BatteryCaches$State" "disk" "[I", Cond.fieldLink RX4 22 "BatteryCaches$State" "laid" "[I", Cond.fieldLink RX4 65 "BatteryCaches$State" "laidInAll" "I", Cond.static yX6_isPlace, Cond.code yX6_isPlace cX6_isPlace 1 (some .boolean), Cond.methodLink RX4 136 yX0_saveAtCut, Cond.instanceMethod yX0_saveAtCut, Cond.selects RX0 yX0_saveAtCut yX0_saveAtCut, Cond.code yX0_saveAtCut cX0_saveAtCut 2 none, Cond.fieldLink RX0 18 "BatteryCaches$Battery" "cycle" "I", Cond.methodLink RX0 46 yX0_costToSave, Cond.instanceMethod yX0_costToSave]
def wsX4_cutPower_r4 : List Cond := [Cond.selects RX0 yX0_costToSave yX0_costToSave, Cond.code yX0_costToSave cX0_costToSave 2 (some .int), Cond.methodLink RX0 50 yX0_useUp, Cond.instanceMethod yX0_useUp, Cond.selects RX0 yX0_useUp yX0_useUp, Cond.code yX0_useUp cX0_useUp 2 none, Cond.methodLink RX0 43 Lib.Math.max.name, Cond.static Lib.Math.max.name, Cond.code Lib.Math.max.name Lib.Math.max.code 2 (some .int)]
def wsX4_cutPower : List Cond := .code yX4_cutPower cX4_cutPower 4 (some .int) :: ((wsX4_cutPower_r1 ++ (wsX4_cutPower_r2 ++ (wsX4_cutPower_r3 ++ wsX4_cutPower_r4))) ++ wsX40 ++ wsX00)
def wsX4_linesAhead : List Cond := .code yX4_linesAhead cX4_linesAhead 5 (some .int) :: ([.fieldLink RX4 25 "BatteryCaches$State" "kind" "[I", .fieldLink RX4 34 "BatteryCaches$State" "turn" "[I", .static yX6_isLine, .initialized RX6, .code yX6_isLine cX6_isLine 1 (some .boolean)] ++ wsX40)
def wsX4_lostByCut_r1 : List Cond := [Cond.fieldLink RX4 25 "BatteryCaches$State" "kind" "[I", Cond.methodLink RX4 133 yX4_savedByCut, Cond.instanceMethod yX4_savedByCut, Cond.selects RX4 yX4_savedByCut yX4_savedByCut, Cond.initialized RX4, Cond.code yX4_savedByCut cX4_savedByCut 1 (some .int), Cond.fieldLink RX4 12 "BatteryCaches$State" "battery" "LBatteryCaches$Battery;", Cond.methodLink RX4 148 Lib.Math.min.name, Cond.static Lib.Math.min.name, Cond.initialized "java/lang/Math", Cond.code Lib.Math.min.name Lib.Math.min.code 2 (some .int), Cond.methodLink RX4 84 yX4_numberOf, Cond.instanceMethod yX4_numberOf, Cond.selects RX4 yX4_numberOf yX4_numberOf, Cond.code yX4_numberOf cX4_numberOf 2 (some .int), Cond.methodLink RX4 154 yX4_setOf, Cond.instanceMethod yX4_setOf, Cond.selects RX4 yX4_setOf yX4_setOf, Cond.code yX4_setOf cX4_setOf 4 (some .int), Cond.methodLink RX4 157 yJ6_bitCount_0f7a4, Cond.static yJ6_bitCount_0f7a4, Cond.initialized RJ6, Cond.code yJ6_bitCount_0f7a4 cJ6_bitCount_0f7a4 1 (some .int), Cond.constant RJ6 265 (1431655765)]
def wsX4_lostByCut_r2 : List Cond := [Cond.constant RJ6 266 (858993459), Cond.constant RJ6 267 (252645135), Cond.methodLink RX4 145 yX0_savable, Cond.instanceMethod yX0_savable, Cond.selects RX0 yX0_savable yX0_savable, Cond.initialized RX0, Cond.code yX0_savable cX0_savable 1 (some .int), Cond.fieldLink RX0 9 "BatteryCaches$Battery" "charge" "I", Cond.fieldLink RX0 24 "BatteryCaches$Battery" "cutCost" "I", Cond.fieldLink RX0 21 "BatteryCaches$Battery" "lineCost" "I", Cond.methodLink RX0 37 Lib.Math.min.name, Cond.methodLink RX4 151 yX4_linesAhead, Cond.instanceMethod yX4_linesAhead, Cond.selects RX4 yX4_linesAhead yX4_linesAhead, Cond.code yX4_linesAhead cX4_linesAhead 5 (some .int), Cond.fieldLink RX4 34 "BatteryCaches$State" "turn" "[I", Cond.static yX6_isLine, Cond.initialized RX6, Cond.code yX6_isLine cX6_isLine 1 (some .boolean)]
def wsX4_lostByCut : List Cond := .code yX4_lostByCut cX4_lostByCut 4 (some .int) :: ((wsX4_lostByCut_r1 ++ wsX4_lostByCut_r2) ++ wsX40 ++ wsX00)
def wsX5_init : List Cond := .code yX5_init cX5_init 1 none :: ([.methodLink RX5 3 objectInit, .instanceMethod objectInit, .code objectInit ⟨#[0xb1]⟩ 1 none, .arrayClass .int, .fieldLink RX5 9 "BatteryCaches$Text" "characters" "[I", .fieldLink RX5 15 "BatteryCaches$Text" "length" "I"] ++ wsX50)
def wsX6_init_r1 : List Cond := [Cond.methodLink RX6 1 objectInit, Cond.instanceMethod objectInit, Cond.code objectInit ⟨#[0xb1]⟩ 1 none, Cond.classLink RX6 7 RX4, Cond.instantiable RX4 17, Cond.initialized RX4, Cond.fieldLink RX6 10 "BatteryCaches" "now" "LBatteryCaches$State;", Cond.classLink RX6 16 RX1, Cond.instantiable RX1 2, Cond.initialized RX1, Cond.fieldLink RX6 19 "BatteryCaches" "history" "LBatteryCaches$History;", Cond.classLink RX6 23 RX5, Cond.instantiable RX5 2, Cond.initialized RX5, Cond.fieldLink RX6 26 "BatteryCaches" "text" "LBatteryCaches$Text;", Cond.classLink RX6 30 RX3, Cond.instantiable RX3 3, Cond.initialized RX3, Cond.fieldLink RX6 33 "BatteryCaches" "rehearsal" "LBatteryCaches$Rehearsal;", Cond.classLink RX6 37 RX0, Cond.instantiable RX0 7, Cond.initialized RX0, Cond.fieldLink RX6 40 "BatteryCaches" "trialBattery" "LBatteryCaches$Battery;", Cond.instanceMethod yX4_init]
def wsX6_init_r2 : List Cond := [Cond.code yX4_init cX4_init 1 none, Cond.methodLink RX4 3 objectInit, Cond.classLink RX4 9 RX0, Cond.fieldLink RX4 12 "BatteryCaches$State" "battery" "LBatteryCaches$Battery;", Cond.arrayClass .int, Cond.fieldLink RX4 18 "BatteryCaches$State" "disk" "[I", Cond.fieldLink RX4 22 "BatteryCaches$State" "laid" "[I", Cond.fieldLink RX4 25 "BatteryCaches$State" "kind" "[I", Cond.fieldLink RX4 28 "BatteryCaches$State" "place" "[I", Cond.fieldLink RX4 31 "BatteryCaches$State" "value" "[I", Cond.fieldLink RX4 34 "BatteryCaches$State" "turn" "[I", Cond.fieldLink RX4 37 "BatteryCaches$State" "lastTurn" "I", Cond.fieldLink RX4 41 "BatteryCaches$State" "ticks" "I", Cond.fieldLink RX4 44 "BatteryCaches$State" "hits" "I", Cond.fieldLink RX4 47 "BatteryCaches$State" "misses" "I", Cond.fieldLink RX4 50 "BatteryCaches$State" "flushed" "I", Cond.fieldLink RX4 53 "BatteryCaches$State" "wentThrough" "I", Cond.fieldLink RX4 56 "BatteryCaches$State" "lost" "I", Cond.fieldLink RX4 59 "BatteryCaches$State" "cuts" "I", Cond.fieldLink RX4 62 "BatteryCaches$State" "cyclesEnded" "I", Cond.fieldLink RX4 65 "BatteryCaches$State" "laidInAll" "I", Cond.instanceMethod yX0_init, Cond.code yX0_init cX0_init 1 none, Cond.methodLink RX0 3 objectInit]
def wsX6_init_r3 : List Cond := [Cond.fieldLink RX0 9 "BatteryCaches$Battery" "charge" "I", Cond.fieldLink RX0 15 "BatteryCaches$Battery" "wear" "I", Cond.fieldLink RX0 18 "BatteryCaches$Battery" "cycle" "I", Cond.fieldLink RX0 21 "BatteryCaches$Battery" "lineCost" "I", Cond.fieldLink RX0 24 "BatteryCaches$Battery" "cutCost" "I", Cond.fieldLink RX0 27 "BatteryCaches$Battery" "rise" "I", Cond.fieldLink RX0 30 "BatteryCaches$Battery" "fall" "I", Cond.methodLink RX6 18 yX1_init, Cond.instanceMethod yX1_init, Cond.code yX1_init cX1_init 2 none, Cond.methodLink RX1 3 objectInit, Cond.classLink RX1 9 RX4, Cond.fieldLink RX1 11 "BatteryCaches$History" "states" "[LBatteryCaches$State;", Cond.fieldLink RX1 17 "BatteryCaches$History" "size" "I", Cond.instanceMethod yX5_init, Cond.code yX5_init cX5_init 1 none, Cond.methodLink RX5 3 objectInit, Cond.fieldLink RX5 9 "BatteryCaches$Text" "characters" "[I", Cond.fieldLink RX5 15 "BatteryCaches$Text" "length" "I", Cond.instanceMethod yX3_init, Cond.code yX3_init cX3_init 1 none, Cond.methodLink RX3 3 objectInit, Cond.classLink RX3 9 RX4, Cond.fieldLink RX3 12 "BatteryCaches$Rehearsal" "trial" "LBatteryCaches$State;"]
def wsX6_init_r4 : List Cond := [Cond.classLink RX3 18 RX2, Cond.instantiable RX2 7, Cond.initialized RX2, Cond.fieldLink RX3 21 "BatteryCaches$Rehearsal" "order" "LBatteryCaches$Order;", Cond.fieldLink RX3 25 "BatteryCaches$Rehearsal" "done" "I", Cond.instanceMethod yX2_init, Cond.code yX2_init cX2_init 1 none, Cond.methodLink RX2 3 objectInit, Cond.fieldLink RX2 9 "BatteryCaches$Order" "start" "I", Cond.fieldLink RX2 15 "BatteryCaches$Order" "next" "I", Cond.fieldLink RX2 18 "BatteryCaches$Order" "letter" "I", Cond.fieldLink RX2 21 "BatteryCaches$Order" "number" "I", Cond.fieldLink RX2 24 "BatteryCaches$Order" "newValue" "I", Cond.fieldLink RX2 27 "BatteryCaches$Order" "reason" "I", Cond.fieldLink RX2 30 "BatteryCaches$Order" "cause" "I"]
def wsX6_init : List Cond := .code yX6_init cX6_init 1 none :: ((wsX6_init_r1 ++ (wsX6_init_r2 ++ (wsX6_init_r3 ++ wsX6_init_r4))) ++ wsX40 ++ wsX60 ++ wsX10 ++ wsX50 ++ wsX30 ++ wsX00 ++ wsX20)
def wsX6_read_r1 : List Cond := [Cond.constant RX6 48 (-1000001), Cond.fieldLink RX6 19 "BatteryCaches" "history" "LBatteryCaches$History;", Cond.fieldLink RX6 10 "BatteryCaches" "now" "LBatteryCaches$State;", Cond.methodLink RX6 44 yX6_isPlace, Cond.static yX6_isPlace, Cond.initialized RX6, Cond.code yX6_isPlace cX6_isPlace 1 (some .boolean), Cond.methodLink RX6 49 yX1_keep, Cond.instanceMethod yX1_keep, Cond.selects RX1 yX1_keep yX1_keep, Cond.initialized RX1, Cond.code yX1_keep cX1_keep 2 none, Cond.fieldLink RX1 17 "BatteryCaches$History" "size" "I", Cond.fieldLink RX1 11 "BatteryCaches$History" "states" "[LBatteryCaches$State;", Cond.methodLink RX1 22 yX1_dropOldest, Cond.instanceMethod yX1_dropOldest, Cond.selects RX1 yX1_dropOldest yX1_dropOldest, Cond.code yX1_dropOldest cX1_dropOldest 3 none, Cond.static yX6_isWithin, Cond.code yX6_isWithin cX6_isWithin 3 (some .boolean), Cond.methodLink RX1 29 yX4_copy, Cond.static yX4_copy, Cond.initialized RX4, Cond.code yX4_copy cX4_copy 2 none]
def wsX6_read_r2 : List Cond := [Cond.fieldLink RX4 12 "BatteryCaches$State" "battery" "LBatteryCaches$Battery;", Cond.fieldLink RX4 18 "BatteryCaches$State" "disk" "[I", Cond.fieldLink RX4 22 "BatteryCaches$State" "laid" "[I", Cond.fieldLink RX4 25 "BatteryCaches$State" "kind" "[I", Cond.fieldLink RX4 28 "BatteryCaches$State" "place" "[I", Cond.fieldLink RX4 31 "BatteryCaches$State" "value" "[I", Cond.fieldLink RX4 34 "BatteryCaches$State" "turn" "[I", Cond.fieldLink RX4 37 "BatteryCaches$State" "lastTurn" "I", Cond.fieldLink RX4 41 "BatteryCaches$State" "ticks" "I", Cond.fieldLink RX4 44 "BatteryCaches$State" "hits" "I", Cond.fieldLink RX4 47 "BatteryCaches$State" "misses" "I", Cond.fieldLink RX4 50 "BatteryCaches$State" "flushed" "I", Cond.fieldLink RX4 53 "BatteryCaches$State" "wentThrough" "I", Cond.fieldLink RX4 56 "BatteryCaches$State" "lost" "I", Cond.fieldLink RX4 59 "BatteryCaches$State" "cuts" "I", Cond.fieldLink RX4 62 "BatteryCaches$State" "cyclesEnded" "I", Cond.fieldLink RX4 65 "BatteryCaches$State" "laidInAll" "I", Cond.methodLink RX4 68 yX0_copyFrom, Cond.instanceMethod yX0_copyFrom, Cond.selects RX0 yX0_copyFrom yX0_copyFrom, Cond.initialized RX0, Cond.code yX0_copyFrom cX0_copyFrom 2 none, Cond.fieldLink RX0 9 "BatteryCaches$Battery" "charge" "I", Cond.fieldLink RX0 15 "BatteryCaches$Battery" "wear" "I"]
def wsX6_read_r3 : List Cond := [Cond.fieldLink RX0 18 "BatteryCaches$Battery" "cycle" "I", Cond.fieldLink RX0 21 "BatteryCaches$Battery" "lineCost" "I", Cond.fieldLink RX0 24 "BatteryCaches$Battery" "cutCost" "I", Cond.fieldLink RX0 27 "BatteryCaches$Battery" "rise" "I", Cond.fieldLink RX0 30 "BatteryCaches$Battery" "fall" "I", Cond.static yX6_copyRow, Cond.code yX6_copyRow cX6_copyRow 2 none, Cond.methodLink RX6 253 Lib.Math.min.name, Cond.static Lib.Math.min.name, Cond.initialized "java/lang/Math", Cond.code Lib.Math.min.name Lib.Math.min.code 2 (some .int), Cond.methodLink RX6 256 arraycopyName, Cond.native arraycopyName, Cond.static arraycopyName, Cond.initialized "java/lang/System", Cond.methodLink RX6 53 yX4_readPlace, Cond.instanceMethod yX4_readPlace, Cond.selects RX4 yX4_readPlace yX4_readPlace, Cond.code yX4_readPlace cX4_readPlace 3 (some .int), Cond.methodLink RX4 76 yX4_lineFor, Cond.instanceMethod yX4_lineFor, Cond.selects RX4 yX4_lineFor yX4_lineFor, Cond.code yX4_lineFor cX4_lineFor 3 (some .int), Cond.methodLink RX4 95 yX4_holderOf]
def wsX6_read_r4 : List Cond := [Cond.instanceMethod yX4_holderOf, Cond.selects RX4 yX4_holderOf yX4_holderOf, Cond.code yX4_holderOf cX4_holderOf 3 (some .int), Cond.static yX6_isLine, Cond.code yX6_isLine cX6_isLine 1 (some .boolean), Cond.methodLink RX4 98 yX4_lineToTake, Cond.instanceMethod yX4_lineToTake, Cond.selects RX4 yX4_lineToTake yX4_lineToTake, Cond.code yX4_lineToTake cX4_lineToTake 2 (some .int), Cond.methodLink RX4 108 yX4_lowestEmpty, Cond.instanceMethod yX4_lowestEmpty, Cond.selects RX4 yX4_lowestEmpty yX4_lowestEmpty, Cond.code yX4_lowestEmpty cX4_lowestEmpty 2 (some .int), Cond.methodLink RX4 111 yX4_lowestTurn, Cond.instanceMethod yX4_lowestTurn, Cond.selects RX4 yX4_lowestTurn yX4_lowestTurn, Cond.code yX4_lowestTurn cX4_lowestTurn 5 (some .int), Cond.methodLink RX4 101 yX4_flushLine, Cond.instanceMethod yX4_flushLine, Cond.selects RX4 yX4_flushLine yX4_flushLine, Cond.code yX4_flushLine cX4_flushLine 2 none, Cond.methodLink RX4 91 yX4_layOnDisk, Cond.instanceMethod yX4_layOnDisk, Cond.selects RX4 yX4_layOnDisk yX4_layOnDisk]
def wsX6_read_r5 : List Cond := [Cond.code yX4_layOnDisk cX4_layOnDisk 3 none, Cond.methodLink RX4 105 yX4_layIntoLine, Cond.instanceMethod yX4_layIntoLine, Cond.selects RX4 yX4_layIntoLine yX4_layIntoLine, Cond.code yX4_layIntoLine cX4_layIntoLine 3 none]
def wsX6_read : List Cond := .code yX6_read cX6_read 2 (some .int) :: ((wsX6_read_r1 ++ (wsX6_read_r2 ++ (wsX6_read_r3 ++ (wsX6_read_r4 ++ wsX6_read_r5)))) ++ wsX60 ++ wsX10 ++ wsX40 ++ wsX00)
def wsX6_write_r1 : List Cond := [Cond.constant RX6 48 (-1000001), Cond.fieldLink RX6 19 "BatteryCaches" "history" "LBatteryCaches$History;", Cond.fieldLink RX6 10 "BatteryCaches" "now" "LBatteryCaches$State;", Cond.methodLink RX6 44 yX6_isPlace, Cond.static yX6_isPlace, Cond.initialized RX6, Cond.code yX6_isPlace cX6_isPlace 1 (some .boolean), Cond.methodLink RX6 57 yX6_isWithin, Cond.static yX6_isWithin, Cond.code yX6_isWithin cX6_isWithin 3 (some .boolean), Cond.methodLink RX6 49 yX1_keep, Cond.instanceMethod yX1_keep, Cond.selects RX1 yX1_keep yX1_keep, Cond.initialized RX1, Cond.code yX1_keep cX1_keep 2 none, Cond.fieldLink RX1 17 "BatteryCaches$History" "size" "I", Cond.fieldLink RX1 11 "BatteryCaches$History" "states" "[LBatteryCaches$State;", Cond.methodLink RX1 22 yX1_dropOldest, Cond.instanceMethod yX1_dropOldest, Cond.selects RX1 yX1_dropOldest yX1_dropOldest, Cond.code yX1_dropOldest cX1_dropOldest 3 none, Cond.methodLink RX1 29 yX4_copy, Cond.static yX4_copy, Cond.initialized RX4]
def wsX6_write_r2 : List Cond := [Cond.code yX4_copy cX4_copy 2 none, Cond.fieldLink RX4 12 "BatteryCaches$State" "battery" "LBatteryCaches$Battery;", Cond.fieldLink RX4 18 "BatteryCaches$State" "disk" "[I", Cond.fieldLink RX4 22 "BatteryCaches$State" "laid" "[I", Cond.fieldLink RX4 25 "BatteryCaches$State" "kind" "[I", Cond.fieldLink RX4 28 "BatteryCaches$State" "place" "[I", Cond.fieldLink RX4 31 "BatteryCaches$State" "value" "[I", Cond.fieldLink RX4 34 "BatteryCaches$State" "turn" "[I", Cond.fieldLink RX4 37 "BatteryCaches$State" "lastTurn" "I", Cond.fieldLink RX4 41 "BatteryCaches$State" "ticks" "I", Cond.fieldLink RX4 44 "BatteryCaches$State" "hits" "I", Cond.fieldLink RX4 47 "BatteryCaches$State" "misses" "I", Cond.fieldLink RX4 50 "BatteryCaches$State" "flushed" "I", Cond.fieldLink RX4 53 "BatteryCaches$State" "wentThrough" "I", Cond.fieldLink RX4 56 "BatteryCaches$State" "lost" "I", Cond.fieldLink RX4 59 "BatteryCaches$State" "cuts" "I", Cond.fieldLink RX4 62 "BatteryCaches$State" "cyclesEnded" "I", Cond.fieldLink RX4 65 "BatteryCaches$State" "laidInAll" "I", Cond.methodLink RX4 68 yX0_copyFrom, Cond.instanceMethod yX0_copyFrom, Cond.selects RX0 yX0_copyFrom yX0_copyFrom, Cond.initialized RX0, Cond.code yX0_copyFrom cX0_copyFrom 2 none, Cond.fieldLink RX0 9 "BatteryCaches$Battery" "charge" "I"]
def wsX6_write_r3 : List Cond := [Cond.fieldLink RX0 15 "BatteryCaches$Battery" "wear" "I", Cond.fieldLink RX0 18 "BatteryCaches$Battery" "cycle" "I", Cond.fieldLink RX0 21 "BatteryCaches$Battery" "lineCost" "I", Cond.fieldLink RX0 24 "BatteryCaches$Battery" "cutCost" "I", Cond.fieldLink RX0 27 "BatteryCaches$Battery" "rise" "I", Cond.fieldLink RX0 30 "BatteryCaches$Battery" "fall" "I", Cond.static yX6_copyRow, Cond.code yX6_copyRow cX6_copyRow 2 none, Cond.methodLink RX6 253 Lib.Math.min.name, Cond.static Lib.Math.min.name, Cond.initialized "java/lang/Math", Cond.code Lib.Math.min.name Lib.Math.min.code 2 (some .int), Cond.methodLink RX6 256 arraycopyName, Cond.native arraycopyName, Cond.static arraycopyName, Cond.initialized "java/lang/System", Cond.methodLink RX6 61 yX4_writePlace, Cond.instanceMethod yX4_writePlace, Cond.selects RX4 yX4_writePlace yX4_writePlace, Cond.code yX4_writePlace cX4_writePlace 4 (some .int), Cond.methodLink RX4 76 yX4_lineFor, Cond.instanceMethod yX4_lineFor, Cond.selects RX4 yX4_lineFor yX4_lineFor, Cond.code yX4_lineFor cX4_lineFor 3 (some .int)]
def wsX6_write_r4 : List Cond := [Cond.methodLink RX4 95 yX4_holderOf, Cond.instanceMethod yX4_holderOf, Cond.selects RX4 yX4_holderOf yX4_holderOf, Cond.code yX4_holderOf cX4_holderOf 3 (some .int), Cond.static yX6_isLine, Cond.code yX6_isLine cX6_isLine 1 (some .boolean), Cond.methodLink RX4 98 yX4_lineToTake, Cond.instanceMethod yX4_lineToTake, Cond.selects RX4 yX4_lineToTake yX4_lineToTake, Cond.code yX4_lineToTake cX4_lineToTake 2 (some .int), Cond.methodLink RX4 108 yX4_lowestEmpty, Cond.instanceMethod yX4_lowestEmpty, Cond.selects RX4 yX4_lowestEmpty yX4_lowestEmpty, Cond.code yX4_lowestEmpty cX4_lowestEmpty 2 (some .int), Cond.methodLink RX4 111 yX4_lowestTurn, Cond.instanceMethod yX4_lowestTurn, Cond.selects RX4 yX4_lowestTurn yX4_lowestTurn, Cond.code yX4_lowestTurn cX4_lowestTurn 5 (some .int), Cond.methodLink RX4 101 yX4_flushLine, Cond.instanceMethod yX4_flushLine, Cond.selects RX4 yX4_flushLine yX4_flushLine, Cond.code yX4_flushLine cX4_flushLine 2 none, Cond.methodLink RX4 91 yX4_layOnDisk, Cond.instanceMethod yX4_layOnDisk]
def wsX6_write_r5 : List Cond := [Cond.selects RX4 yX4_layOnDisk yX4_layOnDisk, Cond.code yX4_layOnDisk cX4_layOnDisk 3 none, Cond.methodLink RX4 105 yX4_layIntoLine, Cond.instanceMethod yX4_layIntoLine, Cond.selects RX4 yX4_layIntoLine yX4_layIntoLine, Cond.code yX4_layIntoLine cX4_layIntoLine 3 none, Cond.methodLink RX4 84 yX4_numberOf, Cond.instanceMethod yX4_numberOf, Cond.selects RX4 yX4_numberOf yX4_numberOf, Cond.code yX4_numberOf cX4_numberOf 2 (some .int), Cond.methodLink RX4 154 yX4_setOf, Cond.instanceMethod yX4_setOf, Cond.selects RX4 yX4_setOf yX4_setOf, Cond.code yX4_setOf cX4_setOf 4 (some .int), Cond.methodLink RX4 157 yJ6_bitCount_0f7a4, Cond.static yJ6_bitCount_0f7a4, Cond.initialized RJ6, Cond.code yJ6_bitCount_0f7a4 cJ6_bitCount_0f7a4 1 (some .int), Cond.constant RJ6 265 (1431655765), Cond.constant RJ6 266 (858993459), Cond.constant RJ6 267 (252645135), Cond.methodLink RX4 87 yX0_allowance, Cond.instanceMethod yX0_allowance, Cond.selects RX0 yX0_allowance yX0_allowance]
def wsX6_write_r6 : List Cond := [Cond.code yX0_allowance cX0_allowance 1 (some .int), Cond.methodLink RX0 33 yX0_savable, Cond.instanceMethod yX0_savable, Cond.selects RX0 yX0_savable yX0_savable, Cond.code yX0_savable cX0_savable 1 (some .int), Cond.methodLink RX0 37 Lib.Math.min.name]
def wsX6_write : List Cond := .code yX6_write cX6_write 3 (some .int) :: ((wsX6_write_r1 ++ (wsX6_write_r2 ++ (wsX6_write_r3 ++ (wsX6_write_r4 ++ (wsX6_write_r5 ++ wsX6_write_r6))))) ++ wsX60 ++ wsX10 ++ wsX40 ++ wsX00)
def wsX6_flush_r1 : List Cond := [Cond.constant RX6 48 (-1000001), Cond.fieldLink RX6 10 "BatteryCaches" "now" "LBatteryCaches$State;", Cond.fieldLink RX6 68 "BatteryCaches$State" "kind" "[I", Cond.constant RX6 72 (-1000002), Cond.fieldLink RX6 19 "BatteryCaches" "history" "LBatteryCaches$History;", Cond.methodLink RX6 65 yX6_isLine, Cond.static yX6_isLine, Cond.initialized RX6, Cond.code yX6_isLine cX6_isLine 1 (some .boolean), Cond.methodLink RX6 49 yX1_keep, Cond.instanceMethod yX1_keep, Cond.selects RX1 yX1_keep yX1_keep, Cond.initialized RX1, Cond.code yX1_keep cX1_keep 2 none, Cond.fieldLink RX1 17 "BatteryCaches$History" "size" "I", Cond.fieldLink RX1 11 "BatteryCaches$History" "states" "[LBatteryCaches$State;", Cond.methodLink RX1 22 yX1_dropOldest, Cond.instanceMethod yX1_dropOldest, Cond.selects RX1 yX1_dropOldest yX1_dropOldest, Cond.code yX1_dropOldest cX1_dropOldest 3 none, Cond.static yX6_isWithin, Cond.code yX6_isWithin cX6_isWithin 3 (some .boolean), Cond.methodLink RX1 29 yX4_copy, Cond.static yX4_copy]
def wsX6_flush_r2 : List Cond := [Cond.initialized RX4, Cond.code yX4_copy cX4_copy 2 none, Cond.fieldLink RX4 12 "BatteryCaches$State" "battery" "LBatteryCaches$Battery;", Cond.fieldLink RX4 18 "BatteryCaches$State" "disk" "[I", Cond.fieldLink RX4 22 "BatteryCaches$State" "laid" "[I", Cond.fieldLink RX4 25 "BatteryCaches$State" "kind" "[I", Cond.fieldLink RX4 28 "BatteryCaches$State" "place" "[I", Cond.fieldLink RX4 31 "BatteryCaches$State" "value" "[I", Cond.fieldLink RX4 34 "BatteryCaches$State" "turn" "[I", Cond.fieldLink RX4 37 "BatteryCaches$State" "lastTurn" "I", Cond.fieldLink RX4 41 "BatteryCaches$State" "ticks" "I", Cond.fieldLink RX4 44 "BatteryCaches$State" "hits" "I", Cond.fieldLink RX4 47 "BatteryCaches$State" "misses" "I", Cond.fieldLink RX4 50 "BatteryCaches$State" "flushed" "I", Cond.fieldLink RX4 53 "BatteryCaches$State" "wentThrough" "I", Cond.fieldLink RX4 56 "BatteryCaches$State" "lost" "I", Cond.fieldLink RX4 59 "BatteryCaches$State" "cuts" "I", Cond.fieldLink RX4 62 "BatteryCaches$State" "cyclesEnded" "I", Cond.fieldLink RX4 65 "BatteryCaches$State" "laidInAll" "I", Cond.methodLink RX4 68 yX0_copyFrom, Cond.instanceMethod yX0_copyFrom, Cond.selects RX0 yX0_copyFrom yX0_copyFrom, Cond.initialized RX0, Cond.code yX0_copyFrom cX0_copyFrom 2 none]
def wsX6_flush_r3 : List Cond := [Cond.fieldLink RX0 9 "BatteryCaches$Battery" "charge" "I", Cond.fieldLink RX0 15 "BatteryCaches$Battery" "wear" "I", Cond.fieldLink RX0 18 "BatteryCaches$Battery" "cycle" "I", Cond.fieldLink RX0 21 "BatteryCaches$Battery" "lineCost" "I", Cond.fieldLink RX0 24 "BatteryCaches$Battery" "cutCost" "I", Cond.fieldLink RX0 27 "BatteryCaches$Battery" "rise" "I", Cond.fieldLink RX0 30 "BatteryCaches$Battery" "fall" "I", Cond.static yX6_copyRow, Cond.code yX6_copyRow cX6_copyRow 2 none, Cond.methodLink RX6 253 Lib.Math.min.name, Cond.static Lib.Math.min.name, Cond.initialized "java/lang/Math", Cond.code Lib.Math.min.name Lib.Math.min.code 2 (some .int), Cond.methodLink RX6 256 arraycopyName, Cond.native arraycopyName, Cond.static arraycopyName, Cond.initialized "java/lang/System", Cond.methodLink RX6 73 yX4_flushLine, Cond.instanceMethod yX4_flushLine, Cond.selects RX4 yX4_flushLine yX4_flushLine, Cond.code yX4_flushLine cX4_flushLine 2 none, Cond.methodLink RX4 91 yX4_layOnDisk, Cond.instanceMethod yX4_layOnDisk, Cond.selects RX4 yX4_layOnDisk yX4_layOnDisk]
def wsX6_flush_r4 : List Cond := [Cond.code yX4_layOnDisk cX4_layOnDisk 3 none, Cond.static yX6_isPlace, Cond.code yX6_isPlace cX6_isPlace 1 (some .boolean), Cond.methodLink RX6 77 yX4_numberOf, Cond.instanceMethod yX4_numberOf, Cond.selects RX4 yX4_numberOf yX4_numberOf, Cond.code yX4_numberOf cX4_numberOf 2 (some .int), Cond.methodLink RX4 154 yX4_setOf, Cond.instanceMethod yX4_setOf, Cond.selects RX4 yX4_setOf yX4_setOf, Cond.code yX4_setOf cX4_setOf 4 (some .int), Cond.methodLink RX4 157 yJ6_bitCount_0f7a4, Cond.static yJ6_bitCount_0f7a4, Cond.initialized RJ6, Cond.code yJ6_bitCount_0f7a4 cJ6_bitCount_0f7a4 1 (some .int), Cond.constant RJ6 265 (1431655765), Cond.constant RJ6 266 (858993459), Cond.constant RJ6 267 (252645135)]
def wsX6_flush : List Cond := .code yX6_flush cX6_flush 2 (some .int) :: ((wsX6_flush_r1 ++ (wsX6_flush_r2 ++ (wsX6_flush_r3 ++ wsX6_flush_r4))) ++ wsX60 ++ wsX40 ++ wsX10 ++ wsX00)
def wsX6_tick_r1 : List Cond := [Cond.constant RX6 48 (-1000001), Cond.fieldLink RX6 19 "BatteryCaches" "history" "LBatteryCaches$History;", Cond.fieldLink RX6 10 "BatteryCaches" "now" "LBatteryCaches$State;", Cond.methodLink RX6 57 yX6_isWithin, Cond.static yX6_isWithin, Cond.initialized RX6, Cond.code yX6_isWithin cX6_isWithin 3 (some .boolean), Cond.methodLink RX6 49 yX1_keep, Cond.instanceMethod yX1_keep, Cond.selects RX1 yX1_keep yX1_keep, Cond.initialized RX1, Cond.code yX1_keep cX1_keep 2 none, Cond.fieldLink RX1 17 "BatteryCaches$History" "size" "I", Cond.fieldLink RX1 11 "BatteryCaches$History" "states" "[LBatteryCaches$State;", Cond.methodLink RX1 22 yX1_dropOldest, Cond.instanceMethod yX1_dropOldest, Cond.selects RX1 yX1_dropOldest yX1_dropOldest, Cond.code yX1_dropOldest cX1_dropOldest 3 none, Cond.methodLink RX1 29 yX4_copy, Cond.static yX4_copy, Cond.initialized RX4, Cond.code yX4_copy cX4_copy 2 none, Cond.fieldLink RX4 12 "BatteryCaches$State" "battery" "LBatteryCaches$Battery;", Cond.fieldLink RX4 18 "BatteryCaches$State" "disk" "[I"]
def wsX6_tick_r2 : List Cond := [Cond.fieldLink RX4 22 "BatteryCaches$State" "laid" "[I", Cond.fieldLink RX4 25 "BatteryCaches$State" "kind" "[I", Cond.fieldLink RX4 28 "BatteryCaches$State" "place" "[I", Cond.fieldLink RX4 31 "BatteryCaches$State" "value" "[I", Cond.fieldLink RX4 34 "BatteryCaches$State" "turn" "[I", Cond.fieldLink RX4 37 "BatteryCaches$State" "lastTurn" "I", Cond.fieldLink RX4 41 "BatteryCaches$State" "ticks" "I", Cond.fieldLink RX4 44 "BatteryCaches$State" "hits" "I", Cond.fieldLink RX4 47 "BatteryCaches$State" "misses" "I", Cond.fieldLink RX4 50 "BatteryCaches$State" "flushed" "I", Cond.fieldLink RX4 53 "BatteryCaches$State" "wentThrough" "I", Cond.fieldLink RX4 56 "BatteryCaches$State" "lost" "I", Cond.fieldLink RX4 59 "BatteryCaches$State" "cuts" "I", Cond.fieldLink RX4 62 "BatteryCaches$State" "cyclesEnded" "I", Cond.fieldLink RX4 65 "BatteryCaches$State" "laidInAll" "I", Cond.methodLink RX4 68 yX0_copyFrom, Cond.instanceMethod yX0_copyFrom, Cond.selects RX0 yX0_copyFrom yX0_copyFrom, Cond.initialized RX0, Cond.code yX0_copyFrom cX0_copyFrom 2 none, Cond.fieldLink RX0 9 "BatteryCaches$Battery" "charge" "I", Cond.fieldLink RX0 15 "BatteryCaches$Battery" "wear" "I", Cond.fieldLink RX0 18 "BatteryCaches$Battery" "cycle" "I", Cond.fieldLink RX0 21 "BatteryCaches$Battery" "lineCost" "I"]
def wsX6_tick_r3 : List Cond := [Cond.fieldLink RX0 24 "BatteryCaches$Battery" "cutCost" "I", Cond.fieldLink RX0 27 "BatteryCaches$Battery" "rise" "I", Cond.fieldLink RX0 30 "BatteryCaches$Battery" "fall" "I", Cond.static yX6_copyRow, Cond.code yX6_copyRow cX6_copyRow 2 none, Cond.methodLink RX6 253 Lib.Math.min.name, Cond.static Lib.Math.min.name, Cond.initialized "java/lang/Math", Cond.code Lib.Math.min.name Lib.Math.min.code 2 (some .int), Cond.methodLink RX6 256 arraycopyName, Cond.native arraycopyName, Cond.static arraycopyName, Cond.initialized "java/lang/System", Cond.methodLink RX6 80 yX4_passTicks, Cond.instanceMethod yX4_passTicks, Cond.selects RX4 yX4_passTicks yX4_passTicks, Cond.code yX4_passTicks cX4_passTicks 4 (some .int), Cond.methodLink RX4 117 yX0_passTick, Cond.instanceMethod yX0_passTick, Cond.selects RX0 yX0_passTick yX0_passTick, Cond.code yX0_passTick cX0_passTick 1 (some .boolean), Cond.methodLink RX0 37 Lib.Math.min.name, Cond.methodLink RX0 54 yX0_fallInCycle, Cond.instanceMethod yX0_fallInCycle]
def wsX6_tick_r4 : List Cond := [Cond.selects RX0 yX0_fallInCycle yX0_fallInCycle, Cond.code yX0_fallInCycle cX0_fallInCycle 1 none, Cond.methodLink RX0 50 yX0_useUp, Cond.instanceMethod yX0_useUp, Cond.selects RX0 yX0_useUp yX0_useUp, Cond.code yX0_useUp cX0_useUp 2 none, Cond.methodLink RX0 43 Lib.Math.max.name, Cond.static Lib.Math.max.name, Cond.code Lib.Math.max.name Lib.Math.max.code 2 (some .int), Cond.methodLink RX0 57 yX0_capacity, Cond.instanceMethod yX0_capacity, Cond.selects RX0 yX0_capacity yX0_capacity, Cond.code yX0_capacity cX0_capacity 1 (some .int), Cond.methodLink RX4 121 yX4_tooMany, Cond.instanceMethod yX4_tooMany, Cond.selects RX4 yX4_tooMany yX4_tooMany, Cond.code yX4_tooMany cX4_tooMany 1 (some .int), Cond.methodLink RX4 139 Lib.Math.max.name, Cond.methodLink RX4 84 yX4_numberOf, Cond.instanceMethod yX4_numberOf, Cond.selects RX4 yX4_numberOf yX4_numberOf, Cond.code yX4_numberOf cX4_numberOf 2 (some .int), Cond.methodLink RX4 154 yX4_setOf, Cond.instanceMethod yX4_setOf]
def wsX6_tick_r5 : List Cond := [Cond.selects RX4 yX4_setOf yX4_setOf, Cond.code yX4_setOf cX4_setOf 4 (some .int), Cond.methodLink RX4 157 yJ6_bitCount_0f7a4, Cond.static yJ6_bitCount_0f7a4, Cond.initialized RJ6, Cond.code yJ6_bitCount_0f7a4 cJ6_bitCount_0f7a4 1 (some .int), Cond.constant RJ6 265 (1431655765), Cond.constant RJ6 266 (858993459), Cond.constant RJ6 267 (252645135), Cond.methodLink RX4 87 yX0_allowance, Cond.instanceMethod yX0_allowance, Cond.selects RX0 yX0_allowance yX0_allowance, Cond.code yX0_allowance cX0_allowance 1 (some .int), Cond.methodLink RX0 33 yX0_savable, Cond.instanceMethod yX0_savable, Cond.selects RX0 yX0_savable yX0_savable, Cond.code yX0_savable cX0_savable 1 (some .int), Cond.methodLink RX4 124 yX4_flushLowest, Cond.instanceMethod yX4_flushLowest, Cond.selects RX4 yX4_flushLowest yX4_flushLowest, Cond.code yX4_flushLowest cX4_flushLowest 3 (some .int), Cond.methodLink RX4 111 yX4_lowestTurn, Cond.instanceMethod yX4_lowestTurn, Cond.selects RX4 yX4_lowestTurn yX4_lowestTurn]
def wsX6_tick_r6 : List Cond := [Cond.code yX4_lowestTurn cX4_lowestTurn 5 (some .int), Cond.methodLink RX4 101 yX4_flushLine, Cond.instanceMethod yX4_flushLine, Cond.selects RX4 yX4_flushLine yX4_flushLine, Cond.code yX4_flushLine cX4_flushLine 2 none, Cond.static yX6_isLine, Cond.code yX6_isLine cX6_isLine 1 (some .boolean), Cond.methodLink RX4 91 yX4_layOnDisk, Cond.instanceMethod yX4_layOnDisk, Cond.selects RX4 yX4_layOnDisk yX4_layOnDisk, Cond.code yX4_layOnDisk cX4_layOnDisk 3 none, Cond.static yX6_isPlace, Cond.code yX6_isPlace cX6_isPlace 1 (some .boolean)]
def wsX6_tick : List Cond := .code yX6_tick cX6_tick 2 (some .int) :: ((wsX6_tick_r1 ++ (wsX6_tick_r2 ++ (wsX6_tick_r3 ++ (wsX6_tick_r4 ++ (wsX6_tick_r5 ++ wsX6_tick_r6))))) ++ wsX60 ++ wsX10 ++ wsX40 ++ wsX00)
def wsX6_load_r1 : List Cond := [Cond.constant RX6 48 (-1000001), Cond.fieldLink RX6 19 "BatteryCaches" "history" "LBatteryCaches$History;", Cond.fieldLink RX6 10 "BatteryCaches" "now" "LBatteryCaches$State;", Cond.methodLink RX6 57 yX6_isWithin, Cond.static yX6_isWithin, Cond.initialized RX6, Cond.code yX6_isWithin cX6_isWithin 3 (some .boolean), Cond.methodLink RX6 49 yX1_keep, Cond.instanceMethod yX1_keep, Cond.selects RX1 yX1_keep yX1_keep, Cond.initialized RX1, Cond.code yX1_keep cX1_keep 2 none, Cond.fieldLink RX1 17 "BatteryCaches$History" "size" "I", Cond.fieldLink RX1 11 "BatteryCaches$History" "states" "[LBatteryCaches$State;", Cond.methodLink RX1 22 yX1_dropOldest, Cond.instanceMethod yX1_dropOldest, Cond.selects RX1 yX1_dropOldest yX1_dropOldest, Cond.code yX1_dropOldest cX1_dropOldest 3 none, Cond.methodLink RX1 29 yX4_copy, Cond.static yX4_copy, Cond.initialized RX4, Cond.code yX4_copy cX4_copy 2 none, Cond.fieldLink RX4 12 "BatteryCaches$State" "battery" "LBatteryCaches$Battery;", Cond.fieldLink RX4 18 "BatteryCaches$State" "disk" "[I"]
def wsX6_load_r2 : List Cond := [Cond.fieldLink RX4 22 "BatteryCaches$State" "laid" "[I", Cond.fieldLink RX4 25 "BatteryCaches$State" "kind" "[I", Cond.fieldLink RX4 28 "BatteryCaches$State" "place" "[I", Cond.fieldLink RX4 31 "BatteryCaches$State" "value" "[I", Cond.fieldLink RX4 34 "BatteryCaches$State" "turn" "[I", Cond.fieldLink RX4 37 "BatteryCaches$State" "lastTurn" "I", Cond.fieldLink RX4 41 "BatteryCaches$State" "ticks" "I", Cond.fieldLink RX4 44 "BatteryCaches$State" "hits" "I", Cond.fieldLink RX4 47 "BatteryCaches$State" "misses" "I", Cond.fieldLink RX4 50 "BatteryCaches$State" "flushed" "I", Cond.fieldLink RX4 53 "BatteryCaches$State" "wentThrough" "I", Cond.fieldLink RX4 56 "BatteryCaches$State" "lost" "I", Cond.fieldLink RX4 59 "BatteryCaches$State" "cuts" "I", Cond.fieldLink RX4 62 "BatteryCaches$State" "cyclesEnded" "I", Cond.fieldLink RX4 65 "BatteryCaches$State" "laidInAll" "I", Cond.methodLink RX4 68 yX0_copyFrom, Cond.instanceMethod yX0_copyFrom, Cond.selects RX0 yX0_copyFrom yX0_copyFrom, Cond.initialized RX0, Cond.code yX0_copyFrom cX0_copyFrom 2 none, Cond.fieldLink RX0 9 "BatteryCaches$Battery" "charge" "I", Cond.fieldLink RX0 15 "BatteryCaches$Battery" "wear" "I", Cond.fieldLink RX0 18 "BatteryCaches$Battery" "cycle" "I", Cond.fieldLink RX0 21 "BatteryCaches$Battery" "lineCost" "I"]
def wsX6_load_r3 : List Cond := [Cond.fieldLink RX0 24 "BatteryCaches$Battery" "cutCost" "I", Cond.fieldLink RX0 27 "BatteryCaches$Battery" "rise" "I", Cond.fieldLink RX0 30 "BatteryCaches$Battery" "fall" "I", Cond.static yX6_copyRow, Cond.code yX6_copyRow cX6_copyRow 2 none, Cond.methodLink RX6 253 Lib.Math.min.name, Cond.static Lib.Math.min.name, Cond.initialized "java/lang/Math", Cond.code Lib.Math.min.name Lib.Math.min.code 2 (some .int), Cond.methodLink RX6 256 arraycopyName, Cond.native arraycopyName, Cond.static arraycopyName, Cond.initialized "java/lang/System", Cond.methodLink RX6 83 yX4_putLoad, Cond.instanceMethod yX4_putLoad, Cond.selects RX4 yX4_putLoad yX4_putLoad, Cond.code yX4_putLoad cX4_putLoad 2 (some .int), Cond.methodLink RX4 127 yX0_useUp, Cond.instanceMethod yX0_useUp, Cond.selects RX0 yX0_useUp yX0_useUp, Cond.code yX0_useUp cX0_useUp 2 none, Cond.methodLink RX0 43 Lib.Math.max.name, Cond.static Lib.Math.max.name, Cond.code Lib.Math.max.name Lib.Math.max.code 2 (some .int)]
def wsX6_load_r4 : List Cond := [Cond.methodLink RX4 121 yX4_tooMany, Cond.instanceMethod yX4_tooMany, Cond.selects RX4 yX4_tooMany yX4_tooMany, Cond.code yX4_tooMany cX4_tooMany 1 (some .int), Cond.methodLink RX4 139 Lib.Math.max.name, Cond.methodLink RX4 84 yX4_numberOf, Cond.instanceMethod yX4_numberOf, Cond.selects RX4 yX4_numberOf yX4_numberOf, Cond.code yX4_numberOf cX4_numberOf 2 (some .int), Cond.methodLink RX4 154 yX4_setOf, Cond.instanceMethod yX4_setOf, Cond.selects RX4 yX4_setOf yX4_setOf, Cond.code yX4_setOf cX4_setOf 4 (some .int), Cond.methodLink RX4 157 yJ6_bitCount_0f7a4, Cond.static yJ6_bitCount_0f7a4, Cond.initialized RJ6, Cond.code yJ6_bitCount_0f7a4 cJ6_bitCount_0f7a4 1 (some .int), Cond.constant RJ6 265 (1431655765), Cond.constant RJ6 266 (858993459), Cond.constant RJ6 267 (252645135), Cond.methodLink RX4 87 yX0_allowance, Cond.instanceMethod yX0_allowance, Cond.selects RX0 yX0_allowance yX0_allowance, Cond.code yX0_allowance cX0_allowance 1 (some .int)]
def wsX6_load_r5 : List Cond := [Cond.methodLink RX0 33 yX0_savable, Cond.instanceMethod yX0_savable, Cond.selects RX0 yX0_savable yX0_savable, Cond.code yX0_savable cX0_savable 1 (some .int), Cond.methodLink RX0 37 Lib.Math.min.name, Cond.methodLink RX4 124 yX4_flushLowest, Cond.instanceMethod yX4_flushLowest, Cond.selects RX4 yX4_flushLowest yX4_flushLowest, Cond.code yX4_flushLowest cX4_flushLowest 3 (some .int), Cond.methodLink RX4 111 yX4_lowestTurn, Cond.instanceMethod yX4_lowestTurn, Cond.selects RX4 yX4_lowestTurn yX4_lowestTurn, Cond.code yX4_lowestTurn cX4_lowestTurn 5 (some .int), Cond.methodLink RX4 101 yX4_flushLine, Cond.instanceMethod yX4_flushLine, Cond.selects RX4 yX4_flushLine yX4_flushLine, Cond.code yX4_flushLine cX4_flushLine 2 none, Cond.static yX6_isLine, Cond.code yX6_isLine cX6_isLine 1 (some .boolean), Cond.methodLink RX4 91 yX4_layOnDisk, Cond.instanceMethod yX4_layOnDisk, Cond.selects RX4 yX4_layOnDisk yX4_layOnDisk, Cond.code yX4_layOnDisk cX4_layOnDisk 3 none, Cond.static yX6_isPlace]
def wsX6_load_r6 : List Cond := [Cond.code yX6_isPlace cX6_isPlace 1 (some .boolean)]
def wsX6_load : List Cond := .code yX6_load cX6_load 2 (some .int) :: ((wsX6_load_r1 ++ (wsX6_load_r2 ++ (wsX6_load_r3 ++ (wsX6_load_r4 ++ (wsX6_load_r5 ++ wsX6_load_r6))))) ++ wsX60 ++ wsX10 ++ wsX40 ++ wsX00)
def wsX6_learn_r1 : List Cond := [Cond.fieldLink RX6 10 "BatteryCaches" "now" "LBatteryCaches$State;", Cond.fieldLink RX6 86 "BatteryCaches$State" "battery" "LBatteryCaches$Battery;", Cond.fieldLink RX6 89 "BatteryCaches$Battery" "cycle" "I", Cond.constant RX6 72 (-1000002), Cond.fieldLink RX6 19 "BatteryCaches" "history" "LBatteryCaches$History;", Cond.methodLink RX6 49 yX1_keep, Cond.instanceMethod yX1_keep, Cond.selects RX1 yX1_keep yX1_keep, Cond.initialized RX1, Cond.code yX1_keep cX1_keep 2 none, Cond.fieldLink RX1 17 "BatteryCaches$History" "size" "I", Cond.fieldLink RX1 11 "BatteryCaches$History" "states" "[LBatteryCaches$State;", Cond.methodLink RX1 22 yX1_dropOldest, Cond.instanceMethod yX1_dropOldest, Cond.selects RX1 yX1_dropOldest yX1_dropOldest, Cond.code yX1_dropOldest cX1_dropOldest 3 none, Cond.static yX6_isWithin, Cond.initialized RX6, Cond.code yX6_isWithin cX6_isWithin 3 (some .boolean), Cond.methodLink RX1 29 yX4_copy, Cond.static yX4_copy, Cond.initialized RX4, Cond.code yX4_copy cX4_copy 2 none, Cond.fieldLink RX4 12 "BatteryCaches$State" "battery" "LBatteryCaches$Battery;"]
def wsX6_learn_r2 : List Cond := [Cond.fieldLink RX4 18 "BatteryCaches$State" "disk" "[I", Cond.fieldLink RX4 22 "BatteryCaches$State" "laid" "[I", Cond.fieldLink RX4 25 "BatteryCaches$State" "kind" "[I", Cond.fieldLink RX4 28 "BatteryCaches$State" "place" "[I", Cond.fieldLink RX4 31 "BatteryCaches$State" "value" "[I", Cond.fieldLink RX4 34 "BatteryCaches$State" "turn" "[I", Cond.fieldLink RX4 37 "BatteryCaches$State" "lastTurn" "I", Cond.fieldLink RX4 41 "BatteryCaches$State" "ticks" "I", Cond.fieldLink RX4 44 "BatteryCaches$State" "hits" "I", Cond.fieldLink RX4 47 "BatteryCaches$State" "misses" "I", Cond.fieldLink RX4 50 "BatteryCaches$State" "flushed" "I", Cond.fieldLink RX4 53 "BatteryCaches$State" "wentThrough" "I", Cond.fieldLink RX4 56 "BatteryCaches$State" "lost" "I", Cond.fieldLink RX4 59 "BatteryCaches$State" "cuts" "I", Cond.fieldLink RX4 62 "BatteryCaches$State" "cyclesEnded" "I", Cond.fieldLink RX4 65 "BatteryCaches$State" "laidInAll" "I", Cond.methodLink RX4 68 yX0_copyFrom, Cond.instanceMethod yX0_copyFrom, Cond.selects RX0 yX0_copyFrom yX0_copyFrom, Cond.initialized RX0, Cond.code yX0_copyFrom cX0_copyFrom 2 none, Cond.fieldLink RX0 9 "BatteryCaches$Battery" "charge" "I", Cond.fieldLink RX0 15 "BatteryCaches$Battery" "wear" "I", Cond.fieldLink RX0 18 "BatteryCaches$Battery" "cycle" "I"]
def wsX6_learn_r3 : List Cond := [Cond.fieldLink RX0 21 "BatteryCaches$Battery" "lineCost" "I", Cond.fieldLink RX0 24 "BatteryCaches$Battery" "cutCost" "I", Cond.fieldLink RX0 27 "BatteryCaches$Battery" "rise" "I", Cond.fieldLink RX0 30 "BatteryCaches$Battery" "fall" "I", Cond.static yX6_copyRow, Cond.code yX6_copyRow cX6_copyRow 2 none, Cond.methodLink RX6 253 Lib.Math.min.name, Cond.static Lib.Math.min.name, Cond.initialized "java/lang/Math", Cond.code Lib.Math.min.name Lib.Math.min.code 2 (some .int), Cond.methodLink RX6 256 arraycopyName, Cond.native arraycopyName, Cond.static arraycopyName, Cond.initialized "java/lang/System", Cond.methodLink RX6 93 yX4_beginCycle, Cond.instanceMethod yX4_beginCycle, Cond.selects RX4 yX4_beginCycle yX4_beginCycle, Cond.code yX4_beginCycle cX4_beginCycle 1 (some .int), Cond.fieldLink RX4 130 "BatteryCaches$Battery" "cycle" "I", Cond.methodLink RX4 121 yX4_tooMany, Cond.instanceMethod yX4_tooMany, Cond.selects RX4 yX4_tooMany yX4_tooMany, Cond.code yX4_tooMany cX4_tooMany 1 (some .int), Cond.methodLink RX4 139 Lib.Math.max.name]
def wsX6_learn_r4 : List Cond := [Cond.static Lib.Math.max.name, Cond.code Lib.Math.max.name Lib.Math.max.code 2 (some .int), Cond.methodLink RX4 84 yX4_numberOf, Cond.instanceMethod yX4_numberOf, Cond.selects RX4 yX4_numberOf yX4_numberOf, Cond.code yX4_numberOf cX4_numberOf 2 (some .int), Cond.methodLink RX4 154 yX4_setOf, Cond.instanceMethod yX4_setOf, Cond.selects RX4 yX4_setOf yX4_setOf, Cond.code yX4_setOf cX4_setOf 4 (some .int), Cond.methodLink RX4 157 yJ6_bitCount_0f7a4, Cond.static yJ6_bitCount_0f7a4, Cond.initialized RJ6, Cond.code yJ6_bitCount_0f7a4 cJ6_bitCount_0f7a4 1 (some .int), Cond.constant RJ6 265 (1431655765), Cond.constant RJ6 266 (858993459), Cond.constant RJ6 267 (252645135), Cond.methodLink RX4 87 yX0_allowance, Cond.instanceMethod yX0_allowance, Cond.selects RX0 yX0_allowance yX0_allowance, Cond.code yX0_allowance cX0_allowance 1 (some .int), Cond.methodLink RX0 33 yX0_savable, Cond.instanceMethod yX0_savable, Cond.selects RX0 yX0_savable yX0_savable]
def wsX6_learn_r5 : List Cond := [Cond.code yX0_savable cX0_savable 1 (some .int), Cond.methodLink RX0 37 Lib.Math.min.name, Cond.methodLink RX4 124 yX4_flushLowest, Cond.instanceMethod yX4_flushLowest, Cond.selects RX4 yX4_flushLowest yX4_flushLowest, Cond.code yX4_flushLowest cX4_flushLowest 3 (some .int), Cond.methodLink RX4 111 yX4_lowestTurn, Cond.instanceMethod yX4_lowestTurn, Cond.selects RX4 yX4_lowestTurn yX4_lowestTurn, Cond.code yX4_lowestTurn cX4_lowestTurn 5 (some .int), Cond.methodLink RX4 101 yX4_flushLine, Cond.instanceMethod yX4_flushLine, Cond.selects RX4 yX4_flushLine yX4_flushLine, Cond.code yX4_flushLine cX4_flushLine 2 none, Cond.static yX6_isLine, Cond.code yX6_isLine cX6_isLine 1 (some .boolean), Cond.methodLink RX4 91 yX4_layOnDisk, Cond.instanceMethod yX4_layOnDisk, Cond.selects RX4 yX4_layOnDisk yX4_layOnDisk, Cond.code yX4_layOnDisk cX4_layOnDisk 3 none, Cond.static yX6_isPlace, Cond.code yX6_isPlace cX6_isPlace 1 (some .boolean)]
def wsX6_learn : List Cond := .code yX6_learn cX6_learn 1 (some .int) :: ((wsX6_learn_r1 ++ (wsX6_learn_r2 ++ (wsX6_learn_r3 ++ (wsX6_learn_r4 ++ wsX6_learn_r5)))) ++ wsX60 ++ wsX40 ++ wsX00 ++ wsX10)
def wsX6_cut_r1 : List Cond := [Cond.fieldLink RX6 19 "BatteryCaches" "history" "LBatteryCaches$History;", Cond.fieldLink RX6 10 "BatteryCaches" "now" "LBatteryCaches$State;", Cond.methodLink RX6 49 yX1_keep, Cond.instanceMethod yX1_keep, Cond.selects RX1 yX1_keep yX1_keep, Cond.initialized RX1, Cond.code yX1_keep cX1_keep 2 none, Cond.fieldLink RX1 17 "BatteryCaches$History" "size" "I", Cond.fieldLink RX1 11 "BatteryCaches$History" "states" "[LBatteryCaches$State;", Cond.methodLink RX1 22 yX1_dropOldest, Cond.instanceMethod yX1_dropOldest, Cond.selects RX1 yX1_dropOldest yX1_dropOldest, Cond.code yX1_dropOldest cX1_dropOldest 3 none, Cond.static yX6_isWithin, Cond.initialized RX6, Cond.code yX6_isWithin cX6_isWithin 3 (some .boolean), Cond.methodLink RX1 29 yX4_copy, Cond.static yX4_copy, Cond.initialized RX4, Cond.code yX4_copy cX4_copy 2 none, Cond.fieldLink RX4 12 "BatteryCaches$State" "battery" "LBatteryCaches$Battery;", Cond.fieldLink RX4 18 "BatteryCaches$State" "disk" "[I", Cond.fieldLink RX4 22 "BatteryCaches$State" "laid" "[I", Cond.fieldLink RX4 25 "BatteryCaches$State" "kind" "[I"]
def wsX6_cut_r2 : List Cond := [Cond.fieldLink RX4 28 "BatteryCaches$State" "place" "[I", Cond.fieldLink RX4 31 "BatteryCaches$State" "value" "[I", Cond.fieldLink RX4 34 "BatteryCaches$State" "turn" "[I", Cond.fieldLink RX4 37 "BatteryCaches$State" "lastTurn" "I", Cond.fieldLink RX4 41 "BatteryCaches$State" "ticks" "I", Cond.fieldLink RX4 44 "BatteryCaches$State" "hits" "I", Cond.fieldLink RX4 47 "BatteryCaches$State" "misses" "I", Cond.fieldLink RX4 50 "BatteryCaches$State" "flushed" "I", Cond.fieldLink RX4 53 "BatteryCaches$State" "wentThrough" "I", Cond.fieldLink RX4 56 "BatteryCaches$State" "lost" "I", Cond.fieldLink RX4 59 "BatteryCaches$State" "cuts" "I", Cond.fieldLink RX4 62 "BatteryCaches$State" "cyclesEnded" "I", Cond.fieldLink RX4 65 "BatteryCaches$State" "laidInAll" "I", Cond.methodLink RX4 68 yX0_copyFrom, Cond.instanceMethod yX0_copyFrom, Cond.selects RX0 yX0_copyFrom yX0_copyFrom, Cond.initialized RX0, Cond.code yX0_copyFrom cX0_copyFrom 2 none, Cond.fieldLink RX0 9 "BatteryCaches$Battery" "charge" "I", Cond.fieldLink RX0 15 "BatteryCaches$Battery" "wear" "I", Cond.fieldLink RX0 18 "BatteryCaches$Battery" "cycle" "I", Cond.fieldLink RX0 21 "BatteryCaches$Battery" "lineCost" "I", Cond.fieldLink RX0 24 "BatteryCaches$Battery" "cutCost" "I", Cond.fieldLink RX0 27 "BatteryCaches$Battery" "rise" "I"]
def wsX6_cut_r3 : List Cond := [Cond.fieldLink RX0 30 "BatteryCaches$Battery" "fall" "I", Cond.static yX6_copyRow, Cond.code yX6_copyRow cX6_copyRow 2 none, Cond.methodLink RX6 253 Lib.Math.min.name, Cond.static Lib.Math.min.name, Cond.initialized "java/lang/Math", Cond.code Lib.Math.min.name Lib.Math.min.code 2 (some .int), Cond.methodLink RX6 256 arraycopyName, Cond.native arraycopyName, Cond.static arraycopyName, Cond.initialized "java/lang/System", Cond.methodLink RX6 97 yX4_cutPower, Cond.instanceMethod yX4_cutPower, Cond.selects RX4 yX4_cutPower yX4_cutPower, Cond.code yX4_cutPower cX4_cutPower 4 (some .int), Cond.methodLink RX4 133 yX4_savedByCut, Cond.instanceMethod yX4_savedByCut, Cond.selects RX4 yX4_savedByCut yX4_savedByCut, Cond.code yX4_savedByCut cX4_savedByCut 1 (some .int), Cond.methodLink RX4 148 Lib.Math.min.name, Cond.methodLink RX4 84 yX4_numberOf, Cond.instanceMethod yX4_numberOf, Cond.selects RX4 yX4_numberOf yX4_numberOf, Cond.code yX4_numberOf cX4_numberOf 2 (some .int)]
def wsX6_cut_r4 : List Cond := [Cond.methodLink RX4 154 yX4_setOf, Cond.instanceMethod yX4_setOf, Cond.selects RX4 yX4_setOf yX4_setOf, Cond.code yX4_setOf cX4_setOf 4 (some .int), Cond.methodLink RX4 157 yJ6_bitCount_0f7a4, Cond.static yJ6_bitCount_0f7a4, Cond.initialized RJ6, Cond.code yJ6_bitCount_0f7a4 cJ6_bitCount_0f7a4 1 (some .int), Cond.constant RJ6 265 (1431655765), Cond.constant RJ6 266 (858993459), Cond.constant RJ6 267 (252645135), Cond.methodLink RX4 145 yX0_savable, Cond.instanceMethod yX0_savable, Cond.selects RX0 yX0_savable yX0_savable, Cond.code yX0_savable cX0_savable 1 (some .int), Cond.methodLink RX0 37 Lib.Math.min.name, Cond.methodLink RX4 124 yX4_flushLowest, Cond.instanceMethod yX4_flushLowest, Cond.selects RX4 yX4_flushLowest yX4_flushLowest, Cond.code yX4_flushLowest cX4_flushLowest 3 (some .int), Cond.methodLink RX4 111 yX4_lowestTurn, Cond.instanceMethod yX4_lowestTurn, Cond.selects RX4 yX4_lowestTurn yX4_lowestTurn, Cond.code yX4_lowestTurn cX4_lowestTurn 5 (some .int)]
def wsX6_cut_r5 : List Cond := [Cond.methodLink RX4 101 yX4_flushLine, Cond.instanceMethod yX4_flushLine, Cond.selects RX4 yX4_flushLine yX4_flushLine, Cond.code yX4_flushLine cX4_flushLine 2 none, Cond.static yX6_isLine, Cond.code yX6_isLine cX6_isLine 1 (some .boolean), Cond.methodLink RX4 91 yX4_layOnDisk, Cond.instanceMethod yX4_layOnDisk, Cond.selects RX4 yX4_layOnDisk yX4_layOnDisk, Cond.code yX4_layOnDisk cX4_layOnDisk 3 none, Cond.static yX6_isPlace, Cond.code yX6_isPlace cX6_isPlace 1 (some .boolean), Cond.methodLink RX4 136 yX0_saveAtCut, Cond.instanceMethod yX0_saveAtCut, Cond.selects RX0 yX0_saveAtCut yX0_saveAtCut, Cond.code yX0_saveAtCut cX0_saveAtCut 2 none, Cond.methodLink RX0 46 yX0_costToSave, Cond.instanceMethod yX0_costToSave, Cond.selects RX0 yX0_costToSave yX0_costToSave, Cond.code yX0_costToSave cX0_costToSave 2 (some .int), Cond.methodLink RX0 50 yX0_useUp, Cond.instanceMethod yX0_useUp, Cond.selects RX0 yX0_useUp yX0_useUp, Cond.code yX0_useUp cX0_useUp 2 none]
def wsX6_cut_r6 : List Cond := [Cond.methodLink RX0 43 Lib.Math.max.name, Cond.static Lib.Math.max.name, Cond.code Lib.Math.max.name Lib.Math.max.code 2 (some .int)]
def wsX6_cut : List Cond := .code yX6_cut cX6_cut 1 (some .int) :: ((wsX6_cut_r1 ++ (wsX6_cut_r2 ++ (wsX6_cut_r3 ++ (wsX6_cut_r4 ++ (wsX6_cut_r5 ++ wsX6_cut_r6))))) ++ wsX60 ++ wsX10 ++ wsX40 ++ wsX00)
def wsX6_isSetting : List Cond := .code yX6_isSetting cX6_isSetting 1 (some .boolean) :: ([])
def wsX6_set_r1 : List Cond := [Cond.fieldLink RX6 103 "BatteryCaches" "LEAST_SETTING" "[I", Cond.fieldLink RX6 106 "BatteryCaches" "MOST_SETTING" "[I", Cond.constant RX6 48 (-1000001), Cond.fieldLink RX6 19 "BatteryCaches" "history" "LBatteryCaches$History;", Cond.fieldLink RX6 10 "BatteryCaches" "now" "LBatteryCaches$State;", Cond.fieldLink RX6 86 "BatteryCaches$State" "battery" "LBatteryCaches$Battery;", Cond.methodLink RX6 100 yX6_isSetting, Cond.static yX6_isSetting, Cond.initialized RX6, Cond.code yX6_isSetting cX6_isSetting 1 (some .boolean), Cond.methodLink RX6 57 yX6_isWithin, Cond.static yX6_isWithin, Cond.code yX6_isWithin cX6_isWithin 3 (some .boolean), Cond.methodLink RX6 49 yX1_keep, Cond.instanceMethod yX1_keep, Cond.selects RX1 yX1_keep yX1_keep, Cond.initialized RX1, Cond.code yX1_keep cX1_keep 2 none, Cond.fieldLink RX1 17 "BatteryCaches$History" "size" "I", Cond.fieldLink RX1 11 "BatteryCaches$History" "states" "[LBatteryCaches$State;", Cond.methodLink RX1 22 yX1_dropOldest, Cond.instanceMethod yX1_dropOldest, Cond.selects RX1 yX1_dropOldest yX1_dropOldest, Cond.code yX1_dropOldest cX1_dropOldest 3 none]
def wsX6_set_r2 : List Cond := [Cond.methodLink RX1 29 yX4_copy, Cond.static yX4_copy, Cond.initialized RX4, Cond.code yX4_copy cX4_copy 2 none, Cond.fieldLink RX4 12 "BatteryCaches$State" "battery" "LBatteryCaches$Battery;", Cond.fieldLink RX4 18 "BatteryCaches$State" "disk" "[I", Cond.fieldLink RX4 22 "BatteryCaches$State" "laid" "[I", Cond.fieldLink RX4 25 "BatteryCaches$State" "kind" "[I", Cond.fieldLink RX4 28 "BatteryCaches$State" "place" "[I", Cond.fieldLink RX4 31 "BatteryCaches$State" "value" "[I", Cond.fieldLink RX4 34 "BatteryCaches$State" "turn" "[I", Cond.fieldLink RX4 37 "BatteryCaches$State" "lastTurn" "I", Cond.fieldLink RX4 41 "BatteryCaches$State" "ticks" "I", Cond.fieldLink RX4 44 "BatteryCaches$State" "hits" "I", Cond.fieldLink RX4 47 "BatteryCaches$State" "misses" "I", Cond.fieldLink RX4 50 "BatteryCaches$State" "flushed" "I", Cond.fieldLink RX4 53 "BatteryCaches$State" "wentThrough" "I", Cond.fieldLink RX4 56 "BatteryCaches$State" "lost" "I", Cond.fieldLink RX4 59 "BatteryCaches$State" "cuts" "I", Cond.fieldLink RX4 62 "BatteryCaches$State" "cyclesEnded" "I", Cond.fieldLink RX4 65 "BatteryCaches$State" "laidInAll" "I", Cond.methodLink RX4 68 yX0_copyFrom, Cond.instanceMethod yX0_copyFrom, Cond.selects RX0 yX0_copyFrom yX0_copyFrom]
def wsX6_set_r3 : List Cond := [Cond.initialized RX0, Cond.code yX0_copyFrom cX0_copyFrom 2 none, Cond.fieldLink RX0 9 "BatteryCaches$Battery" "charge" "I", Cond.fieldLink RX0 15 "BatteryCaches$Battery" "wear" "I", Cond.fieldLink RX0 18 "BatteryCaches$Battery" "cycle" "I", Cond.fieldLink RX0 21 "BatteryCaches$Battery" "lineCost" "I", Cond.fieldLink RX0 24 "BatteryCaches$Battery" "cutCost" "I", Cond.fieldLink RX0 27 "BatteryCaches$Battery" "rise" "I", Cond.fieldLink RX0 30 "BatteryCaches$Battery" "fall" "I", Cond.static yX6_copyRow, Cond.code yX6_copyRow cX6_copyRow 2 none, Cond.methodLink RX6 253 Lib.Math.min.name, Cond.static Lib.Math.min.name, Cond.initialized "java/lang/Math", Cond.code Lib.Math.min.name Lib.Math.min.code 2 (some .int), Cond.methodLink RX6 256 arraycopyName, Cond.native arraycopyName, Cond.static arraycopyName, Cond.initialized "java/lang/System", Cond.methodLink RX6 109 yX0_setting, Cond.instanceMethod yX0_setting, Cond.selects RX0 yX0_setting yX0_setting, Cond.code yX0_setting cX0_setting 2 (some .int), Cond.methodLink RX6 112 yX0_changeSetting]
def wsX6_set_r4 : List Cond := [Cond.instanceMethod yX0_changeSetting, Cond.selects RX0 yX0_changeSetting yX0_changeSetting, Cond.code yX0_changeSetting cX0_changeSetting 3 none]
def wsX6_set : List Cond := .code yX6_set cX6_set 4 (some .int) :: ((wsX6_set_r1 ++ (wsX6_set_r2 ++ (wsX6_set_r3 ++ wsX6_set_r4))) ++ wsX60 ++ wsX40 ++ wsX10 ++ wsX00)
def wsX6_lineOf : List Cond := .code yX6_lineOf cX6_lineOf 3 (some .int) :: ([.constant RX6 48 (-1000001), .fieldLink RX6 10 "BatteryCaches" "now" "LBatteryCaches$State;", .fieldLink RX6 68 "BatteryCaches$State" "kind" "[I", .constant RX6 116 (-1000004), .fieldLink RX6 117 "BatteryCaches$State" "place" "[I", .fieldLink RX6 120 "BatteryCaches$State" "value" "[I", .fieldLink RX6 123 "BatteryCaches$State" "turn" "[I", .methodLink RX6 65 yX6_isLine, .static yX6_isLine, .initialized RX6, .code yX6_isLine cX6_isLine 1 (some .boolean), .methodLink RX6 57 yX6_isWithin, .static yX6_isWithin, .code yX6_isWithin cX6_isWithin 3 (some .boolean), .methodLink RX6 126 yX4_linesAhead, .instanceMethod yX4_linesAhead, .selects RX4 yX4_linesAhead yX4_linesAhead, .initialized RX4, .code yX4_linesAhead cX4_linesAhead 5 (some .int), .fieldLink RX4 25 "BatteryCaches$State" "kind" "[I", .fieldLink RX4 34 "BatteryCaches$State" "turn" "[I"] ++ wsX60 ++ wsX40)
def wsX6_placeOf : List Cond := .code yX6_placeOf cX6_placeOf 4 (some .int) :: ([.constant RX6 48 (-1000001), .fieldLink RX6 10 "BatteryCaches" "now" "LBatteryCaches$State;", .fieldLink RX6 132 "BatteryCaches$State" "disk" "[I", .fieldLink RX6 120 "BatteryCaches$State" "value" "[I", .constant RX6 116 (-1000004), .fieldLink RX6 135 "BatteryCaches$State" "laid" "[I", .methodLink RX6 44 yX6_isPlace, .static yX6_isPlace, .initialized RX6, .code yX6_isPlace cX6_isPlace 1 (some .boolean), .methodLink RX6 57 yX6_isWithin, .static yX6_isWithin, .code yX6_isWithin cX6_isWithin 3 (some .boolean), .methodLink RX6 129 yX4_holderOf, .instanceMethod yX4_holderOf, .selects RX4 yX4_holderOf yX4_holderOf, .initialized RX4, .code yX4_holderOf cX4_holderOf 3 (some .int), .fieldLink RX4 25 "BatteryCaches$State" "kind" "[I", .fieldLink RX4 28 "BatteryCaches$State" "place" "[I", .methodLink RX6 65 yX6_isLine, .static yX6_isLine, .code yX6_isLine cX6_isLine 1 (some .boolean)] ++ wsX60 ++ wsX40)
def wsX6_battery_r1 : List Cond := [Cond.fieldLink RX6 10 "BatteryCaches" "now" "LBatteryCaches$State;", Cond.fieldLink RX6 86 "BatteryCaches$State" "battery" "LBatteryCaches$Battery;", Cond.fieldLink RX6 138 "BatteryCaches$Battery" "charge" "I", Cond.fieldLink RX6 144 "BatteryCaches$Battery" "wear" "I", Cond.fieldLink RX6 89 "BatteryCaches$Battery" "cycle" "I", Cond.constant RX6 48 (-1000001), Cond.methodLink RX6 141 yX0_capacity, Cond.instanceMethod yX0_capacity, Cond.selects RX0 yX0_capacity yX0_capacity, Cond.initialized RX0, Cond.code yX0_capacity cX0_capacity 1 (some .int), Cond.fieldLink RX0 15 "BatteryCaches$Battery" "wear" "I", Cond.methodLink RX6 147 yX0_allowance, Cond.instanceMethod yX0_allowance, Cond.selects RX0 yX0_allowance yX0_allowance, Cond.code yX0_allowance cX0_allowance 1 (some .int), Cond.fieldLink RX0 18 "BatteryCaches$Battery" "cycle" "I", Cond.methodLink RX0 33 yX0_savable, Cond.instanceMethod yX0_savable, Cond.selects RX0 yX0_savable yX0_savable, Cond.code yX0_savable cX0_savable 1 (some .int), Cond.fieldLink RX0 9 "BatteryCaches$Battery" "charge" "I", Cond.fieldLink RX0 24 "BatteryCaches$Battery" "cutCost" "I", Cond.fieldLink RX0 21 "BatteryCaches$Battery" "lineCost" "I"]
def wsX6_battery_r2 : List Cond := [Cond.methodLink RX0 37 Lib.Math.min.name, Cond.static Lib.Math.min.name, Cond.initialized "java/lang/Math", Cond.code Lib.Math.min.name Lib.Math.min.code 2 (some .int), Cond.methodLink RX6 150 yX4_savedByCut, Cond.instanceMethod yX4_savedByCut, Cond.selects RX4 yX4_savedByCut yX4_savedByCut, Cond.initialized RX4, Cond.code yX4_savedByCut cX4_savedByCut 1 (some .int), Cond.fieldLink RX4 12 "BatteryCaches$State" "battery" "LBatteryCaches$Battery;", Cond.methodLink RX4 148 Lib.Math.min.name, Cond.methodLink RX4 84 yX4_numberOf, Cond.instanceMethod yX4_numberOf, Cond.selects RX4 yX4_numberOf yX4_numberOf, Cond.code yX4_numberOf cX4_numberOf 2 (some .int), Cond.methodLink RX4 154 yX4_setOf, Cond.instanceMethod yX4_setOf, Cond.selects RX4 yX4_setOf yX4_setOf, Cond.code yX4_setOf cX4_setOf 4 (some .int), Cond.fieldLink RX4 25 "BatteryCaches$State" "kind" "[I", Cond.methodLink RX4 157 yJ6_bitCount_0f7a4, Cond.static yJ6_bitCount_0f7a4, Cond.initialized RJ6, Cond.code yJ6_bitCount_0f7a4 cJ6_bitCount_0f7a4 1 (some .int)]
def wsX6_battery_r3 : List Cond := [Cond.constant RJ6 265 (1431655765), Cond.constant RJ6 266 (858993459), Cond.constant RJ6 267 (252645135), Cond.methodLink RX4 145 yX0_savable]
def wsX6_battery : List Cond := .code yX6_battery cX6_battery 2 (some .int) :: ((wsX6_battery_r1 ++ (wsX6_battery_r2 ++ wsX6_battery_r3)) ++ wsX60 ++ wsX40 ++ wsX00)
def wsX6_lines_r1 : List Cond := [Cond.fieldLink RX6 10 "BatteryCaches" "now" "LBatteryCaches$State;", Cond.constant RX6 48 (-1000001), Cond.methodLink RX6 153 yX4_setOf, Cond.instanceMethod yX4_setOf, Cond.selects RX4 yX4_setOf yX4_setOf, Cond.initialized RX4, Cond.code yX4_setOf cX4_setOf 4 (some .int), Cond.fieldLink RX4 25 "BatteryCaches$State" "kind" "[I", Cond.methodLink RX6 156 yX4_lostByCut, Cond.instanceMethod yX4_lostByCut, Cond.selects RX4 yX4_lostByCut yX4_lostByCut, Cond.code yX4_lostByCut cX4_lostByCut 4 (some .int), Cond.methodLink RX4 133 yX4_savedByCut, Cond.instanceMethod yX4_savedByCut, Cond.selects RX4 yX4_savedByCut yX4_savedByCut, Cond.code yX4_savedByCut cX4_savedByCut 1 (some .int), Cond.fieldLink RX4 12 "BatteryCaches$State" "battery" "LBatteryCaches$Battery;", Cond.methodLink RX4 148 Lib.Math.min.name, Cond.static Lib.Math.min.name, Cond.initialized "java/lang/Math", Cond.code Lib.Math.min.name Lib.Math.min.code 2 (some .int), Cond.methodLink RX4 84 yX4_numberOf, Cond.instanceMethod yX4_numberOf, Cond.selects RX4 yX4_numberOf yX4_numberOf]
def wsX6_lines_r2 : List Cond := [Cond.code yX4_numberOf cX4_numberOf 2 (some .int), Cond.methodLink RX4 154 yX4_setOf, Cond.methodLink RX4 157 yJ6_bitCount_0f7a4, Cond.static yJ6_bitCount_0f7a4, Cond.initialized RJ6, Cond.code yJ6_bitCount_0f7a4 cJ6_bitCount_0f7a4 1 (some .int), Cond.constant RJ6 265 (1431655765), Cond.constant RJ6 266 (858993459), Cond.constant RJ6 267 (252645135), Cond.methodLink RX4 145 yX0_savable, Cond.instanceMethod yX0_savable, Cond.selects RX0 yX0_savable yX0_savable, Cond.initialized RX0, Cond.code yX0_savable cX0_savable 1 (some .int), Cond.fieldLink RX0 9 "BatteryCaches$Battery" "charge" "I", Cond.fieldLink RX0 24 "BatteryCaches$Battery" "cutCost" "I", Cond.fieldLink RX0 21 "BatteryCaches$Battery" "lineCost" "I", Cond.methodLink RX0 37 Lib.Math.min.name, Cond.methodLink RX4 151 yX4_linesAhead, Cond.instanceMethod yX4_linesAhead, Cond.selects RX4 yX4_linesAhead yX4_linesAhead, Cond.code yX4_linesAhead cX4_linesAhead 5 (some .int), Cond.fieldLink RX4 34 "BatteryCaches$State" "turn" "[I", Cond.static yX6_isLine]
def wsX6_lines_r3 : List Cond := [Cond.initialized RX6, Cond.code yX6_isLine cX6_isLine 1 (some .boolean)]
def wsX6_lines : List Cond := .code yX6_lines cX6_lines 2 (some .int) :: ((wsX6_lines_r1 ++ (wsX6_lines_r2 ++ wsX6_lines_r3)) ++ wsX60 ++ wsX40 ++ wsX00)
def wsX6_wouldFlush_r1 : List Cond := [Cond.constant RX6 48 (-1000001), Cond.fieldLink RX6 40 "BatteryCaches" "trialBattery" "LBatteryCaches$Battery;", Cond.fieldLink RX6 10 "BatteryCaches" "now" "LBatteryCaches$State;", Cond.fieldLink RX6 86 "BatteryCaches$State" "battery" "LBatteryCaches$Battery;", Cond.methodLink RX6 166 Lib.Math.max.name, Cond.static Lib.Math.max.name, Cond.initialized "java/lang/Math", Cond.code Lib.Math.max.name Lib.Math.max.code 2 (some .int), Cond.methodLink RX6 57 yX6_isWithin, Cond.static yX6_isWithin, Cond.initialized RX6, Cond.code yX6_isWithin cX6_isWithin 3 (some .boolean), Cond.methodLink RX6 159 yX0_copyFrom, Cond.instanceMethod yX0_copyFrom, Cond.selects RX0 yX0_copyFrom yX0_copyFrom, Cond.initialized RX0, Cond.code yX0_copyFrom cX0_copyFrom 2 none, Cond.fieldLink RX0 9 "BatteryCaches$Battery" "charge" "I", Cond.fieldLink RX0 15 "BatteryCaches$Battery" "wear" "I", Cond.fieldLink RX0 18 "BatteryCaches$Battery" "cycle" "I", Cond.fieldLink RX0 21 "BatteryCaches$Battery" "lineCost" "I", Cond.fieldLink RX0 24 "BatteryCaches$Battery" "cutCost" "I", Cond.fieldLink RX0 27 "BatteryCaches$Battery" "rise" "I", Cond.fieldLink RX0 30 "BatteryCaches$Battery" "fall" "I"]
def wsX6_wouldFlush_r2 : List Cond := [Cond.methodLink RX6 163 yX0_useUp, Cond.instanceMethod yX0_useUp, Cond.selects RX0 yX0_useUp yX0_useUp, Cond.code yX0_useUp cX0_useUp 2 none, Cond.methodLink RX0 43 Lib.Math.max.name, Cond.methodLink RX6 77 yX4_numberOf, Cond.instanceMethod yX4_numberOf, Cond.selects RX4 yX4_numberOf yX4_numberOf, Cond.initialized RX4, Cond.code yX4_numberOf cX4_numberOf 2 (some .int), Cond.methodLink RX4 154 yX4_setOf, Cond.instanceMethod yX4_setOf, Cond.selects RX4 yX4_setOf yX4_setOf, Cond.code yX4_setOf cX4_setOf 4 (some .int), Cond.fieldLink RX4 25 "BatteryCaches$State" "kind" "[I", Cond.methodLink RX4 157 yJ6_bitCount_0f7a4, Cond.static yJ6_bitCount_0f7a4, Cond.initialized RJ6, Cond.code yJ6_bitCount_0f7a4 cJ6_bitCount_0f7a4 1 (some .int), Cond.constant RJ6 265 (1431655765), Cond.constant RJ6 266 (858993459), Cond.constant RJ6 267 (252645135), Cond.methodLink RX6 147 yX0_allowance, Cond.instanceMethod yX0_allowance]
def wsX6_wouldFlush_r3 : List Cond := [Cond.selects RX0 yX0_allowance yX0_allowance, Cond.code yX0_allowance cX0_allowance 1 (some .int), Cond.methodLink RX0 33 yX0_savable, Cond.instanceMethod yX0_savable, Cond.selects RX0 yX0_savable yX0_savable, Cond.code yX0_savable cX0_savable 1 (some .int), Cond.methodLink RX0 37 Lib.Math.min.name, Cond.static Lib.Math.min.name, Cond.code Lib.Math.min.name Lib.Math.min.code 2 (some .int)]
def wsX6_wouldFlush : List Cond := .code yX6_wouldFlush cX6_wouldFlush 2 (some .int) :: ((wsX6_wouldFlush_r1 ++ (wsX6_wouldFlush_r2 ++ wsX6_wouldFlush_r3)) ++ wsX60 ++ wsX40 ++ wsX00)
def wsX6_critical_r1 : List Cond := [Cond.fieldLink RX6 10 "BatteryCaches" "now" "LBatteryCaches$State;", Cond.fieldLink RX6 86 "BatteryCaches$State" "battery" "LBatteryCaches$Battery;", Cond.fieldLink RX6 138 "BatteryCaches$Battery" "charge" "I", Cond.methodLink RX6 166 Lib.Math.max.name, Cond.static Lib.Math.max.name, Cond.initialized "java/lang/Math", Cond.code Lib.Math.max.name Lib.Math.max.code 2 (some .int), Cond.constant RX6 116 (-1000004), Cond.methodLink RX6 77 yX4_numberOf, Cond.instanceMethod yX4_numberOf, Cond.selects RX4 yX4_numberOf yX4_numberOf, Cond.initialized RX4, Cond.code yX4_numberOf cX4_numberOf 2 (some .int), Cond.methodLink RX4 154 yX4_setOf, Cond.instanceMethod yX4_setOf, Cond.selects RX4 yX4_setOf yX4_setOf, Cond.code yX4_setOf cX4_setOf 4 (some .int), Cond.fieldLink RX4 25 "BatteryCaches$State" "kind" "[I", Cond.methodLink RX4 157 yJ6_bitCount_0f7a4, Cond.static yJ6_bitCount_0f7a4, Cond.initialized RJ6, Cond.code yJ6_bitCount_0f7a4 cJ6_bitCount_0f7a4 1 (some .int), Cond.constant RJ6 265 (1431655765), Cond.constant RJ6 266 (858993459)]
def wsX6_critical_r2 : List Cond := [Cond.constant RJ6 267 (252645135), Cond.methodLink RX6 171 yX0_costToSave, Cond.instanceMethod yX0_costToSave, Cond.selects RX0 yX0_costToSave yX0_costToSave, Cond.initialized RX0, Cond.code yX0_costToSave cX0_costToSave 2 (some .int), Cond.fieldLink RX0 24 "BatteryCaches$Battery" "cutCost" "I", Cond.fieldLink RX0 21 "BatteryCaches$Battery" "lineCost" "I"]
def wsX6_critical : List Cond := .code yX6_critical cX6_critical 3 (some .int) :: ((wsX6_critical_r1 ++ wsX6_critical_r2) ++ wsX60 ++ wsX40 ++ wsX00)
def wsX6_count_r1 : List Cond := [Cond.fieldLink RX6 10 "BatteryCaches" "now" "LBatteryCaches$State;", Cond.fieldLink RX6 184 "BatteryCaches$State" "ticks" "I", Cond.fieldLink RX6 187 "BatteryCaches$State" "hits" "I", Cond.fieldLink RX6 190 "BatteryCaches$State" "misses" "I", Cond.fieldLink RX6 193 "BatteryCaches$State" "flushed" "I", Cond.fieldLink RX6 196 "BatteryCaches$State" "wentThrough" "I", Cond.fieldLink RX6 199 "BatteryCaches$State" "lost" "I", Cond.fieldLink RX6 202 "BatteryCaches$State" "cuts" "I", Cond.fieldLink RX6 205 "BatteryCaches$State" "cyclesEnded" "I", Cond.fieldLink RX6 208 "BatteryCaches$State" "laidInAll" "I", Cond.fieldLink RX6 19 "BatteryCaches" "history" "LBatteryCaches$History;", Cond.fieldLink RX6 211 "BatteryCaches$History" "size" "I", Cond.fieldLink RX6 26 "BatteryCaches" "text" "LBatteryCaches$Text;", Cond.fieldLink RX6 214 "BatteryCaches$Text" "length" "I", Cond.fieldLink RX6 86 "BatteryCaches$State" "battery" "LBatteryCaches$Battery;", Cond.constant RX6 48 (-1000001), Cond.methodLink RX6 100 yX6_isSetting, Cond.static yX6_isSetting, Cond.initialized RX6, Cond.code yX6_isSetting cX6_isSetting 1 (some .boolean), Cond.methodLink RX6 109 yX0_setting, Cond.instanceMethod yX0_setting, Cond.selects RX0 yX0_setting yX0_setting, Cond.initialized RX0]
def wsX6_count_r2 : List Cond := [Cond.code yX0_setting cX0_setting 2 (some .int), Cond.fieldLink RX0 21 "BatteryCaches$Battery" "lineCost" "I", Cond.fieldLink RX0 24 "BatteryCaches$Battery" "cutCost" "I", Cond.fieldLink RX0 27 "BatteryCaches$Battery" "rise" "I", Cond.fieldLink RX0 30 "BatteryCaches$Battery" "fall" "I"]
def wsX6_count : List Cond := .code yX6_count cX6_count 2 (some .int) :: ((wsX6_count_r1 ++ wsX6_count_r2) ++ wsX60 ++ wsX40 ++ wsX10 ++ wsX50 ++ wsX00)
def wsJ9_max_7cf53 : List Cond := .code yJ9_max_7cf53 cJ9_max_7cf53 2 (some .int) :: ([])
def wsJ9_min_7cf53 : List Cond := .code yJ9_min_7cf53 cJ9_min_7cf53 2 (some .int) :: ([])
theorem dX0_init_0 : decode cX0_init 0 = .ok (.aload_n 0, 1) := by decide +kernel
theorem dX0_init_1 : decode cX0_init 1 = .ok (.invokespecial 3, 3) := by decide +kernel
theorem dX0_init_4 : decode cX0_init 4 = .ok (.aload_n 0, 1) := by decide +kernel
theorem dX0_init_5 : decode cX0_init 5 = .ok (.sipush 1000, 3) := by decide +kernel
theorem dX0_init_8 : decode cX0_init 8 = .ok (.putfield 9, 3) := by decide +kernel
theorem dX0_init_11 : decode cX0_init 11 = .ok (.aload_n 0, 1) := by decide +kernel
theorem dX0_init_12 : decode cX0_init 12 = .ok (.iconst 0, 1) := by decide +kernel
theorem dX0_init_13 : decode cX0_init 13 = .ok (.putfield 15, 3) := by decide +kernel
theorem dX0_init_16 : decode cX0_init 16 = .ok (.aload_n 0, 1) := by decide +kernel
theorem dX0_init_17 : decode cX0_init 17 = .ok (.iconst 0, 1) := by decide +kernel
theorem dX0_init_18 : decode cX0_init 18 = .ok (.putfield 18, 3) := by decide +kernel
theorem dX0_init_21 : decode cX0_init 21 = .ok (.aload_n 0, 1) := by decide +kernel
theorem dX0_init_22 : decode cX0_init 22 = .ok (.bipush 100, 2) := by decide +kernel
theorem dX0_init_24 : decode cX0_init 24 = .ok (.putfield 21, 3) := by decide +kernel
theorem dX0_init_27 : decode cX0_init 27 = .ok (.aload_n 0, 1) := by decide +kernel
theorem dX0_init_28 : decode cX0_init 28 = .ok (.bipush 100, 2) := by decide +kernel
theorem dX0_init_30 : decode cX0_init 30 = .ok (.putfield 24, 3) := by decide +kernel
theorem dX0_init_33 : decode cX0_init 33 = .ok (.aload_n 0, 1) := by decide +kernel
theorem dX0_init_34 : decode cX0_init 34 = .ok (.bipush 20, 2) := by decide +kernel
theorem dX0_init_36 : decode cX0_init 36 = .ok (.putfield 27, 3) := by decide +kernel
theorem dX0_init_39 : decode cX0_init 39 = .ok (.aload_n 0, 1) := by decide +kernel
theorem dX0_init_40 : decode cX0_init 40 = .ok (.sipush 200, 3) := by decide +kernel
theorem dX0_init_43 : decode cX0_init 43 = .ok (.putfield 30, 3) := by decide +kernel
theorem dX0_init_46 : decode cX0_init 46 = .ok (.return_, 1) := by decide +kernel
theorem dX0_copyFrom_0 : decode cX0_copyFrom 0 = .ok (.aload_n 0, 1) := by decide +kernel
theorem dX0_copyFrom_1 : decode cX0_copyFrom 1 = .ok (.aload_n 1, 1) := by decide +kernel
theorem dX0_copyFrom_2 : decode cX0_copyFrom 2 = .ok (.getfield 9, 3) := by decide +kernel
theorem dX0_copyFrom_5 : decode cX0_copyFrom 5 = .ok (.putfield 9, 3) := by decide +kernel
theorem dX0_copyFrom_8 : decode cX0_copyFrom 8 = .ok (.aload_n 0, 1) := by decide +kernel
theorem dX0_copyFrom_9 : decode cX0_copyFrom 9 = .ok (.aload_n 1, 1) := by decide +kernel
theorem dX0_copyFrom_10 : decode cX0_copyFrom 10 = .ok (.getfield 15, 3) := by decide +kernel
theorem dX0_copyFrom_13 : decode cX0_copyFrom 13 = .ok (.putfield 15, 3) := by decide +kernel
theorem dX0_copyFrom_16 : decode cX0_copyFrom 16 = .ok (.aload_n 0, 1) := by decide +kernel
theorem dX0_copyFrom_17 : decode cX0_copyFrom 17 = .ok (.aload_n 1, 1) := by decide +kernel
theorem dX0_copyFrom_18 : decode cX0_copyFrom 18 = .ok (.getfield 18, 3) := by decide +kernel
theorem dX0_copyFrom_21 : decode cX0_copyFrom 21 = .ok (.putfield 18, 3) := by decide +kernel
theorem dX0_copyFrom_24 : decode cX0_copyFrom 24 = .ok (.aload_n 0, 1) := by decide +kernel
theorem dX0_copyFrom_25 : decode cX0_copyFrom 25 = .ok (.aload_n 1, 1) := by decide +kernel
theorem dX0_copyFrom_26 : decode cX0_copyFrom 26 = .ok (.getfield 21, 3) := by decide +kernel
theorem dX0_copyFrom_29 : decode cX0_copyFrom 29 = .ok (.putfield 21, 3) := by decide +kernel
theorem dX0_copyFrom_32 : decode cX0_copyFrom 32 = .ok (.aload_n 0, 1) := by decide +kernel
theorem dX0_copyFrom_33 : decode cX0_copyFrom 33 = .ok (.aload_n 1, 1) := by decide +kernel
theorem dX0_copyFrom_34 : decode cX0_copyFrom 34 = .ok (.getfield 24, 3) := by decide +kernel
theorem dX0_copyFrom_37 : decode cX0_copyFrom 37 = .ok (.putfield 24, 3) := by decide +kernel
theorem dX0_copyFrom_40 : decode cX0_copyFrom 40 = .ok (.aload_n 0, 1) := by decide +kernel
theorem dX0_copyFrom_41 : decode cX0_copyFrom 41 = .ok (.aload_n 1, 1) := by decide +kernel
theorem dX0_copyFrom_42 : decode cX0_copyFrom 42 = .ok (.getfield 27, 3) := by decide +kernel
theorem dX0_copyFrom_45 : decode cX0_copyFrom 45 = .ok (.putfield 27, 3) := by decide +kernel
theorem dX0_copyFrom_48 : decode cX0_copyFrom 48 = .ok (.aload_n 0, 1) := by decide +kernel
theorem dX0_copyFrom_49 : decode cX0_copyFrom 49 = .ok (.aload_n 1, 1) := by decide +kernel
theorem dX0_copyFrom_50 : decode cX0_copyFrom 50 = .ok (.getfield 30, 3) := by decide +kernel
theorem dX0_copyFrom_53 : decode cX0_copyFrom 53 = .ok (.putfield 30, 3) := by decide +kernel
theorem dX0_copyFrom_56 : decode cX0_copyFrom 56 = .ok (.return_, 1) := by decide +kernel
theorem dX0_setting_0 : decode cX0_setting 0 = .ok (.iload_n 1, 1) := by decide +kernel
theorem dX0_setting_1 : decode cX0_setting 1 = .ok (.tableswitch 42 0 2 #[27, 32, 37], 27) := by decide +kernel
theorem dX0_setting_28 : decode cX0_setting 28 = .ok (.aload_n 0, 1) := by decide +kernel
theorem dX0_setting_29 : decode cX0_setting 29 = .ok (.getfield 21, 3) := by decide +kernel
theorem dX0_setting_32 : decode cX0_setting 32 = .ok (.ireturn, 1) := by decide +kernel
theorem dX0_setting_33 : decode cX0_setting 33 = .ok (.aload_n 0, 1) := by decide +kernel
theorem dX0_setting_34 : decode cX0_setting 34 = .ok (.getfield 24, 3) := by decide +kernel
theorem dX0_setting_37 : decode cX0_setting 37 = .ok (.ireturn, 1) := by decide +kernel
theorem dX0_setting_38 : decode cX0_setting 38 = .ok (.aload_n 0, 1) := by decide +kernel
theorem dX0_setting_39 : decode cX0_setting 39 = .ok (.getfield 27, 3) := by decide +kernel
theorem dX0_setting_42 : decode cX0_setting 42 = .ok (.ireturn, 1) := by decide +kernel
theorem dX0_setting_43 : decode cX0_setting 43 = .ok (.aload_n 0, 1) := by decide +kernel
theorem dX0_setting_44 : decode cX0_setting 44 = .ok (.getfield 30, 3) := by decide +kernel
theorem dX0_setting_47 : decode cX0_setting 47 = .ok (.ireturn, 1) := by decide +kernel
theorem dX0_changeSetting_0 : decode cX0_changeSetting 0 = .ok (.iload_n 1, 1) := by decide +kernel
theorem dX0_changeSetting_1 : decode cX0_changeSetting 1 = .ok (.tableswitch 51 0 2 #[27, 35, 43], 27) := by decide +kernel
theorem dX0_changeSetting_28 : decode cX0_changeSetting 28 = .ok (.aload_n 0, 1) := by decide +kernel
theorem dX0_changeSetting_29 : decode cX0_changeSetting 29 = .ok (.iload_n 2, 1) := by decide +kernel
theorem dX0_changeSetting_30 : decode cX0_changeSetting 30 = .ok (.putfield 21, 3) := by decide +kernel
theorem dX0_changeSetting_33 : decode cX0_changeSetting 33 = .ok (.goto 24, 3) := by decide +kernel
theorem dX0_changeSetting_36 : decode cX0_changeSetting 36 = .ok (.aload_n 0, 1) := by decide +kernel
theorem dX0_changeSetting_37 : decode cX0_changeSetting 37 = .ok (.iload_n 2, 1) := by decide +kernel
theorem dX0_changeSetting_38 : decode cX0_changeSetting 38 = .ok (.putfield 24, 3) := by decide +kernel
theorem dX0_changeSetting_41 : decode cX0_changeSetting 41 = .ok (.goto 16, 3) := by decide +kernel
theorem dX0_changeSetting_44 : decode cX0_changeSetting 44 = .ok (.aload_n 0, 1) := by decide +kernel
theorem dX0_changeSetting_45 : decode cX0_changeSetting 45 = .ok (.iload_n 2, 1) := by decide +kernel
theorem dX0_changeSetting_46 : decode cX0_changeSetting 46 = .ok (.putfield 27, 3) := by decide +kernel
theorem dX0_changeSetting_49 : decode cX0_changeSetting 49 = .ok (.goto 8, 3) := by decide +kernel
theorem dX0_changeSetting_52 : decode cX0_changeSetting 52 = .ok (.aload_n 0, 1) := by decide +kernel
theorem dX0_changeSetting_53 : decode cX0_changeSetting 53 = .ok (.iload_n 2, 1) := by decide +kernel
theorem dX0_changeSetting_54 : decode cX0_changeSetting 54 = .ok (.putfield 30, 3) := by decide +kernel
theorem dX0_changeSetting_57 : decode cX0_changeSetting 57 = .ok (.return_, 1) := by decide +kernel
theorem dX0_capacity_0 : decode cX0_capacity 0 = .ok (.sipush 1000, 3) := by decide +kernel
theorem dX0_capacity_3 : decode cX0_capacity 3 = .ok (.bipush 10, 2) := by decide +kernel
theorem dX0_capacity_5 : decode cX0_capacity 5 = .ok (.aload_n 0, 1) := by decide +kernel
theorem dX0_capacity_6 : decode cX0_capacity 6 = .ok (.getfield 15, 3) := by decide +kernel
theorem dX0_capacity_9 : decode cX0_capacity 9 = .ok (.imul, 1) := by decide +kernel
theorem dX0_capacity_10 : decode cX0_capacity 10 = .ok (.isub, 1) := by decide +kernel
theorem dX0_capacity_11 : decode cX0_capacity 11 = .ok (.ireturn, 1) := by decide +kernel
set_option maxRecDepth 20000 in
theorem ggX0_allowance_X0_savable : GoodIn wsX0_allowance wsX0_savable := goodIn_r _ [6, 7, 8, 9, 10, 11, 12, 13, 14, 15, 16, 17, 18, 19, 20] (by decide +kernel) (by decide +kernel)
set_option maxRecDepth 20000 in
theorem gX0_allowance_X0_savable : GoodIn wsX0_allowance (wsV RX0 33 RX0 yX0_savable wsX0_savable) := goodIn_app (goodIn_of _ (by decide +kernel)) ggX0_allowance_X0_savable
theorem dX0_allowance_0 : decode cX0_allowance 0 = .ok (.aload_n 0, 1) := by decide +kernel
theorem dX0_allowance_1 : decode cX0_allowance 1 = .ok (.getfield 18, 3) := by decide +kernel
theorem dX0_allowance_4 : decode cX0_allowance 4 = .ok (.ifCond .ne 10, 3) := by decide +kernel
theorem dX0_allowance_7 : decode cX0_allowance 7 = .ok (.aload_n 0, 1) := by decide +kernel
theorem dX0_allowance_8 : decode cX0_allowance 8 = .ok (.invokevirtual 33, 3) := by decide +kernel
theorem dX0_allowance_11 : decode cX0_allowance 11 = .ok (.goto 4, 3) := by decide +kernel
theorem dX0_allowance_14 : decode cX0_allowance 14 = .ok (.iconst 0, 1) := by decide +kernel
theorem dX0_allowance_15 : decode cX0_allowance 15 = .ok (.ireturn, 1) := by decide +kernel
theorem dX0_savable_0 : decode cX0_savable 0 = .ok (.aload_n 0, 1) := by decide +kernel
theorem dX0_savable_1 : decode cX0_savable 1 = .ok (.getfield 9, 3) := by decide +kernel
theorem dX0_savable_4 : decode cX0_savable 4 = .ok (.aload_n 0, 1) := by decide +kernel
theorem dX0_savable_5 : decode cX0_savable 5 = .ok (.getfield 24, 3) := by decide +kernel
theorem dX0_savable_8 : decode cX0_savable 8 = .ok (.if_icmp .lt 11, 3) := by decide +kernel
theorem dX0_savable_11 : decode cX0_savable 11 = .ok (.aload_n 0, 1) := by decide +kernel
theorem dX0_savable_12 : decode cX0_savable 12 = .ok (.getfield 21, 3) := by decide +kernel
theorem dX0_savable_15 : decode cX0_savable 15 = .ok (.iconst 1, 1) := by decide +kernel
theorem dX0_savable_16 : decode cX0_savable 16 = .ok (.if_icmp .ge 5, 3) := by decide +kernel
theorem dX0_savable_19 : decode cX0_savable 19 = .ok (.iconst 0, 1) := by decide +kernel
theorem dX0_savable_20 : decode cX0_savable 20 = .ok (.ireturn, 1) := by decide +kernel
theorem dX0_savable_21 : decode cX0_savable 21 = .ok (.aload_n 0, 1) := by decide +kernel
theorem dX0_savable_22 : decode cX0_savable 22 = .ok (.getfield 9, 3) := by decide +kernel
theorem dX0_savable_25 : decode cX0_savable 25 = .ok (.aload_n 0, 1) := by decide +kernel
theorem dX0_savable_26 : decode cX0_savable 26 = .ok (.getfield 24, 3) := by decide +kernel
theorem dX0_savable_29 : decode cX0_savable 29 = .ok (.isub, 1) := by decide +kernel
theorem dX0_savable_30 : decode cX0_savable 30 = .ok (.aload_n 0, 1) := by decide +kernel
theorem dX0_savable_31 : decode cX0_savable 31 = .ok (.getfield 21, 3) := by decide +kernel
theorem dX0_savable_34 : decode cX0_savable 34 = .ok (.idiv, 1) := by decide +kernel
theorem dX0_savable_35 : decode cX0_savable 35 = .ok (.bipush 8, 2) := by decide +kernel
theorem dX0_savable_37 : decode cX0_savable 37 = .ok (.invokestatic 37, 3) := by decide +kernel
theorem dX0_savable_40 : decode cX0_savable 40 = .ok (.ireturn, 1) := by decide +kernel
theorem dX0_costToSave_0 : decode cX0_costToSave 0 = .ok (.aload_n 0, 1) := by decide +kernel
theorem dX0_costToSave_1 : decode cX0_costToSave 1 = .ok (.getfield 24, 3) := by decide +kernel
theorem dX0_costToSave_4 : decode cX0_costToSave 4 = .ok (.iload_n 1, 1) := by decide +kernel
theorem dX0_costToSave_5 : decode cX0_costToSave 5 = .ok (.aload_n 0, 1) := by decide +kernel
theorem dX0_costToSave_6 : decode cX0_costToSave 6 = .ok (.getfield 21, 3) := by decide +kernel
theorem dX0_costToSave_9 : decode cX0_costToSave 9 = .ok (.imul, 1) := by decide +kernel
theorem dX0_costToSave_10 : decode cX0_costToSave 10 = .ok (.iadd, 1) := by decide +kernel
theorem dX0_costToSave_11 : decode cX0_costToSave 11 = .ok (.ireturn, 1) := by decide +kernel
theorem dX0_useUp_0 : decode cX0_useUp 0 = .ok (.aload_n 0, 1) := by decide +kernel
theorem dX0_useUp_1 : decode cX0_useUp 1 = .ok (.aload_n 0, 1) := by decide +kernel
theorem dX0_useUp_2 : decode cX0_useUp 2 = .ok (.getfield 9, 3) := by decide +kernel
theorem dX0_useUp_5 : decode cX0_useUp 5 = .ok (.iload_n 1, 1) := by decide +kernel
theorem dX0_useUp_6 : decode cX0_useUp 6 = .ok (.isub, 1) := by decide +kernel
theorem dX0_useUp_7 : decode cX0_useUp 7 = .ok (.iconst 0, 1) := by decide +kernel
theorem dX0_useUp_8 : decode cX0_useUp 8 = .ok (.invokestatic 43, 3) := by decide +kernel
theorem dX0_useUp_11 : decode cX0_useUp 11 = .ok (.putfield 9, 3) := by decide +kernel
theorem dX0_useUp_14 : decode cX0_useUp 14 = .ok (.return_, 1) := by decide +kernel
set_option maxRecDepth 20000 in
theorem ggX0_saveAtCut_X0_costToSave : GoodIn wsX0_saveAtCut wsX0_costToSave := goodIn_r _ [6, 7, 8, 18, 19, 20, 21, 22, 23, 24] (by decide +kernel) (by decide +kernel)
set_option maxRecDepth 20000 in
theorem gX0_saveAtCut_X0_costToSave : GoodIn wsX0_saveAtCut (wsV RX0 46 RX0 yX0_costToSave wsX0_costToSave) := goodIn_app (goodIn_of _ (by decide +kernel)) ggX0_saveAtCut_X0_costToSave
set_option maxRecDepth 20000 in
theorem ggX0_saveAtCut_X0_useUp : GoodIn wsX0_saveAtCut wsX0_useUp := goodIn_r _ [12, 13, 14, 15, 16, 17, 18, 19, 20, 21, 22, 23, 24] (by decide +kernel) (by decide +kernel)
set_option maxRecDepth 20000 in
theorem gX0_saveAtCut_X0_useUp : GoodIn wsX0_saveAtCut (wsV RX0 50 RX0 yX0_useUp wsX0_useUp) := goodIn_app (goodIn_of _ (by decide +kernel)) ggX0_saveAtCut_X0_useUp
theorem dX0_saveAtCut_0 : decode cX0_saveAtCut 0 = .ok (.aload_n 0, 1) := by decide +kernel
theorem dX0_saveAtCut_1 : decode cX0_saveAtCut 1 = .ok (.aload_n 0, 1) := by decide +kernel
theorem dX0_saveAtCut_2 : decode cX0_saveAtCut 2 = .ok (.iload_n 1, 1) := by decide +kernel
theorem dX0_saveAtCut_3 : decode cX0_saveAtCut 3 = .ok (.invokevirtual 46, 3) := by decide +kernel
theorem dX0_saveAtCut_6 : decode cX0_saveAtCut 6 = .ok (.invokevirtual 50, 3) := by decide +kernel
theorem dX0_saveAtCut_9 : decode cX0_saveAtCut 9 = .ok (.aload_n 0, 1) := by decide +kernel
theorem dX0_saveAtCut_10 : decode cX0_saveAtCut 10 = .ok (.iconst 0, 1) := by decide +kernel
theorem dX0_saveAtCut_11 : decode cX0_saveAtCut 11 = .ok (.putfield 18, 3) := by decide +kernel
theorem dX0_saveAtCut_14 : decode cX0_saveAtCut 14 = .ok (.return_, 1) := by decide +kernel
set_option maxRecDepth 20000 in
theorem ggX0_passTick_X0_fallInCycle : GoodIn wsX0_passTick wsX0_fallInCycle := goodIn_r _ [12, 13, 2, 14, 4, 5, 6, 7, 1, 15, 16, 17, 11, 18, 19, 20, 21, 26, 27, 28, 29, 30, 31, 32] (by decide +kernel) (by decide +kernel)
set_option maxRecDepth 20000 in
theorem gX0_passTick_X0_fallInCycle : GoodIn wsX0_passTick (wsV RX0 54 RX0 yX0_fallInCycle wsX0_fallInCycle) := goodIn_app (goodIn_of _ (by decide +kernel)) ggX0_passTick_X0_fallInCycle
set_option maxRecDepth 20000 in
theorem ggX0_passTick_X0_capacity : GoodIn wsX0_passTick wsX0_capacity := goodIn_r _ [25, 14, 26, 27, 28, 29, 30, 31, 32] (by decide +kernel) (by decide +kernel)
set_option maxRecDepth 20000 in
theorem gX0_passTick_X0_capacity : GoodIn wsX0_passTick (wsV RX0 57 RX0 yX0_capacity wsX0_capacity) := goodIn_app (goodIn_of _ (by decide +kernel)) ggX0_passTick_X0_capacity
theorem dX0_passTick_0 : decode cX0_passTick 0 = .ok (.aload_n 0, 1) := by decide +kernel
theorem dX0_passTick_1 : decode cX0_passTick 1 = .ok (.getfield 18, 3) := by decide +kernel
theorem dX0_passTick_4 : decode cX0_passTick 4 = .ok (.iconst 1, 1) := by decide +kernel
theorem dX0_passTick_5 : decode cX0_passTick 5 = .ok (.if_icmp .ne 9, 3) := by decide +kernel
theorem dX0_passTick_8 : decode cX0_passTick 8 = .ok (.aload_n 0, 1) := by decide +kernel
theorem dX0_passTick_9 : decode cX0_passTick 9 = .ok (.invokevirtual 54, 3) := by decide +kernel
theorem dX0_passTick_12 : decode cX0_passTick 12 = .ok (.iconst 0, 1) := by decide +kernel
theorem dX0_passTick_13 : decode cX0_passTick 13 = .ok (.ireturn, 1) := by decide +kernel
theorem dX0_passTick_14 : decode cX0_passTick 14 = .ok (.aload_n 0, 1) := by decide +kernel
theorem dX0_passTick_15 : decode cX0_passTick 15 = .ok (.aload_n 0, 1) := by decide +kernel
theorem dX0_passTick_16 : decode cX0_passTick 16 = .ok (.getfield 9, 3) := by decide +kernel
theorem dX0_passTick_19 : decode cX0_passTick 19 = .ok (.aload_n 0, 1) := by decide +kernel
theorem dX0_passTick_20 : decode cX0_passTick 20 = .ok (.getfield 27, 3) := by decide +kernel
theorem dX0_passTick_23 : decode cX0_passTick 23 = .ok (.iadd, 1) := by decide +kernel
theorem dX0_passTick_24 : decode cX0_passTick 24 = .ok (.aload_n 0, 1) := by decide +kernel
theorem dX0_passTick_25 : decode cX0_passTick 25 = .ok (.invokevirtual 57, 3) := by decide +kernel
theorem dX0_passTick_28 : decode cX0_passTick 28 = .ok (.invokestatic 37, 3) := by decide +kernel
theorem dX0_passTick_31 : decode cX0_passTick 31 = .ok (.putfield 9, 3) := by decide +kernel
theorem dX0_passTick_34 : decode cX0_passTick 34 = .ok (.aload_n 0, 1) := by decide +kernel
theorem dX0_passTick_35 : decode cX0_passTick 35 = .ok (.getfield 18, 3) := by decide +kernel
theorem dX0_passTick_38 : decode cX0_passTick 38 = .ok (.iconst 2, 1) := by decide +kernel
theorem dX0_passTick_39 : decode cX0_passTick 39 = .ok (.if_icmp .ne 21, 3) := by decide +kernel
theorem dX0_passTick_42 : decode cX0_passTick 42 = .ok (.aload_n 0, 1) := by decide +kernel
theorem dX0_passTick_43 : decode cX0_passTick 43 = .ok (.getfield 9, 3) := by decide +kernel
theorem dX0_passTick_46 : decode cX0_passTick 46 = .ok (.aload_n 0, 1) := by decide +kernel
theorem dX0_passTick_47 : decode cX0_passTick 47 = .ok (.invokevirtual 57, 3) := by decide +kernel
theorem dX0_passTick_50 : decode cX0_passTick 50 = .ok (.if_icmp .ne 10, 3) := by decide +kernel
theorem dX0_passTick_53 : decode cX0_passTick 53 = .ok (.aload_n 0, 1) := by decide +kernel
theorem dX0_passTick_54 : decode cX0_passTick 54 = .ok (.iconst 0, 1) := by decide +kernel
theorem dX0_passTick_55 : decode cX0_passTick 55 = .ok (.putfield 18, 3) := by decide +kernel
theorem dX0_passTick_58 : decode cX0_passTick 58 = .ok (.iconst 1, 1) := by decide +kernel
theorem dX0_passTick_59 : decode cX0_passTick 59 = .ok (.ireturn, 1) := by decide +kernel
theorem dX0_passTick_60 : decode cX0_passTick 60 = .ok (.iconst 0, 1) := by decide +kernel
theorem dX0_passTick_61 : decode cX0_passTick 61 = .ok (.ireturn, 1) := by decide +kernel
set_option maxRecDepth 20000 in
theorem ggX0_fallInCycle_X0_useUp : GoodIn wsX0_fallInCycle wsX0_useUp := goodIn_r _ [13, 2, 14, 15, 6, 16, 17, 18, 19, 20, 21, 22, 23] (by decide +kernel) (by decide +kernel)
set_option maxRecDepth 20000 in
theorem gX0_fallInCycle_X0_useUp : GoodIn wsX0_fallInCycle (wsV RX0 50 RX0 yX0_useUp wsX0_useUp) := goodIn_app (goodIn_of _ (by decide +kernel)) ggX0_fallInCycle_X0_useUp
theorem dX0_fallInCycle_0 : decode cX0_fallInCycle 0 = .ok (.aload_n 0, 1) := by decide +kernel
theorem dX0_fallInCycle_1 : decode cX0_fallInCycle 1 = .ok (.aload_n 0, 1) := by decide +kernel
theorem dX0_fallInCycle_2 : decode cX0_fallInCycle 2 = .ok (.getfield 30, 3) := by decide +kernel
theorem dX0_fallInCycle_5 : decode cX0_fallInCycle 5 = .ok (.invokevirtual 50, 3) := by decide +kernel
theorem dX0_fallInCycle_8 : decode cX0_fallInCycle 8 = .ok (.aload_n 0, 1) := by decide +kernel
theorem dX0_fallInCycle_9 : decode cX0_fallInCycle 9 = .ok (.getfield 9, 3) := by decide +kernel
theorem dX0_fallInCycle_12 : decode cX0_fallInCycle 12 = .ok (.ifCond .ne 23, 3) := by decide +kernel
theorem dX0_fallInCycle_15 : decode cX0_fallInCycle 15 = .ok (.aload_n 0, 1) := by decide +kernel
theorem dX0_fallInCycle_16 : decode cX0_fallInCycle 16 = .ok (.aload_n 0, 1) := by decide +kernel
theorem dX0_fallInCycle_17 : decode cX0_fallInCycle 17 = .ok (.getfield 15, 3) := by decide +kernel
theorem dX0_fallInCycle_20 : decode cX0_fallInCycle 20 = .ok (.iconst 1, 1) := by decide +kernel
theorem dX0_fallInCycle_21 : decode cX0_fallInCycle 21 = .ok (.iadd, 1) := by decide +kernel
theorem dX0_fallInCycle_22 : decode cX0_fallInCycle 22 = .ok (.bipush 90, 2) := by decide +kernel
theorem dX0_fallInCycle_24 : decode cX0_fallInCycle 24 = .ok (.invokestatic 37, 3) := by decide +kernel
theorem dX0_fallInCycle_27 : decode cX0_fallInCycle 27 = .ok (.putfield 15, 3) := by decide +kernel
theorem dX0_fallInCycle_30 : decode cX0_fallInCycle 30 = .ok (.aload_n 0, 1) := by decide +kernel
theorem dX0_fallInCycle_31 : decode cX0_fallInCycle 31 = .ok (.iconst 2, 1) := by decide +kernel
theorem dX0_fallInCycle_32 : decode cX0_fallInCycle 32 = .ok (.putfield 18, 3) := by decide +kernel
theorem dX0_fallInCycle_35 : decode cX0_fallInCycle 35 = .ok (.return_, 1) := by decide +kernel
set_option maxRecDepth 20000 in
theorem ggX1_init_X4_init : GoodIn wsX1_init wsX4_init := goodIn_r _ [10, 11, 2, 3, 12, 13, 14, 15, 16, 17, 18, 19, 20, 21, 22, 23, 24, 25, 26, 27, 28, 29, 30, 31, 32, 33, 34, 35, 36, 37, 38, 39, 40, 41, 42, 62, 63, 64, 65, 66, 67, 68, 45, 46, 47, 48, 49, 50, 51, 52, 53, 54, 55, 56, 57, 58, 59, 60, 61] (by decide +kernel) (by decide +kernel)
set_option maxRecDepth 20000 in
theorem gX1_init_X4_init_n21 : GoodIn wsX1_init (wsX4_init) := ggX1_init_X4_init
theorem dX1_init_0 : decode cX1_init 0 = .ok (.aload_n 0, 1) := by decide +kernel
theorem dX1_init_1 : decode cX1_init 1 = .ok (.invokespecial 3, 3) := by decide +kernel
theorem dX1_init_4 : decode cX1_init 4 = .ok (.aload_n 0, 1) := by decide +kernel
theorem dX1_init_5 : decode cX1_init 5 = .ok (.iconst 4, 1) := by decide +kernel
theorem dX1_init_6 : decode cX1_init 6 = .ok (.anewarray 9, 3) := by decide +kernel
theorem dX1_init_9 : decode cX1_init 9 = .ok (.putfield 11, 3) := by decide +kernel
theorem dX1_init_12 : decode cX1_init 12 = .ok (.aload_n 0, 1) := by decide +kernel
theorem dX1_init_13 : decode cX1_init 13 = .ok (.iconst 0, 1) := by decide +kernel
theorem dX1_init_14 : decode cX1_init 14 = .ok (.putfield 17, 3) := by decide +kernel
theorem dX1_init_17 : decode cX1_init 17 = .ok (.iconst 0, 1) := by decide +kernel
theorem dX1_init_18 : decode cX1_init 18 = .ok (.istore_n 1, 1) := by decide +kernel
theorem dX1_init_19 : decode cX1_init 19 = .ok (.iload_n 1, 1) := by decide +kernel
theorem dX1_init_20 : decode cX1_init 20 = .ok (.iconst 4, 1) := by decide +kernel
theorem dX1_init_21 : decode cX1_init 21 = .ok (.if_icmp .ge 22, 3) := by decide +kernel
theorem dX1_init_24 : decode cX1_init 24 = .ok (.aload_n 0, 1) := by decide +kernel
theorem dX1_init_25 : decode cX1_init 25 = .ok (.getfield 11, 3) := by decide +kernel
theorem dX1_init_28 : decode cX1_init 28 = .ok (.iload_n 1, 1) := by decide +kernel
theorem dX1_init_29 : decode cX1_init 29 = .ok (.new 9, 3) := by decide +kernel
theorem dX1_init_32 : decode cX1_init 32 = .ok (.dup, 1) := by decide +kernel
theorem dX1_init_33 : decode cX1_init 33 = .ok (.invokespecial 21, 3) := by decide +kernel
theorem dX1_init_36 : decode cX1_init 36 = .ok (.aastore, 1) := by decide +kernel
theorem dX1_init_37 : decode cX1_init 37 = .ok (.iinc 1 1, 3) := by decide +kernel
theorem dX1_init_40 : decode cX1_init 40 = .ok (.goto (-21), 3) := by decide +kernel
theorem dX1_init_43 : decode cX1_init 43 = .ok (.return_, 1) := by decide +kernel
set_option maxRecDepth 20000 in
theorem ggX1_keep_X1_dropOldest : GoodIn wsX1_keep wsX1_dropOldest := goodIn_r _ [7, 2, 1, 54, 55] (by decide +kernel) (by decide +kernel)
set_option maxRecDepth 20000 in
theorem gX1_keep_X1_dropOldest : GoodIn wsX1_keep (wsV RX1 22 RX1 yX1_dropOldest wsX1_dropOldest) := goodIn_app (goodIn_of _ (by decide +kernel)) ggX1_keep_X1_dropOldest
set_option maxRecDepth 20000 in
theorem ggX1_keep_X6_isWithin : GoodIn wsX1_keep wsX6_isWithin := goodIn_r _ [10] (by decide +kernel) (by decide +kernel)
set_option maxRecDepth 20000 in
theorem gX1_keep_X6_isWithin_n25 : GoodIn wsX1_keep (wsX6_isWithin) := ggX1_keep_X6_isWithin
set_option maxRecDepth 20000 in
theorem ggX1_keep_X4_copy : GoodIn wsX1_keep wsX4_copy := goodIn_r _ [14, 15, 16, 17, 18, 19, 20, 21, 22, 23, 24, 25, 26, 27, 28, 29, 30, 31, 32, 33, 34, 35, 36, 37, 38, 39, 40, 41, 42, 43, 44, 9, 45, 46, 47, 48, 49, 50, 51, 52, 53, 56, 57, 58, 59, 60, 61, 62, 63, 64, 65, 66, 67, 68, 69, 70, 71, 72, 73, 74, 75, 76, 77, 78, 79] (by decide +kernel) (by decide +kernel)
set_option maxRecDepth 20000 in
theorem gX1_keep_X4_copy : GoodIn wsX1_keep (va_wsS RX1 29 yX4_copy wsX4_copy) := goodIn_app (goodIn_of _ (by decide +kernel)) ggX1_keep_X4_copy
theorem dX1_keep_0 : decode cX1_keep 0 = .ok (.aload_n 0, 1) := by decide +kernel
theorem dX1_keep_1 : decode cX1_keep 1 = .ok (.getfield 17, 3) := by decide +kernel
theorem dX1_keep_4 : decode cX1_keep 4 = .ok (.iconst 4, 1) := by decide +kernel
theorem dX1_keep_5 : decode cX1_keep 5 = .ok (.if_icmp .lt 7, 3) := by decide +kernel
theorem dX1_keep_8 : decode cX1_keep 8 = .ok (.aload_n 0, 1) := by decide +kernel
theorem dX1_keep_9 : decode cX1_keep 9 = .ok (.invokevirtual 22, 3) := by decide +kernel
theorem dX1_keep_12 : decode cX1_keep 12 = .ok (.aload_n 0, 1) := by decide +kernel
theorem dX1_keep_13 : decode cX1_keep 13 = .ok (.getfield 17, 3) := by decide +kernel
theorem dX1_keep_16 : decode cX1_keep 16 = .ok (.iconst 0, 1) := by decide +kernel
theorem dX1_keep_17 : decode cX1_keep 17 = .ok (.iconst 3, 1) := by decide +kernel
theorem dX1_keep_18 : decode cX1_keep 18 = .ok (.invokestatic 25, 3) := by decide +kernel
theorem dX1_keep_21 : decode cX1_keep 21 = .ok (.ifCond .eq 26, 3) := by decide +kernel
theorem dX1_keep_24 : decode cX1_keep 24 = .ok (.aload_n 1, 1) := by decide +kernel
theorem dX1_keep_25 : decode cX1_keep 25 = .ok (.aload_n 0, 1) := by decide +kernel
theorem dX1_keep_26 : decode cX1_keep 26 = .ok (.getfield 11, 3) := by decide +kernel
theorem dX1_keep_29 : decode cX1_keep 29 = .ok (.aload_n 0, 1) := by decide +kernel
theorem dX1_keep_30 : decode cX1_keep 30 = .ok (.getfield 17, 3) := by decide +kernel
theorem dX1_keep_33 : decode cX1_keep 33 = .ok (.aaload, 1) := by decide +kernel
theorem dX1_keep_34 : decode cX1_keep 34 = .ok (.invokestatic 29, 3) := by decide +kernel
theorem dX1_keep_37 : decode cX1_keep 37 = .ok (.aload_n 0, 1) := by decide +kernel
theorem dX1_keep_38 : decode cX1_keep 38 = .ok (.dup, 1) := by decide +kernel
theorem dX1_keep_39 : decode cX1_keep 39 = .ok (.getfield 17, 3) := by decide +kernel
theorem dX1_keep_42 : decode cX1_keep 42 = .ok (.iconst 1, 1) := by decide +kernel
theorem dX1_keep_43 : decode cX1_keep 43 = .ok (.iadd, 1) := by decide +kernel
theorem dX1_keep_44 : decode cX1_keep 44 = .ok (.putfield 17, 3) := by decide +kernel
theorem dX1_keep_47 : decode cX1_keep 47 = .ok (.return_, 1) := by decide +kernel
theorem dX1_dropOldest_0 : decode cX1_dropOldest 0 = .ok (.aload_n 0, 1) := by decide +kernel
theorem dX1_dropOldest_1 : decode cX1_dropOldest 1 = .ok (.getfield 11, 3) := by decide +kernel
theorem dX1_dropOldest_4 : decode cX1_dropOldest 4 = .ok (.iconst 0, 1) := by decide +kernel
theorem dX1_dropOldest_5 : decode cX1_dropOldest 5 = .ok (.aaload, 1) := by decide +kernel
theorem dX1_dropOldest_6 : decode cX1_dropOldest 6 = .ok (.astore_n 1, 1) := by decide +kernel
theorem dX1_dropOldest_7 : decode cX1_dropOldest 7 = .ok (.iconst 1, 1) := by decide +kernel
theorem dX1_dropOldest_8 : decode cX1_dropOldest 8 = .ok (.istore_n 2, 1) := by decide +kernel
theorem dX1_dropOldest_9 : decode cX1_dropOldest 9 = .ok (.iload_n 2, 1) := by decide +kernel
theorem dX1_dropOldest_10 : decode cX1_dropOldest 10 = .ok (.iconst 4, 1) := by decide +kernel
theorem dX1_dropOldest_11 : decode cX1_dropOldest 11 = .ok (.if_icmp .ge 23, 3) := by decide +kernel
theorem dX1_dropOldest_14 : decode cX1_dropOldest 14 = .ok (.aload_n 0, 1) := by decide +kernel
theorem dX1_dropOldest_15 : decode cX1_dropOldest 15 = .ok (.getfield 11, 3) := by decide +kernel
theorem dX1_dropOldest_18 : decode cX1_dropOldest 18 = .ok (.iload_n 2, 1) := by decide +kernel
theorem dX1_dropOldest_19 : decode cX1_dropOldest 19 = .ok (.iconst 1, 1) := by decide +kernel
theorem dX1_dropOldest_20 : decode cX1_dropOldest 20 = .ok (.isub, 1) := by decide +kernel
theorem dX1_dropOldest_21 : decode cX1_dropOldest 21 = .ok (.aload_n 0, 1) := by decide +kernel
theorem dX1_dropOldest_22 : decode cX1_dropOldest 22 = .ok (.getfield 11, 3) := by decide +kernel
theorem dX1_dropOldest_25 : decode cX1_dropOldest 25 = .ok (.iload_n 2, 1) := by decide +kernel
theorem dX1_dropOldest_26 : decode cX1_dropOldest 26 = .ok (.aaload, 1) := by decide +kernel
theorem dX1_dropOldest_27 : decode cX1_dropOldest 27 = .ok (.aastore, 1) := by decide +kernel
theorem dX1_dropOldest_28 : decode cX1_dropOldest 28 = .ok (.iinc 2 1, 3) := by decide +kernel
theorem dX1_dropOldest_31 : decode cX1_dropOldest 31 = .ok (.goto (-22), 3) := by decide +kernel
theorem dX1_dropOldest_34 : decode cX1_dropOldest 34 = .ok (.aload_n 0, 1) := by decide +kernel
theorem dX1_dropOldest_35 : decode cX1_dropOldest 35 = .ok (.getfield 11, 3) := by decide +kernel
theorem dX1_dropOldest_38 : decode cX1_dropOldest 38 = .ok (.iconst 3, 1) := by decide +kernel
theorem dX1_dropOldest_39 : decode cX1_dropOldest 39 = .ok (.aload_n 1, 1) := by decide +kernel
theorem dX1_dropOldest_40 : decode cX1_dropOldest 40 = .ok (.aastore, 1) := by decide +kernel
theorem dX1_dropOldest_41 : decode cX1_dropOldest 41 = .ok (.aload_n 0, 1) := by decide +kernel
theorem dX1_dropOldest_42 : decode cX1_dropOldest 42 = .ok (.iconst 3, 1) := by decide +kernel
theorem dX1_dropOldest_43 : decode cX1_dropOldest 43 = .ok (.putfield 17, 3) := by decide +kernel
theorem dX1_dropOldest_46 : decode cX1_dropOldest 46 = .ok (.return_, 1) := by decide +kernel
theorem dX2_init_0 : decode cX2_init 0 = .ok (.aload_n 0, 1) := by decide +kernel
theorem dX2_init_1 : decode cX2_init 1 = .ok (.invokespecial 3, 3) := by decide +kernel
theorem dX2_init_4 : decode cX2_init 4 = .ok (.aload_n 0, 1) := by decide +kernel
theorem dX2_init_5 : decode cX2_init 5 = .ok (.iconst 0, 1) := by decide +kernel
theorem dX2_init_6 : decode cX2_init 6 = .ok (.putfield 9, 3) := by decide +kernel
theorem dX2_init_9 : decode cX2_init 9 = .ok (.aload_n 0, 1) := by decide +kernel
theorem dX2_init_10 : decode cX2_init 10 = .ok (.iconst 0, 1) := by decide +kernel
theorem dX2_init_11 : decode cX2_init 11 = .ok (.putfield 15, 3) := by decide +kernel
theorem dX2_init_14 : decode cX2_init 14 = .ok (.aload_n 0, 1) := by decide +kernel
theorem dX2_init_15 : decode cX2_init 15 = .ok (.iconst (-1), 1) := by decide +kernel
theorem dX2_init_16 : decode cX2_init 16 = .ok (.putfield 18, 3) := by decide +kernel
theorem dX2_init_19 : decode cX2_init 19 = .ok (.aload_n 0, 1) := by decide +kernel
theorem dX2_init_20 : decode cX2_init 20 = .ok (.iconst 0, 1) := by decide +kernel
theorem dX2_init_21 : decode cX2_init 21 = .ok (.putfield 21, 3) := by decide +kernel
theorem dX2_init_24 : decode cX2_init 24 = .ok (.aload_n 0, 1) := by decide +kernel
theorem dX2_init_25 : decode cX2_init 25 = .ok (.iconst 0, 1) := by decide +kernel
theorem dX2_init_26 : decode cX2_init 26 = .ok (.putfield 24, 3) := by decide +kernel
theorem dX2_init_29 : decode cX2_init 29 = .ok (.aload_n 0, 1) := by decide +kernel
theorem dX2_init_30 : decode cX2_init 30 = .ok (.iconst 0, 1) := by decide +kernel
theorem dX2_init_31 : decode cX2_init 31 = .ok (.putfield 27, 3) := by decide +kernel
theorem dX2_init_34 : decode cX2_init 34 = .ok (.aload_n 0, 1) := by decide +kernel
theorem dX2_init_35 : decode cX2_init 35 = .ok (.iconst 0, 1) := by decide +kernel
theorem dX2_init_36 : decode cX2_init 36 = .ok (.putfield 30, 3) := by decide +kernel
theorem dX2_init_39 : decode cX2_init 39 = .ok (.return_, 1) := by decide +kernel
set_option maxRecDepth 20000 in
theorem ggX3_init_X4_init : GoodIn wsX3_init wsX4_init := goodIn_r _ [14, 15, 2, 3, 16, 17, 18, 19, 20, 21, 22, 23, 24, 25, 26, 27, 28, 29, 30, 31, 32, 33, 34, 35, 36, 37, 38, 39, 40, 41, 42, 43, 44, 45, 46, 84, 85, 86, 87, 88, 89, 90, 57, 58, 59, 60, 61, 62, 63, 64, 65, 66, 67, 68, 69, 70, 71, 72, 73] (by decide +kernel) (by decide +kernel)
set_option maxRecDepth 20000 in
theorem gX3_init_X4_init_n11 : GoodIn wsX3_init (wsX4_init) := ggX3_init_X4_init
set_option maxRecDepth 20000 in
theorem ggX3_init_X2_init : GoodIn wsX3_init wsX2_init := goodIn_r _ [48, 49, 2, 3, 50, 51, 52, 53, 54, 55, 56, 77, 78, 79, 80, 81, 82, 83] (by decide +kernel) (by decide +kernel)
set_option maxRecDepth 20000 in
theorem gX3_init_X2_init_n20 : GoodIn wsX3_init (wsX2_init) := ggX3_init_X2_init
theorem dX3_init_0 : decode cX3_init 0 = .ok (.aload_n 0, 1) := by decide +kernel
theorem dX3_init_1 : decode cX3_init 1 = .ok (.invokespecial 3, 3) := by decide +kernel
theorem dX3_init_4 : decode cX3_init 4 = .ok (.aload_n 0, 1) := by decide +kernel
theorem dX3_init_5 : decode cX3_init 5 = .ok (.new 9, 3) := by decide +kernel
theorem dX3_init_8 : decode cX3_init 8 = .ok (.dup, 1) := by decide +kernel
theorem dX3_init_9 : decode cX3_init 9 = .ok (.invokespecial 11, 3) := by decide +kernel
theorem dX3_init_12 : decode cX3_init 12 = .ok (.putfield 12, 3) := by decide +kernel
theorem dX3_init_15 : decode cX3_init 15 = .ok (.aload_n 0, 1) := by decide +kernel
theorem dX3_init_16 : decode cX3_init 16 = .ok (.new 18, 3) := by decide +kernel
theorem dX3_init_19 : decode cX3_init 19 = .ok (.dup, 1) := by decide +kernel
theorem dX3_init_20 : decode cX3_init 20 = .ok (.invokespecial 20, 3) := by decide +kernel
theorem dX3_init_23 : decode cX3_init 23 = .ok (.putfield 21, 3) := by decide +kernel
theorem dX3_init_26 : decode cX3_init 26 = .ok (.aload_n 0, 1) := by decide +kernel
theorem dX3_init_27 : decode cX3_init 27 = .ok (.iconst 0, 1) := by decide +kernel
theorem dX3_init_28 : decode cX3_init 28 = .ok (.putfield 25, 3) := by decide +kernel
theorem dX3_init_31 : decode cX3_init 31 = .ok (.return_, 1) := by decide +kernel
set_option maxRecDepth 20000 in
theorem ggX4_init_X0_init : GoodIn wsX4_init wsX0_init := goodIn_r _ [26, 27, 2, 3, 28, 29, 30, 31, 32, 33, 34, 35, 36, 37, 38, 39, 40, 41] (by decide +kernel) (by decide +kernel)
set_option maxRecDepth 20000 in
theorem gX4_init_X0_init_n11 : GoodIn wsX4_init (wsX0_init) := ggX4_init_X0_init
theorem dX4_init_0 : decode cX4_init 0 = .ok (.aload_n 0, 1) := by decide +kernel
theorem dX4_init_1 : decode cX4_init 1 = .ok (.invokespecial 3, 3) := by decide +kernel
theorem dX4_init_4 : decode cX4_init 4 = .ok (.aload_n 0, 1) := by decide +kernel
theorem dX4_init_5 : decode cX4_init 5 = .ok (.new 9, 3) := by decide +kernel
theorem dX4_init_8 : decode cX4_init 8 = .ok (.dup, 1) := by decide +kernel
theorem dX4_init_9 : decode cX4_init 9 = .ok (.invokespecial 11, 3) := by decide +kernel
theorem dX4_init_12 : decode cX4_init 12 = .ok (.putfield 12, 3) := by decide +kernel
theorem dX4_init_15 : decode cX4_init 15 = .ok (.aload_n 0, 1) := by decide +kernel
theorem dX4_init_16 : decode cX4_init 16 = .ok (.bipush 64, 2) := by decide +kernel
theorem dX4_init_18 : decode cX4_init 18 = .ok (.newarray .int, 2) := by decide +kernel
theorem dX4_init_20 : decode cX4_init 20 = .ok (.putfield 18, 3) := by decide +kernel
theorem dX4_init_23 : decode cX4_init 23 = .ok (.aload_n 0, 1) := by decide +kernel
theorem dX4_init_24 : decode cX4_init 24 = .ok (.bipush 64, 2) := by decide +kernel
theorem dX4_init_26 : decode cX4_init 26 = .ok (.newarray .int, 2) := by decide +kernel
theorem dX4_init_28 : decode cX4_init 28 = .ok (.putfield 22, 3) := by decide +kernel
theorem dX4_init_31 : decode cX4_init 31 = .ok (.aload_n 0, 1) := by decide +kernel
theorem dX4_init_32 : decode cX4_init 32 = .ok (.bipush 8, 2) := by decide +kernel
theorem dX4_init_34 : decode cX4_init 34 = .ok (.newarray .int, 2) := by decide +kernel
theorem dX4_init_36 : decode cX4_init 36 = .ok (.putfield 25, 3) := by decide +kernel
theorem dX4_init_39 : decode cX4_init 39 = .ok (.aload_n 0, 1) := by decide +kernel
theorem dX4_init_40 : decode cX4_init 40 = .ok (.bipush 8, 2) := by decide +kernel
theorem dX4_init_42 : decode cX4_init 42 = .ok (.newarray .int, 2) := by decide +kernel
theorem dX4_init_44 : decode cX4_init 44 = .ok (.putfield 28, 3) := by decide +kernel
theorem dX4_init_47 : decode cX4_init 47 = .ok (.aload_n 0, 1) := by decide +kernel
theorem dX4_init_48 : decode cX4_init 48 = .ok (.bipush 8, 2) := by decide +kernel
theorem dX4_init_50 : decode cX4_init 50 = .ok (.newarray .int, 2) := by decide +kernel
theorem dX4_init_52 : decode cX4_init 52 = .ok (.putfield 31, 3) := by decide +kernel
theorem dX4_init_55 : decode cX4_init 55 = .ok (.aload_n 0, 1) := by decide +kernel
theorem dX4_init_56 : decode cX4_init 56 = .ok (.bipush 8, 2) := by decide +kernel
theorem dX4_init_58 : decode cX4_init 58 = .ok (.newarray .int, 2) := by decide +kernel
theorem dX4_init_60 : decode cX4_init 60 = .ok (.putfield 34, 3) := by decide +kernel
theorem dX4_init_63 : decode cX4_init 63 = .ok (.aload_n 0, 1) := by decide +kernel
theorem dX4_init_64 : decode cX4_init 64 = .ok (.iconst 0, 1) := by decide +kernel
theorem dX4_init_65 : decode cX4_init 65 = .ok (.putfield 37, 3) := by decide +kernel
theorem dX4_init_68 : decode cX4_init 68 = .ok (.aload_n 0, 1) := by decide +kernel
theorem dX4_init_69 : decode cX4_init 69 = .ok (.iconst 0, 1) := by decide +kernel
theorem dX4_init_70 : decode cX4_init 70 = .ok (.putfield 41, 3) := by decide +kernel
theorem dX4_init_73 : decode cX4_init 73 = .ok (.aload_n 0, 1) := by decide +kernel
theorem dX4_init_74 : decode cX4_init 74 = .ok (.iconst 0, 1) := by decide +kernel
theorem dX4_init_75 : decode cX4_init 75 = .ok (.putfield 44, 3) := by decide +kernel
theorem dX4_init_78 : decode cX4_init 78 = .ok (.aload_n 0, 1) := by decide +kernel
theorem dX4_init_79 : decode cX4_init 79 = .ok (.iconst 0, 1) := by decide +kernel
theorem dX4_init_80 : decode cX4_init 80 = .ok (.putfield 47, 3) := by decide +kernel
theorem dX4_init_83 : decode cX4_init 83 = .ok (.aload_n 0, 1) := by decide +kernel
theorem dX4_init_84 : decode cX4_init 84 = .ok (.iconst 0, 1) := by decide +kernel
theorem dX4_init_85 : decode cX4_init 85 = .ok (.putfield 50, 3) := by decide +kernel
theorem dX4_init_88 : decode cX4_init 88 = .ok (.aload_n 0, 1) := by decide +kernel
theorem dX4_init_89 : decode cX4_init 89 = .ok (.iconst 0, 1) := by decide +kernel
theorem dX4_init_90 : decode cX4_init 90 = .ok (.putfield 53, 3) := by decide +kernel
theorem dX4_init_93 : decode cX4_init 93 = .ok (.aload_n 0, 1) := by decide +kernel
theorem dX4_init_94 : decode cX4_init 94 = .ok (.iconst 0, 1) := by decide +kernel
theorem dX4_init_95 : decode cX4_init 95 = .ok (.putfield 56, 3) := by decide +kernel
theorem dX4_init_98 : decode cX4_init 98 = .ok (.aload_n 0, 1) := by decide +kernel
theorem dX4_init_99 : decode cX4_init 99 = .ok (.iconst 0, 1) := by decide +kernel
theorem dX4_init_100 : decode cX4_init 100 = .ok (.putfield 59, 3) := by decide +kernel
theorem dX4_init_103 : decode cX4_init 103 = .ok (.aload_n 0, 1) := by decide +kernel
theorem dX4_init_104 : decode cX4_init 104 = .ok (.iconst 0, 1) := by decide +kernel
theorem dX4_init_105 : decode cX4_init 105 = .ok (.putfield 62, 3) := by decide +kernel
theorem dX4_init_108 : decode cX4_init 108 = .ok (.aload_n 0, 1) := by decide +kernel
theorem dX4_init_109 : decode cX4_init 109 = .ok (.iconst 0, 1) := by decide +kernel
theorem dX4_init_110 : decode cX4_init 110 = .ok (.putfield 65, 3) := by decide +kernel
theorem dX4_init_113 : decode cX4_init 113 = .ok (.return_, 1) := by decide +kernel
set_option maxRecDepth 20000 in
theorem ggX4_copy_X0_copyFrom : GoodIn wsX4_copy wsX0_copyFrom := goodIn_r _ [22, 23, 24, 25, 26, 27, 28, 29, 58, 59, 60, 61, 62, 63, 64] (by decide +kernel) (by decide +kernel)
set_option maxRecDepth 20000 in
theorem gX4_copy_X0_copyFrom : GoodIn wsX4_copy (wsV RX4 68 RX0 yX0_copyFrom wsX0_copyFrom) := goodIn_app (goodIn_of _ (by decide +kernel)) ggX4_copy_X0_copyFrom
set_option maxRecDepth 20000 in
theorem ggX4_copy_X6_copyRow : GoodIn wsX4_copy wsX6_copyRow := goodIn_r _ [32, 33, 34, 35, 36, 37, 38, 39, 40] (by decide +kernel) (by decide +kernel)
set_option maxRecDepth 20000 in
theorem gX4_copy_X6_copyRow_n72 : GoodIn wsX4_copy (wsX6_copyRow) := ggX4_copy_X6_copyRow
theorem dX4_copy_0 : decode cX4_copy 0 = .ok (.aload_n 0, 1) := by decide +kernel
theorem dX4_copy_1 : decode cX4_copy 1 = .ok (.ifnull 7, 3) := by decide +kernel
theorem dX4_copy_4 : decode cX4_copy 4 = .ok (.aload_n 1, 1) := by decide +kernel
theorem dX4_copy_5 : decode cX4_copy 5 = .ok (.ifnonnull 4, 3) := by decide +kernel
theorem dX4_copy_8 : decode cX4_copy 8 = .ok (.return_, 1) := by decide +kernel
theorem dX4_copy_9 : decode cX4_copy 9 = .ok (.aload_n 1, 1) := by decide +kernel
theorem dX4_copy_10 : decode cX4_copy 10 = .ok (.getfield 12, 3) := by decide +kernel
theorem dX4_copy_13 : decode cX4_copy 13 = .ok (.aload_n 0, 1) := by decide +kernel
theorem dX4_copy_14 : decode cX4_copy 14 = .ok (.getfield 12, 3) := by decide +kernel
theorem dX4_copy_17 : decode cX4_copy 17 = .ok (.invokevirtual 68, 3) := by decide +kernel
theorem dX4_copy_20 : decode cX4_copy 20 = .ok (.aload_n 0, 1) := by decide +kernel
theorem dX4_copy_21 : decode cX4_copy 21 = .ok (.getfield 18, 3) := by decide +kernel
theorem dX4_copy_24 : decode cX4_copy 24 = .ok (.aload_n 1, 1) := by decide +kernel
theorem dX4_copy_25 : decode cX4_copy 25 = .ok (.getfield 18, 3) := by decide +kernel
theorem dX4_copy_28 : decode cX4_copy 28 = .ok (.invokestatic 72, 3) := by decide +kernel
theorem dX4_copy_31 : decode cX4_copy 31 = .ok (.aload_n 0, 1) := by decide +kernel
theorem dX4_copy_32 : decode cX4_copy 32 = .ok (.getfield 22, 3) := by decide +kernel
theorem dX4_copy_35 : decode cX4_copy 35 = .ok (.aload_n 1, 1) := by decide +kernel
theorem dX4_copy_36 : decode cX4_copy 36 = .ok (.getfield 22, 3) := by decide +kernel
theorem dX4_copy_39 : decode cX4_copy 39 = .ok (.invokestatic 72, 3) := by decide +kernel
theorem dX4_copy_42 : decode cX4_copy 42 = .ok (.aload_n 0, 1) := by decide +kernel
theorem dX4_copy_43 : decode cX4_copy 43 = .ok (.getfield 25, 3) := by decide +kernel
theorem dX4_copy_46 : decode cX4_copy 46 = .ok (.aload_n 1, 1) := by decide +kernel
theorem dX4_copy_47 : decode cX4_copy 47 = .ok (.getfield 25, 3) := by decide +kernel
theorem dX4_copy_50 : decode cX4_copy 50 = .ok (.invokestatic 72, 3) := by decide +kernel
theorem dX4_copy_53 : decode cX4_copy 53 = .ok (.aload_n 0, 1) := by decide +kernel
theorem dX4_copy_54 : decode cX4_copy 54 = .ok (.getfield 28, 3) := by decide +kernel
theorem dX4_copy_57 : decode cX4_copy 57 = .ok (.aload_n 1, 1) := by decide +kernel
theorem dX4_copy_58 : decode cX4_copy 58 = .ok (.getfield 28, 3) := by decide +kernel
theorem dX4_copy_61 : decode cX4_copy 61 = .ok (.invokestatic 72, 3) := by decide +kernel
theorem dX4_copy_64 : decode cX4_copy 64 = .ok (.aload_n 0, 1) := by decide +kernel
theorem dX4_copy_65 : decode cX4_copy 65 = .ok (.getfield 31, 3) := by decide +kernel
theorem dX4_copy_68 : decode cX4_copy 68 = .ok (.aload_n 1, 1) := by decide +kernel
theorem dX4_copy_69 : decode cX4_copy 69 = .ok (.getfield 31, 3) := by decide +kernel
theorem dX4_copy_72 : decode cX4_copy 72 = .ok (.invokestatic 72, 3) := by decide +kernel
theorem dX4_copy_75 : decode cX4_copy 75 = .ok (.aload_n 0, 1) := by decide +kernel
theorem dX4_copy_76 : decode cX4_copy 76 = .ok (.getfield 34, 3) := by decide +kernel
theorem dX4_copy_79 : decode cX4_copy 79 = .ok (.aload_n 1, 1) := by decide +kernel
theorem dX4_copy_80 : decode cX4_copy 80 = .ok (.getfield 34, 3) := by decide +kernel
theorem dX4_copy_83 : decode cX4_copy 83 = .ok (.invokestatic 72, 3) := by decide +kernel
theorem dX4_copy_86 : decode cX4_copy 86 = .ok (.aload_n 1, 1) := by decide +kernel
theorem dX4_copy_87 : decode cX4_copy 87 = .ok (.aload_n 0, 1) := by decide +kernel
theorem dX4_copy_88 : decode cX4_copy 88 = .ok (.getfield 37, 3) := by decide +kernel
theorem dX4_copy_91 : decode cX4_copy 91 = .ok (.putfield 37, 3) := by decide +kernel
theorem dX4_copy_94 : decode cX4_copy 94 = .ok (.aload_n 1, 1) := by decide +kernel
theorem dX4_copy_95 : decode cX4_copy 95 = .ok (.aload_n 0, 1) := by decide +kernel
theorem dX4_copy_96 : decode cX4_copy 96 = .ok (.getfield 41, 3) := by decide +kernel
theorem dX4_copy_99 : decode cX4_copy 99 = .ok (.putfield 41, 3) := by decide +kernel
theorem dX4_copy_102 : decode cX4_copy 102 = .ok (.aload_n 1, 1) := by decide +kernel
theorem dX4_copy_103 : decode cX4_copy 103 = .ok (.aload_n 0, 1) := by decide +kernel
theorem dX4_copy_104 : decode cX4_copy 104 = .ok (.getfield 44, 3) := by decide +kernel
theorem dX4_copy_107 : decode cX4_copy 107 = .ok (.putfield 44, 3) := by decide +kernel
theorem dX4_copy_110 : decode cX4_copy 110 = .ok (.aload_n 1, 1) := by decide +kernel
theorem dX4_copy_111 : decode cX4_copy 111 = .ok (.aload_n 0, 1) := by decide +kernel
theorem dX4_copy_112 : decode cX4_copy 112 = .ok (.getfield 47, 3) := by decide +kernel
theorem dX4_copy_115 : decode cX4_copy 115 = .ok (.putfield 47, 3) := by decide +kernel
theorem dX4_copy_118 : decode cX4_copy 118 = .ok (.aload_n 1, 1) := by decide +kernel
theorem dX4_copy_119 : decode cX4_copy 119 = .ok (.aload_n 0, 1) := by decide +kernel
theorem dX4_copy_120 : decode cX4_copy 120 = .ok (.getfield 50, 3) := by decide +kernel
theorem dX4_copy_123 : decode cX4_copy 123 = .ok (.putfield 50, 3) := by decide +kernel
theorem dX4_copy_126 : decode cX4_copy 126 = .ok (.aload_n 1, 1) := by decide +kernel
theorem dX4_copy_127 : decode cX4_copy 127 = .ok (.aload_n 0, 1) := by decide +kernel
theorem dX4_copy_128 : decode cX4_copy 128 = .ok (.getfield 53, 3) := by decide +kernel
theorem dX4_copy_131 : decode cX4_copy 131 = .ok (.putfield 53, 3) := by decide +kernel
theorem dX4_copy_134 : decode cX4_copy 134 = .ok (.aload_n 1, 1) := by decide +kernel
theorem dX4_copy_135 : decode cX4_copy 135 = .ok (.aload_n 0, 1) := by decide +kernel
theorem dX4_copy_136 : decode cX4_copy 136 = .ok (.getfield 56, 3) := by decide +kernel
theorem dX4_copy_139 : decode cX4_copy 139 = .ok (.putfield 56, 3) := by decide +kernel
theorem dX4_copy_142 : decode cX4_copy 142 = .ok (.aload_n 1, 1) := by decide +kernel
theorem dX4_copy_143 : decode cX4_copy 143 = .ok (.aload_n 0, 1) := by decide +kernel
theorem dX4_copy_144 : decode cX4_copy 144 = .ok (.getfield 59, 3) := by decide +kernel
theorem dX4_copy_147 : decode cX4_copy 147 = .ok (.putfield 59, 3) := by decide +kernel
theorem dX4_copy_150 : decode cX4_copy 150 = .ok (.aload_n 1, 1) := by decide +kernel
theorem dX4_copy_151 : decode cX4_copy 151 = .ok (.aload_n 0, 1) := by decide +kernel
theorem dX4_copy_152 : decode cX4_copy 152 = .ok (.getfield 62, 3) := by decide +kernel
theorem dX4_copy_155 : decode cX4_copy 155 = .ok (.putfield 62, 3) := by decide +kernel
theorem dX4_copy_158 : decode cX4_copy 158 = .ok (.aload_n 1, 1) := by decide +kernel
theorem dX4_copy_159 : decode cX4_copy 159 = .ok (.aload_n 0, 1) := by decide +kernel
theorem dX4_copy_160 : decode cX4_copy 160 = .ok (.getfield 65, 3) := by decide +kernel
theorem dX4_copy_163 : decode cX4_copy 163 = .ok (.putfield 65, 3) := by decide +kernel
theorem dX4_copy_166 : decode cX4_copy 166 = .ok (.return_, 1) := by decide +kernel
set_option maxRecDepth 20000 in
theorem ggX4_readPlace_X4_lineFor : GoodIn wsX4_readPlace wsX4_lineFor := goodIn_r _ [6, 7, 8, 9, 10, 11, 12, 13, 5, 14, 15, 16, 17, 18, 19, 20, 21, 22, 23, 24, 25, 26, 27, 28, 29, 30, 31, 32, 33, 34, 35, 1, 36, 37, 38, 39, 40, 41, 42, 43, 44, 45, 46, 47, 48, 49, 50, 51, 52, 53, 54, 55, 56, 57, 58, 59, 60, 61, 62, 63, 64, 65, 66] (by decide +kernel) (by decide +kernel)
set_option maxRecDepth 20000 in
theorem gX4_readPlace_X4_lineFor : GoodIn wsX4_readPlace (wsV RX4 76 RX4 yX4_lineFor wsX4_lineFor) := goodIn_app (goodIn_of _ (by decide +kernel)) ggX4_readPlace_X4_lineFor
set_option maxRecDepth 20000 in
theorem ggX4_readPlace_X6_isLine : GoodIn wsX4_readPlace wsX6_isLine := goodIn_r _ [19] (by decide +kernel) (by decide +kernel)
set_option maxRecDepth 20000 in
theorem gX4_readPlace_X6_isLine_n80 : GoodIn wsX4_readPlace (wsX6_isLine) := ggX4_readPlace_X6_isLine
theorem dX4_readPlace_0 : decode cX4_readPlace 0 = .ok (.aload_n 0, 1) := by decide +kernel
theorem dX4_readPlace_1 : decode cX4_readPlace 1 = .ok (.iload_n 1, 1) := by decide +kernel
theorem dX4_readPlace_2 : decode cX4_readPlace 2 = .ok (.invokevirtual 76, 3) := by decide +kernel
theorem dX4_readPlace_5 : decode cX4_readPlace 5 = .ok (.istore_n 2, 1) := by decide +kernel
theorem dX4_readPlace_6 : decode cX4_readPlace 6 = .ok (.iload_n 2, 1) := by decide +kernel
theorem dX4_readPlace_7 : decode cX4_readPlace 7 = .ok (.invokestatic 80, 3) := by decide +kernel
theorem dX4_readPlace_10 : decode cX4_readPlace 10 = .ok (.ifCond .eq 12, 3) := by decide +kernel
theorem dX4_readPlace_13 : decode cX4_readPlace 13 = .ok (.aload_n 0, 1) := by decide +kernel
theorem dX4_readPlace_14 : decode cX4_readPlace 14 = .ok (.getfield 31, 3) := by decide +kernel
theorem dX4_readPlace_17 : decode cX4_readPlace 17 = .ok (.iload_n 2, 1) := by decide +kernel
theorem dX4_readPlace_18 : decode cX4_readPlace 18 = .ok (.iaload, 1) := by decide +kernel
theorem dX4_readPlace_19 : decode cX4_readPlace 19 = .ok (.goto 4, 3) := by decide +kernel
theorem dX4_readPlace_22 : decode cX4_readPlace 22 = .ok (.iconst 0, 1) := by decide +kernel
theorem dX4_readPlace_23 : decode cX4_readPlace 23 = .ok (.ireturn, 1) := by decide +kernel
set_option maxRecDepth 20000 in
theorem ggX4_writePlace_X4_lineFor : GoodIn wsX4_writePlace wsX4_lineFor := goodIn_r _ [9, 10, 11, 12, 13, 14, 15, 16, 8, 17, 2, 18, 19, 20, 21, 22, 23, 24, 25, 26, 27, 28, 29, 30, 31, 32, 33, 34, 35, 36, 37, 1, 38, 39, 40, 41, 42, 43, 44, 45, 46, 47, 48, 49, 50, 51, 84, 85, 86, 87, 88, 89, 90, 91, 92, 93, 94, 95, 96, 97, 98, 99, 100] (by decide +kernel) (by decide +kernel)
set_option maxRecDepth 20000 in
theorem gX4_writePlace_X4_lineFor : GoodIn wsX4_writePlace (wsV RX4 76 RX4 yX4_lineFor wsX4_lineFor) := goodIn_app (goodIn_of _ (by decide +kernel)) ggX4_writePlace_X4_lineFor
set_option maxRecDepth 20000 in
theorem ggX4_writePlace_X6_isLine : GoodIn wsX4_writePlace wsX6_isLine := goodIn_r _ [21] (by decide +kernel) (by decide +kernel)
set_option maxRecDepth 20000 in
theorem gX4_writePlace_X6_isLine_n80 : GoodIn wsX4_writePlace (wsX6_isLine) := ggX4_writePlace_X6_isLine
set_option maxRecDepth 20000 in
theorem ggX4_writePlace_X4_numberOf : GoodIn wsX4_writePlace wsX4_numberOf := goodIn_r _ [55, 56, 57, 58, 8, 59, 2, 60, 61, 62, 63, 64, 65, 66, 84, 85, 86, 87, 88, 89, 90, 91, 92, 93, 94, 95, 96, 97, 98, 99, 100] (by decide +kernel) (by decide +kernel)
set_option maxRecDepth 20000 in
theorem gX4_writePlace_X4_numberOf : GoodIn wsX4_writePlace (wsV RX4 84 RX4 yX4_numberOf wsX4_numberOf) := goodIn_app (goodIn_of _ (by decide +kernel)) ggX4_writePlace_X4_numberOf
set_option maxRecDepth 20000 in
theorem ggX4_writePlace_X0_allowance : GoodIn wsX4_writePlace wsX0_allowance := goodIn_r _ [71, 72, 73, 74, 75, 70, 76, 77, 78, 79, 80, 81, 82, 83, 101, 102, 103, 104, 105, 106, 107] (by decide +kernel) (by decide +kernel)
set_option maxRecDepth 20000 in
theorem gX4_writePlace_X0_allowance : GoodIn wsX4_writePlace (wsV RX4 87 RX0 yX0_allowance wsX0_allowance) := goodIn_app (goodIn_of _ (by decide +kernel)) ggX4_writePlace_X0_allowance
set_option maxRecDepth 20000 in
theorem ggX4_writePlace_X4_layOnDisk : GoodIn wsX4_writePlace wsX4_layOnDisk := goodIn_r _ [42, 43, 44, 45, 46, 20, 47, 84, 85, 86, 87, 88, 89, 90, 91, 92, 93, 94, 95, 96, 97, 98, 99, 100] (by decide +kernel) (by decide +kernel)
set_option maxRecDepth 20000 in
theorem gX4_writePlace_X4_layOnDisk : GoodIn wsX4_writePlace (wsV RX4 91 RX4 yX4_layOnDisk wsX4_layOnDisk) := goodIn_app (goodIn_of _ (by decide +kernel)) ggX4_writePlace_X4_layOnDisk
theorem dX4_writePlace_0 : decode cX4_writePlace 0 = .ok (.aload_n 0, 1) := by decide +kernel
theorem dX4_writePlace_1 : decode cX4_writePlace 1 = .ok (.iload_n 1, 1) := by decide +kernel
theorem dX4_writePlace_2 : decode cX4_writePlace 2 = .ok (.invokevirtual 76, 3) := by decide +kernel
theorem dX4_writePlace_5 : decode cX4_writePlace 5 = .ok (.istore_n 3, 1) := by decide +kernel
theorem dX4_writePlace_6 : decode cX4_writePlace 6 = .ok (.iload_n 3, 1) := by decide +kernel
theorem dX4_writePlace_7 : decode cX4_writePlace 7 = .ok (.invokestatic 80, 3) := by decide +kernel
theorem dX4_writePlace_10 : decode cX4_writePlace 10 = .ok (.ifCond .ne 5, 3) := by decide +kernel
theorem dX4_writePlace_13 : decode cX4_writePlace 13 = .ok (.iconst 0, 1) := by decide +kernel
theorem dX4_writePlace_14 : decode cX4_writePlace 14 = .ok (.ireturn, 1) := by decide +kernel
theorem dX4_writePlace_15 : decode cX4_writePlace 15 = .ok (.aload_n 0, 1) := by decide +kernel
theorem dX4_writePlace_16 : decode cX4_writePlace 16 = .ok (.getfield 31, 3) := by decide +kernel
theorem dX4_writePlace_19 : decode cX4_writePlace 19 = .ok (.iload_n 3, 1) := by decide +kernel
theorem dX4_writePlace_20 : decode cX4_writePlace 20 = .ok (.iload_n 2, 1) := by decide +kernel
theorem dX4_writePlace_21 : decode cX4_writePlace 21 = .ok (.iastore, 1) := by decide +kernel
theorem dX4_writePlace_22 : decode cX4_writePlace 22 = .ok (.aload_n 0, 1) := by decide +kernel
theorem dX4_writePlace_23 : decode cX4_writePlace 23 = .ok (.getfield 25, 3) := by decide +kernel
theorem dX4_writePlace_26 : decode cX4_writePlace 26 = .ok (.iload_n 3, 1) := by decide +kernel
theorem dX4_writePlace_27 : decode cX4_writePlace 27 = .ok (.iaload, 1) := by decide +kernel
theorem dX4_writePlace_28 : decode cX4_writePlace 28 = .ok (.iconst 2, 1) := by decide +kernel
theorem dX4_writePlace_29 : decode cX4_writePlace 29 = .ok (.if_icmp .eq 18, 3) := by decide +kernel
theorem dX4_writePlace_32 : decode cX4_writePlace 32 = .ok (.aload_n 0, 1) := by decide +kernel
theorem dX4_writePlace_33 : decode cX4_writePlace 33 = .ok (.iconst 2, 1) := by decide +kernel
theorem dX4_writePlace_34 : decode cX4_writePlace 34 = .ok (.invokevirtual 84, 3) := by decide +kernel
theorem dX4_writePlace_37 : decode cX4_writePlace 37 = .ok (.aload_n 0, 1) := by decide +kernel
theorem dX4_writePlace_38 : decode cX4_writePlace 38 = .ok (.getfield 12, 3) := by decide +kernel
theorem dX4_writePlace_41 : decode cX4_writePlace 41 = .ok (.invokevirtual 87, 3) := by decide +kernel
theorem dX4_writePlace_44 : decode cX4_writePlace 44 = .ok (.if_icmp .ge 12, 3) := by decide +kernel
theorem dX4_writePlace_47 : decode cX4_writePlace 47 = .ok (.aload_n 0, 1) := by decide +kernel
theorem dX4_writePlace_48 : decode cX4_writePlace 48 = .ok (.getfield 25, 3) := by decide +kernel
theorem dX4_writePlace_51 : decode cX4_writePlace 51 = .ok (.iload_n 3, 1) := by decide +kernel
theorem dX4_writePlace_52 : decode cX4_writePlace 52 = .ok (.iconst 2, 1) := by decide +kernel
theorem dX4_writePlace_53 : decode cX4_writePlace 53 = .ok (.iastore, 1) := by decide +kernel
theorem dX4_writePlace_54 : decode cX4_writePlace 54 = .ok (.iconst 0, 1) := by decide +kernel
theorem dX4_writePlace_55 : decode cX4_writePlace 55 = .ok (.ireturn, 1) := by decide +kernel
theorem dX4_writePlace_56 : decode cX4_writePlace 56 = .ok (.aload_n 0, 1) := by decide +kernel
theorem dX4_writePlace_57 : decode cX4_writePlace 57 = .ok (.iload_n 1, 1) := by decide +kernel
theorem dX4_writePlace_58 : decode cX4_writePlace 58 = .ok (.iload_n 2, 1) := by decide +kernel
theorem dX4_writePlace_59 : decode cX4_writePlace 59 = .ok (.invokevirtual 91, 3) := by decide +kernel
theorem dX4_writePlace_62 : decode cX4_writePlace 62 = .ok (.aload_n 0, 1) := by decide +kernel
theorem dX4_writePlace_63 : decode cX4_writePlace 63 = .ok (.dup, 1) := by decide +kernel
theorem dX4_writePlace_64 : decode cX4_writePlace 64 = .ok (.getfield 53, 3) := by decide +kernel
theorem dX4_writePlace_67 : decode cX4_writePlace 67 = .ok (.iconst 1, 1) := by decide +kernel
theorem dX4_writePlace_68 : decode cX4_writePlace 68 = .ok (.iadd, 1) := by decide +kernel
theorem dX4_writePlace_69 : decode cX4_writePlace 69 = .ok (.putfield 53, 3) := by decide +kernel
theorem dX4_writePlace_72 : decode cX4_writePlace 72 = .ok (.iconst 1, 1) := by decide +kernel
theorem dX4_writePlace_73 : decode cX4_writePlace 73 = .ok (.ireturn, 1) := by decide +kernel
set_option maxRecDepth 20000 in
theorem ggX4_lineFor_X4_holderOf : GoodIn wsX4_lineFor wsX4_holderOf := goodIn_r _ [9, 10, 11, 46, 47, 48, 49, 50, 51, 52, 53, 54, 55, 56, 57, 58, 59, 60, 61, 62] (by decide +kernel) (by decide +kernel)
set_option maxRecDepth 20000 in
theorem gX4_lineFor_X4_holderOf : GoodIn wsX4_lineFor (wsV RX4 95 RX4 yX4_holderOf wsX4_holderOf) := goodIn_app (goodIn_of _ (by decide +kernel)) ggX4_lineFor_X4_holderOf
set_option maxRecDepth 20000 in
theorem ggX4_lineFor_X6_isLine : GoodIn wsX4_lineFor wsX6_isLine := goodIn_r _ [14] (by decide +kernel) (by decide +kernel)
set_option maxRecDepth 20000 in
theorem gX4_lineFor_X6_isLine_n80 : GoodIn wsX4_lineFor (wsX6_isLine) := ggX4_lineFor_X6_isLine
set_option maxRecDepth 20000 in
theorem ggX4_lineFor_X4_lineToTake : GoodIn wsX4_lineFor wsX4_lineToTake := goodIn_r _ [18, 19, 20, 21, 8, 22, 10, 23, 24, 25, 26, 4, 46, 47, 48, 49, 50, 51, 52, 53, 54, 55, 56, 57, 58, 59, 60, 61, 62] (by decide +kernel) (by decide +kernel)
set_option maxRecDepth 20000 in
theorem gX4_lineFor_X4_lineToTake : GoodIn wsX4_lineFor (wsV RX4 98 RX4 yX4_lineToTake wsX4_lineToTake) := goodIn_app (goodIn_of _ (by decide +kernel)) ggX4_lineFor_X4_lineToTake
set_option maxRecDepth 20000 in
theorem ggX4_lineFor_X4_flushLine : GoodIn wsX4_lineFor wsX4_flushLine := goodIn_r _ [30, 10, 11, 31, 32, 12, 13, 14, 33, 34, 35, 8, 36, 37, 38, 39, 40, 41, 46, 47, 48, 49, 50, 51, 52, 53, 54, 55, 56, 57, 58, 59, 60, 61, 62] (by decide +kernel) (by decide +kernel)
set_option maxRecDepth 20000 in
theorem gX4_lineFor_X4_flushLine : GoodIn wsX4_lineFor (wsV RX4 101 RX4 yX4_flushLine wsX4_flushLine) := goodIn_app (goodIn_of _ (by decide +kernel)) ggX4_lineFor_X4_flushLine
set_option maxRecDepth 20000 in
theorem ggX4_lineFor_X4_layIntoLine : GoodIn wsX4_lineFor wsX4_layIntoLine := goodIn_r _ [45, 10, 11, 31, 37, 12, 13, 14, 40, 41, 46, 47, 48, 49, 50, 51, 52, 53, 54, 55, 56, 57, 58, 59, 60, 61, 62] (by decide +kernel) (by decide +kernel)
set_option maxRecDepth 20000 in
theorem gX4_lineFor_X4_layIntoLine : GoodIn wsX4_lineFor (wsV RX4 105 RX4 yX4_layIntoLine wsX4_layIntoLine) := goodIn_app (goodIn_of _ (by decide +kernel)) ggX4_lineFor_X4_layIntoLine
theorem dX4_lineFor_0 : decode cX4_lineFor 0 = .ok (.aload_n 0, 1) := by decide +kernel
theorem dX4_lineFor_1 : decode cX4_lineFor 1 = .ok (.iload_n 1, 1) := by decide +kernel
theorem dX4_lineFor_2 : decode cX4_lineFor 2 = .ok (.invokevirtual 95, 3) := by decide +kernel
theorem dX4_lineFor_5 : decode cX4_lineFor 5 = .ok (.istore_n 2, 1) := by decide +kernel
theorem dX4_lineFor_6 : decode cX4_lineFor 6 = .ok (.iload_n 2, 1) := by decide +kernel
theorem dX4_lineFor_7 : decode cX4_lineFor 7 = .ok (.invokestatic 80, 3) := by decide +kernel
theorem dX4_lineFor_10 : decode cX4_lineFor 10 = .ok (.ifCond .eq 16, 3) := by decide +kernel
theorem dX4_lineFor_13 : decode cX4_lineFor 13 = .ok (.aload_n 0, 1) := by decide +kernel
theorem dX4_lineFor_14 : decode cX4_lineFor 14 = .ok (.dup, 1) := by decide +kernel
theorem dX4_lineFor_15 : decode cX4_lineFor 15 = .ok (.getfield 44, 3) := by decide +kernel
theorem dX4_lineFor_18 : decode cX4_lineFor 18 = .ok (.iconst 1, 1) := by decide +kernel
theorem dX4_lineFor_19 : decode cX4_lineFor 19 = .ok (.iadd, 1) := by decide +kernel
theorem dX4_lineFor_20 : decode cX4_lineFor 20 = .ok (.putfield 44, 3) := by decide +kernel
theorem dX4_lineFor_23 : decode cX4_lineFor 23 = .ok (.goto 29, 3) := by decide +kernel
theorem dX4_lineFor_26 : decode cX4_lineFor 26 = .ok (.aload_n 0, 1) := by decide +kernel
theorem dX4_lineFor_27 : decode cX4_lineFor 27 = .ok (.dup, 1) := by decide +kernel
theorem dX4_lineFor_28 : decode cX4_lineFor 28 = .ok (.getfield 47, 3) := by decide +kernel
theorem dX4_lineFor_31 : decode cX4_lineFor 31 = .ok (.iconst 1, 1) := by decide +kernel
theorem dX4_lineFor_32 : decode cX4_lineFor 32 = .ok (.iadd, 1) := by decide +kernel
theorem dX4_lineFor_33 : decode cX4_lineFor 33 = .ok (.putfield 47, 3) := by decide +kernel
theorem dX4_lineFor_36 : decode cX4_lineFor 36 = .ok (.aload_n 0, 1) := by decide +kernel
theorem dX4_lineFor_37 : decode cX4_lineFor 37 = .ok (.invokevirtual 98, 3) := by decide +kernel
theorem dX4_lineFor_40 : decode cX4_lineFor 40 = .ok (.istore_n 2, 1) := by decide +kernel
theorem dX4_lineFor_41 : decode cX4_lineFor 41 = .ok (.aload_n 0, 1) := by decide +kernel
theorem dX4_lineFor_42 : decode cX4_lineFor 42 = .ok (.iload_n 2, 1) := by decide +kernel
theorem dX4_lineFor_43 : decode cX4_lineFor 43 = .ok (.invokevirtual 101, 3) := by decide +kernel
theorem dX4_lineFor_46 : decode cX4_lineFor 46 = .ok (.aload_n 0, 1) := by decide +kernel
theorem dX4_lineFor_47 : decode cX4_lineFor 47 = .ok (.iload_n 2, 1) := by decide +kernel
theorem dX4_lineFor_48 : decode cX4_lineFor 48 = .ok (.iload_n 1, 1) := by decide +kernel
theorem dX4_lineFor_49 : decode cX4_lineFor 49 = .ok (.invokevirtual 105, 3) := by decide +kernel
theorem dX4_lineFor_52 : decode cX4_lineFor 52 = .ok (.iload_n 2, 1) := by decide +kernel
theorem dX4_lineFor_53 : decode cX4_lineFor 53 = .ok (.invokestatic 80, 3) := by decide +kernel
theorem dX4_lineFor_56 : decode cX4_lineFor 56 = .ok (.ifCond .eq 23, 3) := by decide +kernel
theorem dX4_lineFor_59 : decode cX4_lineFor 59 = .ok (.aload_n 0, 1) := by decide +kernel
theorem dX4_lineFor_60 : decode cX4_lineFor 60 = .ok (.dup, 1) := by decide +kernel
theorem dX4_lineFor_61 : decode cX4_lineFor 61 = .ok (.getfield 37, 3) := by decide +kernel
theorem dX4_lineFor_64 : decode cX4_lineFor 64 = .ok (.iconst 1, 1) := by decide +kernel
theorem dX4_lineFor_65 : decode cX4_lineFor 65 = .ok (.iadd, 1) := by decide +kernel
theorem dX4_lineFor_66 : decode cX4_lineFor 66 = .ok (.putfield 37, 3) := by decide +kernel
theorem dX4_lineFor_69 : decode cX4_lineFor 69 = .ok (.aload_n 0, 1) := by decide +kernel
theorem dX4_lineFor_70 : decode cX4_lineFor 70 = .ok (.getfield 34, 3) := by decide +kernel
theorem dX4_lineFor_73 : decode cX4_lineFor 73 = .ok (.iload_n 2, 1) := by decide +kernel
theorem dX4_lineFor_74 : decode cX4_lineFor 74 = .ok (.aload_n 0, 1) := by decide +kernel
theorem dX4_lineFor_75 : decode cX4_lineFor 75 = .ok (.getfield 37, 3) := by decide +kernel
theorem dX4_lineFor_78 : decode cX4_lineFor 78 = .ok (.iastore, 1) := by decide +kernel
theorem dX4_lineFor_79 : decode cX4_lineFor 79 = .ok (.iload_n 2, 1) := by decide +kernel
theorem dX4_lineFor_80 : decode cX4_lineFor 80 = .ok (.ireturn, 1) := by decide +kernel
set_option maxRecDepth 20000 in
theorem ggX4_lineToTake_X4_lowestEmpty : GoodIn wsX4_lineToTake wsX4_lowestEmpty := goodIn_r _ [5, 6, 12, 13, 14, 15, 16, 17, 18, 19, 20, 21, 22, 23, 24, 25, 26, 27, 28] (by decide +kernel) (by decide +kernel)
set_option maxRecDepth 20000 in
theorem gX4_lineToTake_X4_lowestEmpty : GoodIn wsX4_lineToTake (wsV RX4 108 RX4 yX4_lowestEmpty wsX4_lowestEmpty) := goodIn_app (goodIn_of _ (by decide +kernel)) ggX4_lineToTake_X4_lowestEmpty
set_option maxRecDepth 20000 in
theorem ggX4_lineToTake_X4_lowestTurn : GoodIn wsX4_lineToTake wsX4_lowestTurn := goodIn_r _ [10, 6, 11, 12, 13, 14, 15, 16, 17, 18, 19, 20, 21, 22, 23, 24, 25, 26, 27, 28] (by decide +kernel) (by decide +kernel)
set_option maxRecDepth 20000 in
theorem gX4_lineToTake_X4_lowestTurn : GoodIn wsX4_lineToTake (wsV RX4 111 RX4 yX4_lowestTurn wsX4_lowestTurn) := goodIn_app (goodIn_of _ (by decide +kernel)) ggX4_lineToTake_X4_lowestTurn
theorem dX4_lineToTake_0 : decode cX4_lineToTake 0 = .ok (.aload_n 0, 1) := by decide +kernel
theorem dX4_lineToTake_1 : decode cX4_lineToTake 1 = .ok (.invokevirtual 108, 3) := by decide +kernel
theorem dX4_lineToTake_4 : decode cX4_lineToTake 4 = .ok (.istore_n 1, 1) := by decide +kernel
theorem dX4_lineToTake_5 : decode cX4_lineToTake 5 = .ok (.iload_n 1, 1) := by decide +kernel
theorem dX4_lineToTake_6 : decode cX4_lineToTake 6 = .ok (.iconst (-1), 1) := by decide +kernel
theorem dX4_lineToTake_7 : decode cX4_lineToTake 7 = .ok (.if_icmp .ne 9, 3) := by decide +kernel
theorem dX4_lineToTake_10 : decode cX4_lineToTake 10 = .ok (.aload_n 0, 1) := by decide +kernel
theorem dX4_lineToTake_11 : decode cX4_lineToTake 11 = .ok (.iconst 1, 1) := by decide +kernel
theorem dX4_lineToTake_12 : decode cX4_lineToTake 12 = .ok (.invokevirtual 111, 3) := by decide +kernel
theorem dX4_lineToTake_15 : decode cX4_lineToTake 15 = .ok (.istore_n 1, 1) := by decide +kernel
theorem dX4_lineToTake_16 : decode cX4_lineToTake 16 = .ok (.iload_n 1, 1) := by decide +kernel
theorem dX4_lineToTake_17 : decode cX4_lineToTake 17 = .ok (.iconst (-1), 1) := by decide +kernel
theorem dX4_lineToTake_18 : decode cX4_lineToTake 18 = .ok (.if_icmp .ne 9, 3) := by decide +kernel
theorem dX4_lineToTake_21 : decode cX4_lineToTake 21 = .ok (.aload_n 0, 1) := by decide +kernel
theorem dX4_lineToTake_22 : decode cX4_lineToTake 22 = .ok (.iconst 2, 1) := by decide +kernel
theorem dX4_lineToTake_23 : decode cX4_lineToTake 23 = .ok (.invokevirtual 111, 3) := by decide +kernel
theorem dX4_lineToTake_26 : decode cX4_lineToTake 26 = .ok (.istore_n 1, 1) := by decide +kernel
theorem dX4_lineToTake_27 : decode cX4_lineToTake 27 = .ok (.iload_n 1, 1) := by decide +kernel
theorem dX4_lineToTake_28 : decode cX4_lineToTake 28 = .ok (.ireturn, 1) := by decide +kernel
set_option maxRecDepth 20000 in
theorem ggX4_layIntoLine_X6_isLine : GoodIn wsX4_layIntoLine wsX6_isLine := goodIn_r _ [7] (by decide +kernel) (by decide +kernel)
set_option maxRecDepth 20000 in
theorem gX4_layIntoLine_X6_isLine_n80 : GoodIn wsX4_layIntoLine (wsX6_isLine) := ggX4_layIntoLine_X6_isLine
set_option maxRecDepth 20000 in
theorem ggX4_layIntoLine_X6_isPlace : GoodIn wsX4_layIntoLine wsX6_isPlace := goodIn_r _ [9] (by decide +kernel) (by decide +kernel)
set_option maxRecDepth 20000 in
theorem gX4_layIntoLine_X6_isPlace_n114 : GoodIn wsX4_layIntoLine (wsX6_isPlace) := ggX4_layIntoLine_X6_isPlace
theorem dX4_layIntoLine_0 : decode cX4_layIntoLine 0 = .ok (.iload_n 1, 1) := by decide +kernel
theorem dX4_layIntoLine_1 : decode cX4_layIntoLine 1 = .ok (.invokestatic 80, 3) := by decide +kernel
theorem dX4_layIntoLine_4 : decode cX4_layIntoLine 4 = .ok (.ifCond .eq 36, 3) := by decide +kernel
theorem dX4_layIntoLine_7 : decode cX4_layIntoLine 7 = .ok (.iload_n 2, 1) := by decide +kernel
theorem dX4_layIntoLine_8 : decode cX4_layIntoLine 8 = .ok (.invokestatic 114, 3) := by decide +kernel
theorem dX4_layIntoLine_11 : decode cX4_layIntoLine 11 = .ok (.ifCond .eq 29, 3) := by decide +kernel
theorem dX4_layIntoLine_14 : decode cX4_layIntoLine 14 = .ok (.aload_n 0, 1) := by decide +kernel
theorem dX4_layIntoLine_15 : decode cX4_layIntoLine 15 = .ok (.getfield 25, 3) := by decide +kernel
theorem dX4_layIntoLine_18 : decode cX4_layIntoLine 18 = .ok (.iload_n 1, 1) := by decide +kernel
theorem dX4_layIntoLine_19 : decode cX4_layIntoLine 19 = .ok (.iconst 1, 1) := by decide +kernel
theorem dX4_layIntoLine_20 : decode cX4_layIntoLine 20 = .ok (.iastore, 1) := by decide +kernel
theorem dX4_layIntoLine_21 : decode cX4_layIntoLine 21 = .ok (.aload_n 0, 1) := by decide +kernel
theorem dX4_layIntoLine_22 : decode cX4_layIntoLine 22 = .ok (.getfield 28, 3) := by decide +kernel
theorem dX4_layIntoLine_25 : decode cX4_layIntoLine 25 = .ok (.iload_n 1, 1) := by decide +kernel
theorem dX4_layIntoLine_26 : decode cX4_layIntoLine 26 = .ok (.iload_n 2, 1) := by decide +kernel
theorem dX4_layIntoLine_27 : decode cX4_layIntoLine 27 = .ok (.iastore, 1) := by decide +kernel
theorem dX4_layIntoLine_28 : decode cX4_layIntoLine 28 = .ok (.aload_n 0, 1) := by decide +kernel
theorem dX4_layIntoLine_29 : decode cX4_layIntoLine 29 = .ok (.getfield 31, 3) := by decide +kernel
theorem dX4_layIntoLine_32 : decode cX4_layIntoLine 32 = .ok (.iload_n 1, 1) := by decide +kernel
theorem dX4_layIntoLine_33 : decode cX4_layIntoLine 33 = .ok (.aload_n 0, 1) := by decide +kernel
theorem dX4_layIntoLine_34 : decode cX4_layIntoLine 34 = .ok (.getfield 18, 3) := by decide +kernel
theorem dX4_layIntoLine_37 : decode cX4_layIntoLine 37 = .ok (.iload_n 2, 1) := by decide +kernel
theorem dX4_layIntoLine_38 : decode cX4_layIntoLine 38 = .ok (.iaload, 1) := by decide +kernel
theorem dX4_layIntoLine_39 : decode cX4_layIntoLine 39 = .ok (.iastore, 1) := by decide +kernel
theorem dX4_layIntoLine_40 : decode cX4_layIntoLine 40 = .ok (.return_, 1) := by decide +kernel
set_option maxRecDepth 20000 in
theorem ggX4_flushLine_X6_isLine : GoodIn wsX4_flushLine wsX6_isLine := goodIn_r _ [7] (by decide +kernel) (by decide +kernel)
set_option maxRecDepth 20000 in
theorem gX4_flushLine_X6_isLine_n80 : GoodIn wsX4_flushLine (wsX6_isLine) := ggX4_flushLine_X6_isLine
set_option maxRecDepth 20000 in
theorem ggX4_flushLine_X4_layOnDisk : GoodIn wsX4_flushLine wsX4_layOnDisk := goodIn_r _ [12, 13, 14, 15, 16, 6, 17, 18, 19, 20, 21, 22, 23, 24, 25, 26, 27, 28, 29, 30, 31, 32, 33, 34] (by decide +kernel) (by decide +kernel)
set_option maxRecDepth 20000 in
theorem gX4_flushLine_X4_layOnDisk : GoodIn wsX4_flushLine (wsV RX4 91 RX4 yX4_layOnDisk wsX4_layOnDisk) := goodIn_app (goodIn_of _ (by decide +kernel)) ggX4_flushLine_X4_layOnDisk
theorem dX4_flushLine_0 : decode cX4_flushLine 0 = .ok (.iload_n 1, 1) := by decide +kernel
theorem dX4_flushLine_1 : decode cX4_flushLine 1 = .ok (.invokestatic 80, 3) := by decide +kernel
theorem dX4_flushLine_4 : decode cX4_flushLine 4 = .ok (.ifCond .eq 46, 3) := by decide +kernel
theorem dX4_flushLine_7 : decode cX4_flushLine 7 = .ok (.aload_n 0, 1) := by decide +kernel
theorem dX4_flushLine_8 : decode cX4_flushLine 8 = .ok (.getfield 25, 3) := by decide +kernel
theorem dX4_flushLine_11 : decode cX4_flushLine 11 = .ok (.iload_n 1, 1) := by decide +kernel
theorem dX4_flushLine_12 : decode cX4_flushLine 12 = .ok (.iaload, 1) := by decide +kernel
theorem dX4_flushLine_13 : decode cX4_flushLine 13 = .ok (.iconst 2, 1) := by decide +kernel
theorem dX4_flushLine_14 : decode cX4_flushLine 14 = .ok (.if_icmp .ne 36, 3) := by decide +kernel
theorem dX4_flushLine_17 : decode cX4_flushLine 17 = .ok (.aload_n 0, 1) := by decide +kernel
theorem dX4_flushLine_18 : decode cX4_flushLine 18 = .ok (.getfield 25, 3) := by decide +kernel
theorem dX4_flushLine_21 : decode cX4_flushLine 21 = .ok (.iload_n 1, 1) := by decide +kernel
theorem dX4_flushLine_22 : decode cX4_flushLine 22 = .ok (.iconst 1, 1) := by decide +kernel
theorem dX4_flushLine_23 : decode cX4_flushLine 23 = .ok (.iastore, 1) := by decide +kernel
theorem dX4_flushLine_24 : decode cX4_flushLine 24 = .ok (.aload_n 0, 1) := by decide +kernel
theorem dX4_flushLine_25 : decode cX4_flushLine 25 = .ok (.aload_n 0, 1) := by decide +kernel
theorem dX4_flushLine_26 : decode cX4_flushLine 26 = .ok (.getfield 28, 3) := by decide +kernel
theorem dX4_flushLine_29 : decode cX4_flushLine 29 = .ok (.iload_n 1, 1) := by decide +kernel
theorem dX4_flushLine_30 : decode cX4_flushLine 30 = .ok (.iaload, 1) := by decide +kernel
theorem dX4_flushLine_31 : decode cX4_flushLine 31 = .ok (.aload_n 0, 1) := by decide +kernel
theorem dX4_flushLine_32 : decode cX4_flushLine 32 = .ok (.getfield 31, 3) := by decide +kernel
theorem dX4_flushLine_35 : decode cX4_flushLine 35 = .ok (.iload_n 1, 1) := by decide +kernel
theorem dX4_flushLine_36 : decode cX4_flushLine 36 = .ok (.iaload, 1) := by decide +kernel
theorem dX4_flushLine_37 : decode cX4_flushLine 37 = .ok (.invokevirtual 91, 3) := by decide +kernel
theorem dX4_flushLine_40 : decode cX4_flushLine 40 = .ok (.aload_n 0, 1) := by decide +kernel
theorem dX4_flushLine_41 : decode cX4_flushLine 41 = .ok (.dup, 1) := by decide +kernel
theorem dX4_flushLine_42 : decode cX4_flushLine 42 = .ok (.getfield 50, 3) := by decide +kernel
theorem dX4_flushLine_45 : decode cX4_flushLine 45 = .ok (.iconst 1, 1) := by decide +kernel
theorem dX4_flushLine_46 : decode cX4_flushLine 46 = .ok (.iadd, 1) := by decide +kernel
theorem dX4_flushLine_47 : decode cX4_flushLine 47 = .ok (.putfield 50, 3) := by decide +kernel
theorem dX4_flushLine_50 : decode cX4_flushLine 50 = .ok (.return_, 1) := by decide +kernel
set_option maxRecDepth 20000 in
theorem ggX4_layOnDisk_X6_isPlace : GoodIn wsX4_layOnDisk wsX6_isPlace := goodIn_r _ [6] (by decide +kernel) (by decide +kernel)
set_option maxRecDepth 20000 in
theorem gX4_layOnDisk_X6_isPlace_n114 : GoodIn wsX4_layOnDisk (wsX6_isPlace) := ggX4_layOnDisk_X6_isPlace
theorem dX4_layOnDisk_0 : decode cX4_layOnDisk 0 = .ok (.iload_n 1, 1) := by decide +kernel
theorem dX4_layOnDisk_1 : decode cX4_layOnDisk 1 = .ok (.invokestatic 114, 3) := by decide +kernel
theorem dX4_layOnDisk_4 : decode cX4_layOnDisk 4 = .ok (.ifCond .eq 30, 3) := by decide +kernel
theorem dX4_layOnDisk_7 : decode cX4_layOnDisk 7 = .ok (.aload_n 0, 1) := by decide +kernel
theorem dX4_layOnDisk_8 : decode cX4_layOnDisk 8 = .ok (.getfield 18, 3) := by decide +kernel
theorem dX4_layOnDisk_11 : decode cX4_layOnDisk 11 = .ok (.iload_n 1, 1) := by decide +kernel
theorem dX4_layOnDisk_12 : decode cX4_layOnDisk 12 = .ok (.iload_n 2, 1) := by decide +kernel
theorem dX4_layOnDisk_13 : decode cX4_layOnDisk 13 = .ok (.iastore, 1) := by decide +kernel
theorem dX4_layOnDisk_14 : decode cX4_layOnDisk 14 = .ok (.aload_n 0, 1) := by decide +kernel
theorem dX4_layOnDisk_15 : decode cX4_layOnDisk 15 = .ok (.getfield 22, 3) := by decide +kernel
theorem dX4_layOnDisk_18 : decode cX4_layOnDisk 18 = .ok (.iload_n 1, 1) := by decide +kernel
theorem dX4_layOnDisk_19 : decode cX4_layOnDisk 19 = .ok (.dup2, 1) := by decide +kernel
theorem dX4_layOnDisk_20 : decode cX4_layOnDisk 20 = .ok (.iaload, 1) := by decide +kernel
theorem dX4_layOnDisk_21 : decode cX4_layOnDisk 21 = .ok (.iconst 1, 1) := by decide +kernel
theorem dX4_layOnDisk_22 : decode cX4_layOnDisk 22 = .ok (.iadd, 1) := by decide +kernel
theorem dX4_layOnDisk_23 : decode cX4_layOnDisk 23 = .ok (.iastore, 1) := by decide +kernel
theorem dX4_layOnDisk_24 : decode cX4_layOnDisk 24 = .ok (.aload_n 0, 1) := by decide +kernel
theorem dX4_layOnDisk_25 : decode cX4_layOnDisk 25 = .ok (.dup, 1) := by decide +kernel
theorem dX4_layOnDisk_26 : decode cX4_layOnDisk 26 = .ok (.getfield 65, 3) := by decide +kernel
theorem dX4_layOnDisk_29 : decode cX4_layOnDisk 29 = .ok (.iconst 1, 1) := by decide +kernel
theorem dX4_layOnDisk_30 : decode cX4_layOnDisk 30 = .ok (.iadd, 1) := by decide +kernel
theorem dX4_layOnDisk_31 : decode cX4_layOnDisk 31 = .ok (.putfield 65, 3) := by decide +kernel
theorem dX4_layOnDisk_34 : decode cX4_layOnDisk 34 = .ok (.return_, 1) := by decide +kernel
set_option maxRecDepth 20000 in
theorem ggX4_passTicks_X0_passTick : GoodIn wsX4_passTicks wsX0_passTick := goodIn_r _ [9, 10, 11, 12, 13, 14, 15, 16, 17, 18, 19, 8, 20, 21, 22, 23, 24, 25, 26, 27, 28, 29, 30, 31, 32, 33, 110, 111, 112, 113, 114, 115, 116] (by decide +kernel) (by decide +kernel)
set_option maxRecDepth 20000 in
theorem gX4_passTicks_X0_passTick : GoodIn wsX4_passTicks (wsV RX4 117 RX0 yX0_passTick wsX0_passTick) := goodIn_app (goodIn_of _ (by decide +kernel)) ggX4_passTicks_X0_passTick
set_option maxRecDepth 20000 in
theorem ggX4_passTicks_X4_tooMany : GoodIn wsX4_passTicks wsX4_tooMany := goodIn_r _ [38, 3, 39, 28, 15, 29, 40, 41, 42, 37, 43, 44, 45, 46, 47, 48, 49, 50, 51, 52, 53, 54, 55, 56, 57, 58, 8, 59, 10, 60, 61, 62, 63, 11, 64, 65, 13, 14, 16, 93, 94, 95, 96, 97, 98, 99, 100, 101, 102, 103, 104, 105, 106, 107, 108, 109, 110, 111, 112, 113, 114, 115, 116] (by decide +kernel) (by decide +kernel)
set_option maxRecDepth 20000 in
theorem gX4_passTicks_X4_tooMany : GoodIn wsX4_passTicks (wsV RX4 121 RX4 yX4_tooMany wsX4_tooMany) := goodIn_app (goodIn_of _ (by decide +kernel)) ggX4_passTicks_X4_tooMany
set_option maxRecDepth 20000 in
theorem ggX4_passTicks_X4_flushLowest : GoodIn wsX4_passTicks wsX4_flushLowest := goodIn_r _ [69, 70, 71, 72, 37, 73, 48, 74, 75, 76, 77, 78, 79, 80, 1, 81, 82, 83, 84, 85, 86, 87, 88, 89, 90, 91, 92, 93, 94, 95, 96, 97, 98, 99, 100, 101, 102, 103, 104, 105, 106, 107, 108, 109] (by decide +kernel) (by decide +kernel)
set_option maxRecDepth 20000 in
theorem gX4_passTicks_X4_flushLowest : GoodIn wsX4_passTicks (wsV RX4 124 RX4 yX4_flushLowest wsX4_flushLowest) := goodIn_app (goodIn_of _ (by decide +kernel)) ggX4_passTicks_X4_flushLowest
theorem dX4_passTicks_0 : decode cX4_passTicks 0 = .ok (.aload_n 0, 1) := by decide +kernel
theorem dX4_passTicks_1 : decode cX4_passTicks 1 = .ok (.getfield 50, 3) := by decide +kernel
theorem dX4_passTicks_4 : decode cX4_passTicks 4 = .ok (.istore_n 2, 1) := by decide +kernel
theorem dX4_passTicks_5 : decode cX4_passTicks 5 = .ok (.iconst 0, 1) := by decide +kernel
theorem dX4_passTicks_6 : decode cX4_passTicks 6 = .ok (.istore_n 3, 1) := by decide +kernel
theorem dX4_passTicks_7 : decode cX4_passTicks 7 = .ok (.iload_n 3, 1) := by decide +kernel
theorem dX4_passTicks_8 : decode cX4_passTicks 8 = .ok (.iload_n 1, 1) := by decide +kernel
theorem dX4_passTicks_9 : decode cX4_passTicks 9 = .ok (.if_icmp .ge 48, 3) := by decide +kernel
theorem dX4_passTicks_12 : decode cX4_passTicks 12 = .ok (.aload_n 0, 1) := by decide +kernel
theorem dX4_passTicks_13 : decode cX4_passTicks 13 = .ok (.dup, 1) := by decide +kernel
theorem dX4_passTicks_14 : decode cX4_passTicks 14 = .ok (.getfield 41, 3) := by decide +kernel
theorem dX4_passTicks_17 : decode cX4_passTicks 17 = .ok (.iconst 1, 1) := by decide +kernel
theorem dX4_passTicks_18 : decode cX4_passTicks 18 = .ok (.iadd, 1) := by decide +kernel
theorem dX4_passTicks_19 : decode cX4_passTicks 19 = .ok (.putfield 41, 3) := by decide +kernel
theorem dX4_passTicks_22 : decode cX4_passTicks 22 = .ok (.aload_n 0, 1) := by decide +kernel
theorem dX4_passTicks_23 : decode cX4_passTicks 23 = .ok (.getfield 12, 3) := by decide +kernel
theorem dX4_passTicks_26 : decode cX4_passTicks 26 = .ok (.invokevirtual 117, 3) := by decide +kernel
theorem dX4_passTicks_29 : decode cX4_passTicks 29 = .ok (.ifCond .eq 13, 3) := by decide +kernel
theorem dX4_passTicks_32 : decode cX4_passTicks 32 = .ok (.aload_n 0, 1) := by decide +kernel
theorem dX4_passTicks_33 : decode cX4_passTicks 33 = .ok (.dup, 1) := by decide +kernel
theorem dX4_passTicks_34 : decode cX4_passTicks 34 = .ok (.getfield 62, 3) := by decide +kernel
theorem dX4_passTicks_37 : decode cX4_passTicks 37 = .ok (.iconst 1, 1) := by decide +kernel
theorem dX4_passTicks_38 : decode cX4_passTicks 38 = .ok (.iadd, 1) := by decide +kernel
theorem dX4_passTicks_39 : decode cX4_passTicks 39 = .ok (.putfield 62, 3) := by decide +kernel
theorem dX4_passTicks_42 : decode cX4_passTicks 42 = .ok (.aload_n 0, 1) := by decide +kernel
theorem dX4_passTicks_43 : decode cX4_passTicks 43 = .ok (.aload_n 0, 1) := by decide +kernel
theorem dX4_passTicks_44 : decode cX4_passTicks 44 = .ok (.invokevirtual 121, 3) := by decide +kernel
theorem dX4_passTicks_47 : decode cX4_passTicks 47 = .ok (.invokevirtual 124, 3) := by decide +kernel
theorem dX4_passTicks_50 : decode cX4_passTicks 50 = .ok (.pop, 1) := by decide +kernel
theorem dX4_passTicks_51 : decode cX4_passTicks 51 = .ok (.iinc 3 1, 3) := by decide +kernel
theorem dX4_passTicks_54 : decode cX4_passTicks 54 = .ok (.goto (-47), 3) := by decide +kernel
theorem dX4_passTicks_57 : decode cX4_passTicks 57 = .ok (.aload_n 0, 1) := by decide +kernel
theorem dX4_passTicks_58 : decode cX4_passTicks 58 = .ok (.getfield 50, 3) := by decide +kernel
theorem dX4_passTicks_61 : decode cX4_passTicks 61 = .ok (.iload_n 2, 1) := by decide +kernel
theorem dX4_passTicks_62 : decode cX4_passTicks 62 = .ok (.isub, 1) := by decide +kernel
theorem dX4_passTicks_63 : decode cX4_passTicks 63 = .ok (.ireturn, 1) := by decide +kernel
set_option maxRecDepth 20000 in
theorem ggX4_putLoad_X0_useUp : GoodIn wsX4_putLoad wsX0_useUp := goodIn_r _ [6, 7, 8, 9, 10, 11, 93, 94, 95, 96, 97, 98, 99] (by decide +kernel) (by decide +kernel)
set_option maxRecDepth 20000 in
theorem gX4_putLoad_X0_useUp : GoodIn wsX4_putLoad (wsV RX4 127 RX0 yX0_useUp wsX0_useUp) := goodIn_app (goodIn_of _ (by decide +kernel)) ggX4_putLoad_X0_useUp
set_option maxRecDepth 20000 in
theorem ggX4_putLoad_X4_tooMany : GoodIn wsX4_putLoad wsX4_tooMany := goodIn_r _ [16, 1, 17, 9, 10, 11, 18, 19, 20, 15, 21, 22, 23, 24, 25, 26, 27, 28, 29, 30, 31, 32, 33, 34, 35, 36, 5, 37, 38, 39, 40, 41, 42, 7, 43, 44, 45, 46, 47, 76, 77, 78, 79, 80, 81, 82, 83, 84, 85, 86, 87, 88, 89, 90, 91, 92, 93, 94, 95, 96, 97, 98, 99] (by decide +kernel) (by decide +kernel)
set_option maxRecDepth 20000 in
theorem gX4_putLoad_X4_tooMany : GoodIn wsX4_putLoad (wsV RX4 121 RX4 yX4_tooMany wsX4_tooMany) := goodIn_app (goodIn_of _ (by decide +kernel)) ggX4_putLoad_X4_tooMany
set_option maxRecDepth 20000 in
theorem ggX4_putLoad_X4_flushLowest : GoodIn wsX4_putLoad wsX4_flushLowest := goodIn_r _ [51, 52, 53, 54, 15, 55, 26, 56, 57, 58, 59, 60, 61, 62, 63, 64, 65, 66, 67, 68, 69, 70, 71, 72, 73, 74, 75, 76, 77, 78, 79, 80, 81, 82, 83, 84, 85, 86, 87, 88, 89, 90, 91, 92] (by decide +kernel) (by decide +kernel)
set_option maxRecDepth 20000 in
theorem gX4_putLoad_X4_flushLowest : GoodIn wsX4_putLoad (wsV RX4 124 RX4 yX4_flushLowest wsX4_flushLowest) := goodIn_app (goodIn_of _ (by decide +kernel)) ggX4_putLoad_X4_flushLowest
theorem dX4_putLoad_0 : decode cX4_putLoad 0 = .ok (.aload_n 0, 1) := by decide +kernel
theorem dX4_putLoad_1 : decode cX4_putLoad 1 = .ok (.getfield 12, 3) := by decide +kernel
theorem dX4_putLoad_4 : decode cX4_putLoad 4 = .ok (.iload_n 1, 1) := by decide +kernel
theorem dX4_putLoad_5 : decode cX4_putLoad 5 = .ok (.invokevirtual 127, 3) := by decide +kernel
theorem dX4_putLoad_8 : decode cX4_putLoad 8 = .ok (.aload_n 0, 1) := by decide +kernel
theorem dX4_putLoad_9 : decode cX4_putLoad 9 = .ok (.aload_n 0, 1) := by decide +kernel
theorem dX4_putLoad_10 : decode cX4_putLoad 10 = .ok (.invokevirtual 121, 3) := by decide +kernel
theorem dX4_putLoad_13 : decode cX4_putLoad 13 = .ok (.invokevirtual 124, 3) := by decide +kernel
theorem dX4_putLoad_16 : decode cX4_putLoad 16 = .ok (.ireturn, 1) := by decide +kernel
set_option maxRecDepth 20000 in
theorem ggX4_beginCycle_X4_tooMany : GoodIn wsX4_beginCycle wsX4_tooMany := goodIn_r _ [7, 1, 8, 9, 10, 11, 12, 13, 14, 6, 15, 16, 17, 18, 19, 20, 21, 22, 23, 24, 25, 26, 27, 28, 29, 30, 31, 32, 33, 34, 35, 36, 37, 38, 39, 40, 41, 42, 43, 72, 73, 74, 75, 76, 77, 78, 79, 80, 81, 82, 83, 84, 85, 86, 87, 88, 89, 90, 91, 92, 93, 94, 95] (by decide +kernel) (by decide +kernel)
set_option maxRecDepth 20000 in
theorem gX4_beginCycle_X4_tooMany : GoodIn wsX4_beginCycle (wsV RX4 121 RX4 yX4_tooMany wsX4_tooMany) := goodIn_app (goodIn_of _ (by decide +kernel)) ggX4_beginCycle_X4_tooMany
set_option maxRecDepth 20000 in
theorem ggX4_beginCycle_X4_flushLowest : GoodIn wsX4_beginCycle wsX4_flushLowest := goodIn_r _ [47, 48, 49, 50, 6, 51, 20, 52, 53, 54, 55, 56, 57, 58, 59, 60, 61, 62, 63, 64, 65, 66, 67, 68, 69, 70, 71, 72, 73, 74, 75, 76, 77, 78, 79, 80, 81, 82, 83, 84, 85, 86, 87, 88] (by decide +kernel) (by decide +kernel)
set_option maxRecDepth 20000 in
theorem gX4_beginCycle_X4_flushLowest : GoodIn wsX4_beginCycle (wsV RX4 124 RX4 yX4_flushLowest wsX4_flushLowest) := goodIn_app (goodIn_of _ (by decide +kernel)) ggX4_beginCycle_X4_flushLowest
theorem dX4_beginCycle_0 : decode cX4_beginCycle 0 = .ok (.aload_n 0, 1) := by decide +kernel
theorem dX4_beginCycle_1 : decode cX4_beginCycle 1 = .ok (.getfield 12, 3) := by decide +kernel
theorem dX4_beginCycle_4 : decode cX4_beginCycle 4 = .ok (.iconst 1, 1) := by decide +kernel
theorem dX4_beginCycle_5 : decode cX4_beginCycle 5 = .ok (.putfield 130, 3) := by decide +kernel
theorem dX4_beginCycle_8 : decode cX4_beginCycle 8 = .ok (.aload_n 0, 1) := by decide +kernel
theorem dX4_beginCycle_9 : decode cX4_beginCycle 9 = .ok (.aload_n 0, 1) := by decide +kernel
theorem dX4_beginCycle_10 : decode cX4_beginCycle 10 = .ok (.invokevirtual 121, 3) := by decide +kernel
theorem dX4_beginCycle_13 : decode cX4_beginCycle 13 = .ok (.invokevirtual 124, 3) := by decide +kernel
theorem dX4_beginCycle_16 : decode cX4_beginCycle 16 = .ok (.ireturn, 1) := by decide +kernel
set_option maxRecDepth 20000 in
theorem ggX4_cutPower_X4_savedByCut : GoodIn wsX4_cutPower wsX4_savedByCut := goodIn_r _ [9, 1, 10, 11, 12, 13, 14, 15, 16, 8, 17, 18, 19, 20, 21, 2, 22, 23, 24, 25, 26, 27, 28, 29, 30, 31, 32, 33, 34, 35, 36, 37, 82, 83, 84, 85, 86, 87, 88, 89, 90, 91, 92, 93, 94, 95, 96, 97, 98, 99, 100, 101, 102, 103, 104, 105] (by decide +kernel) (by decide +kernel)
set_option maxRecDepth 20000 in
theorem gX4_cutPower_X4_savedByCut : GoodIn wsX4_cutPower (wsV RX4 133 RX4 yX4_savedByCut wsX4_savedByCut) := goodIn_app (goodIn_of _ (by decide +kernel)) ggX4_cutPower_X4_savedByCut
set_option maxRecDepth 20000 in
theorem ggX4_cutPower_X4_flushLowest : GoodIn wsX4_cutPower wsX4_flushLowest := goodIn_r _ [41, 42, 43, 44, 8, 45, 2, 46, 47, 48, 49, 50, 51, 52, 53, 54, 55, 56, 57, 58, 59, 60, 61, 62, 63, 64, 65, 82, 83, 84, 85, 86, 87, 88, 89, 90, 91, 92, 93, 94, 95, 96, 97, 98] (by decide +kernel) (by decide +kernel)
set_option maxRecDepth 20000 in
theorem gX4_cutPower_X4_flushLowest : GoodIn wsX4_cutPower (wsV RX4 124 RX4 yX4_flushLowest wsX4_flushLowest) := goodIn_app (goodIn_of _ (by decide +kernel)) ggX4_cutPower_X4_flushLowest
set_option maxRecDepth 20000 in
theorem ggX4_cutPower_X0_saveAtCut : GoodIn wsX4_cutPower wsX0_saveAtCut := goodIn_r _ [69, 70, 71, 72, 73, 32, 74, 35, 36, 75, 76, 77, 78, 34, 79, 80, 12, 81, 99, 100, 101, 102, 103, 104, 105] (by decide +kernel) (by decide +kernel)
set_option maxRecDepth 20000 in
theorem gX4_cutPower_X0_saveAtCut : GoodIn wsX4_cutPower (wsV RX4 136 RX0 yX0_saveAtCut wsX0_saveAtCut) := goodIn_app (goodIn_of _ (by decide +kernel)) ggX4_cutPower_X0_saveAtCut
set_option maxRecDepth 20000 in
theorem ggX4_cutPower_X4_numberOf : GoodIn wsX4_cutPower wsX4_numberOf := goodIn_r _ [17, 18, 19, 20, 8, 21, 2, 22, 23, 24, 25, 26, 27, 28, 82, 83, 84, 85, 86, 87, 88, 89, 90, 91, 92, 93, 94, 95, 96, 97, 98] (by decide +kernel) (by decide +kernel)
set_option maxRecDepth 20000 in
theorem gX4_cutPower_X4_numberOf : GoodIn wsX4_cutPower (wsV RX4 84 RX4 yX4_numberOf wsX4_numberOf) := goodIn_app (goodIn_of _ (by decide +kernel)) ggX4_cutPower_X4_numberOf
theorem dX4_cutPower_0 : decode cX4_cutPower 0 = .ok (.aload_n 0, 1) := by decide +kernel
theorem dX4_cutPower_1 : decode cX4_cutPower 1 = .ok (.invokevirtual 133, 3) := by decide +kernel
theorem dX4_cutPower_4 : decode cX4_cutPower 4 = .ok (.istore_n 1, 1) := by decide +kernel
theorem dX4_cutPower_5 : decode cX4_cutPower 5 = .ok (.aload_n 0, 1) := by decide +kernel
theorem dX4_cutPower_6 : decode cX4_cutPower 6 = .ok (.iload_n 1, 1) := by decide +kernel
theorem dX4_cutPower_7 : decode cX4_cutPower 7 = .ok (.invokevirtual 124, 3) := by decide +kernel
theorem dX4_cutPower_10 : decode cX4_cutPower 10 = .ok (.pop, 1) := by decide +kernel
theorem dX4_cutPower_11 : decode cX4_cutPower 11 = .ok (.aload_n 0, 1) := by decide +kernel
theorem dX4_cutPower_12 : decode cX4_cutPower 12 = .ok (.getfield 12, 3) := by decide +kernel
theorem dX4_cutPower_15 : decode cX4_cutPower 15 = .ok (.iload_n 1, 1) := by decide +kernel
theorem dX4_cutPower_16 : decode cX4_cutPower 16 = .ok (.invokevirtual 136, 3) := by decide +kernel
theorem dX4_cutPower_19 : decode cX4_cutPower 19 = .ok (.aload_n 0, 1) := by decide +kernel
theorem dX4_cutPower_20 : decode cX4_cutPower 20 = .ok (.iconst 2, 1) := by decide +kernel
theorem dX4_cutPower_21 : decode cX4_cutPower 21 = .ok (.invokevirtual 84, 3) := by decide +kernel
theorem dX4_cutPower_24 : decode cX4_cutPower 24 = .ok (.istore_n 2, 1) := by decide +kernel
theorem dX4_cutPower_25 : decode cX4_cutPower 25 = .ok (.iconst 0, 1) := by decide +kernel
theorem dX4_cutPower_26 : decode cX4_cutPower 26 = .ok (.istore_n 3, 1) := by decide +kernel
theorem dX4_cutPower_27 : decode cX4_cutPower 27 = .ok (.iload_n 3, 1) := by decide +kernel
theorem dX4_cutPower_28 : decode cX4_cutPower 28 = .ok (.bipush 8, 2) := by decide +kernel
theorem dX4_cutPower_30 : decode cX4_cutPower 30 = .ok (.if_icmp .ge 16, 3) := by decide +kernel
theorem dX4_cutPower_33 : decode cX4_cutPower 33 = .ok (.aload_n 0, 1) := by decide +kernel
theorem dX4_cutPower_34 : decode cX4_cutPower 34 = .ok (.getfield 25, 3) := by decide +kernel
theorem dX4_cutPower_37 : decode cX4_cutPower 37 = .ok (.iload_n 3, 1) := by decide +kernel
theorem dX4_cutPower_38 : decode cX4_cutPower 38 = .ok (.iconst 0, 1) := by decide +kernel
theorem dX4_cutPower_39 : decode cX4_cutPower 39 = .ok (.iastore, 1) := by decide +kernel
theorem dX4_cutPower_40 : decode cX4_cutPower 40 = .ok (.iinc 3 1, 3) := by decide +kernel
theorem dX4_cutPower_43 : decode cX4_cutPower 43 = .ok (.goto (-16), 3) := by decide +kernel
theorem dX4_cutPower_46 : decode cX4_cutPower 46 = .ok (.aload_n 0, 1) := by decide +kernel
theorem dX4_cutPower_47 : decode cX4_cutPower 47 = .ok (.dup, 1) := by decide +kernel
theorem dX4_cutPower_48 : decode cX4_cutPower 48 = .ok (.getfield 56, 3) := by decide +kernel
theorem dX4_cutPower_51 : decode cX4_cutPower 51 = .ok (.iload_n 2, 1) := by decide +kernel
theorem dX4_cutPower_52 : decode cX4_cutPower 52 = .ok (.iadd, 1) := by decide +kernel
theorem dX4_cutPower_53 : decode cX4_cutPower 53 = .ok (.putfield 56, 3) := by decide +kernel
theorem dX4_cutPower_56 : decode cX4_cutPower 56 = .ok (.aload_n 0, 1) := by decide +kernel
theorem dX4_cutPower_57 : decode cX4_cutPower 57 = .ok (.dup, 1) := by decide +kernel
theorem dX4_cutPower_58 : decode cX4_cutPower 58 = .ok (.getfield 59, 3) := by decide +kernel
theorem dX4_cutPower_61 : decode cX4_cutPower 61 = .ok (.iconst 1, 1) := by decide +kernel
theorem dX4_cutPower_62 : decode cX4_cutPower 62 = .ok (.iadd, 1) := by decide +kernel
theorem dX4_cutPower_63 : decode cX4_cutPower 63 = .ok (.putfield 59, 3) := by decide +kernel
theorem dX4_cutPower_66 : decode cX4_cutPower 66 = .ok (.iload_n 2, 1) := by decide +kernel
theorem dX4_cutPower_67 : decode cX4_cutPower 67 = .ok (.ireturn, 1) := by decide +kernel
set_option maxRecDepth 20000 in
theorem ggX4_tooMany_X4_numberOf : GoodIn wsX4_tooMany wsX4_numberOf := goodIn_r _ [10, 11, 12, 13, 9, 14, 15, 16, 17, 18, 19, 20, 21, 22, 39, 40, 41, 42, 43, 44, 45, 46, 47, 48, 49, 50, 51, 52, 53, 54, 55] (by decide +kernel) (by decide +kernel)
set_option maxRecDepth 20000 in
theorem gX4_tooMany_X4_numberOf : GoodIn wsX4_tooMany (wsV RX4 84 RX4 yX4_numberOf wsX4_numberOf) := goodIn_app (goodIn_of _ (by decide +kernel)) ggX4_tooMany_X4_numberOf
set_option maxRecDepth 20000 in
theorem ggX4_tooMany_X0_allowance : GoodIn wsX4_tooMany wsX0_allowance := goodIn_r _ [27, 28, 29, 30, 31, 26, 32, 33, 34, 35, 36, 37, 4, 38, 56, 57, 58, 59, 60, 61, 62] (by decide +kernel) (by decide +kernel)
set_option maxRecDepth 20000 in
theorem gX4_tooMany_X0_allowance : GoodIn wsX4_tooMany (wsV RX4 87 RX0 yX0_allowance wsX0_allowance) := goodIn_app (goodIn_of _ (by decide +kernel)) ggX4_tooMany_X0_allowance
theorem dX4_tooMany_0 : decode cX4_tooMany 0 = .ok (.aload_n 0, 1) := by decide +kernel
theorem dX4_tooMany_1 : decode cX4_tooMany 1 = .ok (.iconst 2, 1) := by decide +kernel
theorem dX4_tooMany_2 : decode cX4_tooMany 2 = .ok (.invokevirtual 84, 3) := by decide +kernel
theorem dX4_tooMany_5 : decode cX4_tooMany 5 = .ok (.aload_n 0, 1) := by decide +kernel
theorem dX4_tooMany_6 : decode cX4_tooMany 6 = .ok (.getfield 12, 3) := by decide +kernel
theorem dX4_tooMany_9 : decode cX4_tooMany 9 = .ok (.invokevirtual 87, 3) := by decide +kernel
theorem dX4_tooMany_12 : decode cX4_tooMany 12 = .ok (.isub, 1) := by decide +kernel
theorem dX4_tooMany_13 : decode cX4_tooMany 13 = .ok (.iconst 0, 1) := by decide +kernel
theorem dX4_tooMany_14 : decode cX4_tooMany 14 = .ok (.invokestatic 139, 3) := by decide +kernel
theorem dX4_tooMany_17 : decode cX4_tooMany 17 = .ok (.ireturn, 1) := by decide +kernel
set_option maxRecDepth 20000 in
theorem ggX4_flushLowest_X4_lowestTurn : GoodIn wsX4_flushLowest wsX4_lowestTurn := goodIn_r _ [5, 6, 7, 27, 28, 29, 30, 31, 32, 33, 34, 35, 36, 37, 38, 39, 40, 41, 42, 43] (by decide +kernel) (by decide +kernel)
set_option maxRecDepth 20000 in
theorem gX4_flushLowest_X4_lowestTurn : GoodIn wsX4_flushLowest (wsV RX4 111 RX4 yX4_lowestTurn wsX4_lowestTurn) := goodIn_app (goodIn_of _ (by decide +kernel)) ggX4_flushLowest_X4_lowestTurn
set_option maxRecDepth 20000 in
theorem ggX4_flushLowest_X4_flushLine : GoodIn wsX4_flushLowest wsX4_flushLine := goodIn_r _ [11, 6, 12, 13, 14, 15, 16, 17, 18, 19, 20, 4, 21, 22, 23, 24, 25, 26, 27, 28, 29, 30, 31, 32, 33, 34, 35, 36, 37, 38, 39, 40, 41, 42, 43] (by decide +kernel) (by decide +kernel)
set_option maxRecDepth 20000 in
theorem gX4_flushLowest_X4_flushLine : GoodIn wsX4_flushLowest (wsV RX4 101 RX4 yX4_flushLine wsX4_flushLine) := goodIn_app (goodIn_of _ (by decide +kernel)) ggX4_flushLowest_X4_flushLine
theorem dX4_flushLowest_0 : decode cX4_flushLowest 0 = .ok (.iconst 0, 1) := by decide +kernel
theorem dX4_flushLowest_1 : decode cX4_flushLowest 1 = .ok (.istore_n 2, 1) := by decide +kernel
theorem dX4_flushLowest_2 : decode cX4_flushLowest 2 = .ok (.iload_n 2, 1) := by decide +kernel
theorem dX4_flushLowest_3 : decode cX4_flushLowest 3 = .ok (.iload_n 1, 1) := by decide +kernel
theorem dX4_flushLowest_4 : decode cX4_flushLowest 4 = .ok (.if_icmp .ge 18, 3) := by decide +kernel
theorem dX4_flushLowest_7 : decode cX4_flushLowest 7 = .ok (.aload_n 0, 1) := by decide +kernel
theorem dX4_flushLowest_8 : decode cX4_flushLowest 8 = .ok (.aload_n 0, 1) := by decide +kernel
theorem dX4_flushLowest_9 : decode cX4_flushLowest 9 = .ok (.iconst 2, 1) := by decide +kernel
theorem dX4_flushLowest_10 : decode cX4_flushLowest 10 = .ok (.invokevirtual 111, 3) := by decide +kernel
theorem dX4_flushLowest_13 : decode cX4_flushLowest 13 = .ok (.invokevirtual 101, 3) := by decide +kernel
theorem dX4_flushLowest_16 : decode cX4_flushLowest 16 = .ok (.iinc 2 1, 3) := by decide +kernel
theorem dX4_flushLowest_19 : decode cX4_flushLowest 19 = .ok (.goto (-17), 3) := by decide +kernel
theorem dX4_flushLowest_22 : decode cX4_flushLowest 22 = .ok (.iload_n 1, 1) := by decide +kernel
theorem dX4_flushLowest_23 : decode cX4_flushLowest 23 = .ok (.ireturn, 1) := by decide +kernel
set_option maxRecDepth 20000 in
theorem ggX4_savedByCut_X4_numberOf : GoodIn wsX4_savedByCut wsX4_numberOf := goodIn_r _ [10, 11, 12, 13, 9, 14, 15, 16, 17, 18, 19, 20, 21, 22, 32, 33, 34, 35, 36, 37, 38, 39, 40, 41, 42, 43, 44, 45, 46, 47, 48] (by decide +kernel) (by decide +kernel)
set_option maxRecDepth 20000 in
theorem gX4_savedByCut_X4_numberOf : GoodIn wsX4_savedByCut (wsV RX4 84 RX4 yX4_numberOf wsX4_numberOf) := goodIn_app (goodIn_of _ (by decide +kernel)) ggX4_savedByCut_X4_numberOf
set_option maxRecDepth 20000 in
theorem ggX4_savedByCut_X0_savable : GoodIn wsX4_savedByCut wsX0_savable := goodIn_r _ [27, 28, 29, 30, 31, 3, 4, 5, 49, 50, 51, 52, 53, 54, 55] (by decide +kernel) (by decide +kernel)
set_option maxRecDepth 20000 in
theorem gX4_savedByCut_X0_savable : GoodIn wsX4_savedByCut (wsV RX4 145 RX0 yX0_savable wsX0_savable) := goodIn_app (goodIn_of _ (by decide +kernel)) ggX4_savedByCut_X0_savable
theorem dX4_savedByCut_0 : decode cX4_savedByCut 0 = .ok (.aload_n 0, 1) := by decide +kernel
theorem dX4_savedByCut_1 : decode cX4_savedByCut 1 = .ok (.iconst 2, 1) := by decide +kernel
theorem dX4_savedByCut_2 : decode cX4_savedByCut 2 = .ok (.invokevirtual 84, 3) := by decide +kernel
theorem dX4_savedByCut_5 : decode cX4_savedByCut 5 = .ok (.aload_n 0, 1) := by decide +kernel
theorem dX4_savedByCut_6 : decode cX4_savedByCut 6 = .ok (.getfield 12, 3) := by decide +kernel
theorem dX4_savedByCut_9 : decode cX4_savedByCut 9 = .ok (.invokevirtual 145, 3) := by decide +kernel
theorem dX4_savedByCut_12 : decode cX4_savedByCut 12 = .ok (.invokestatic 148, 3) := by decide +kernel
theorem dX4_savedByCut_15 : decode cX4_savedByCut 15 = .ok (.ireturn, 1) := by decide +kernel
set_option maxRecDepth 20000 in
theorem ggX4_lostByCut_X4_savedByCut : GoodIn wsX4_lostByCut wsX4_savedByCut := goodIn_r _ [6, 7, 8, 9, 10, 11, 12, 13, 14, 5, 15, 16, 17, 18, 19, 1, 20, 21, 22, 23, 24, 25, 26, 27, 28, 29, 30, 31, 32, 33, 34, 35, 44, 45, 46, 47, 48, 49, 50, 51, 52, 53, 54, 55, 56, 57, 58, 59, 60, 61, 62, 63, 64, 65, 66, 67] (by decide +kernel) (by decide +kernel)
set_option maxRecDepth 20000 in
theorem gX4_lostByCut_X4_savedByCut : GoodIn wsX4_lostByCut (wsV RX4 133 RX4 yX4_savedByCut wsX4_savedByCut) := goodIn_app (goodIn_of _ (by decide +kernel)) ggX4_lostByCut_X4_savedByCut
set_option maxRecDepth 20000 in
theorem ggX4_lostByCut_X4_linesAhead : GoodIn wsX4_lostByCut wsX4_linesAhead := goodIn_r _ [39, 1, 40, 41, 42, 43, 44, 45, 46, 47, 48, 49, 50, 51, 52, 53, 54, 55, 56, 57, 58, 59, 60] (by decide +kernel) (by decide +kernel)
set_option maxRecDepth 20000 in
theorem gX4_lostByCut_X4_linesAhead : GoodIn wsX4_lostByCut (wsV RX4 151 RX4 yX4_linesAhead wsX4_linesAhead) := goodIn_app (goodIn_of _ (by decide +kernel)) ggX4_lostByCut_X4_linesAhead
theorem dX4_lostByCut_0 : decode cX4_lostByCut 0 = .ok (.aload_n 0, 1) := by decide +kernel
theorem dX4_lostByCut_1 : decode cX4_lostByCut 1 = .ok (.invokevirtual 133, 3) := by decide +kernel
theorem dX4_lostByCut_4 : decode cX4_lostByCut 4 = .ok (.istore_n 1, 1) := by decide +kernel
theorem dX4_lostByCut_5 : decode cX4_lostByCut 5 = .ok (.iconst 0, 1) := by decide +kernel
theorem dX4_lostByCut_6 : decode cX4_lostByCut 6 = .ok (.istore_n 2, 1) := by decide +kernel
theorem dX4_lostByCut_7 : decode cX4_lostByCut 7 = .ok (.iconst 0, 1) := by decide +kernel
theorem dX4_lostByCut_8 : decode cX4_lostByCut 8 = .ok (.istore_n 3, 1) := by decide +kernel
theorem dX4_lostByCut_9 : decode cX4_lostByCut 9 = .ok (.iload_n 3, 1) := by decide +kernel
theorem dX4_lostByCut_10 : decode cX4_lostByCut 10 = .ok (.bipush 8, 2) := by decide +kernel
theorem dX4_lostByCut_12 : decode cX4_lostByCut 12 = .ok (.if_icmp .ge 35, 3) := by decide +kernel
theorem dX4_lostByCut_15 : decode cX4_lostByCut 15 = .ok (.aload_n 0, 1) := by decide +kernel
theorem dX4_lostByCut_16 : decode cX4_lostByCut 16 = .ok (.getfield 25, 3) := by decide +kernel
theorem dX4_lostByCut_19 : decode cX4_lostByCut 19 = .ok (.iload_n 3, 1) := by decide +kernel
theorem dX4_lostByCut_20 : decode cX4_lostByCut 20 = .ok (.iaload, 1) := by decide +kernel
theorem dX4_lostByCut_21 : decode cX4_lostByCut 21 = .ok (.iconst 2, 1) := by decide +kernel
theorem dX4_lostByCut_22 : decode cX4_lostByCut 22 = .ok (.if_icmp .ne 19, 3) := by decide +kernel
theorem dX4_lostByCut_25 : decode cX4_lostByCut 25 = .ok (.aload_n 0, 1) := by decide +kernel
theorem dX4_lostByCut_26 : decode cX4_lostByCut 26 = .ok (.iload_n 3, 1) := by decide +kernel
theorem dX4_lostByCut_27 : decode cX4_lostByCut 27 = .ok (.iconst 2, 1) := by decide +kernel
theorem dX4_lostByCut_28 : decode cX4_lostByCut 28 = .ok (.invokevirtual 151, 3) := by decide +kernel
theorem dX4_lostByCut_31 : decode cX4_lostByCut 31 = .ok (.iload_n 1, 1) := by decide +kernel
theorem dX4_lostByCut_32 : decode cX4_lostByCut 32 = .ok (.if_icmp .lt 9, 3) := by decide +kernel
theorem dX4_lostByCut_35 : decode cX4_lostByCut 35 = .ok (.iload_n 2, 1) := by decide +kernel
theorem dX4_lostByCut_36 : decode cX4_lostByCut 36 = .ok (.iconst 1, 1) := by decide +kernel
theorem dX4_lostByCut_37 : decode cX4_lostByCut 37 = .ok (.iload_n 3, 1) := by decide +kernel
theorem dX4_lostByCut_38 : decode cX4_lostByCut 38 = .ok (.ishl, 1) := by decide +kernel
theorem dX4_lostByCut_39 : decode cX4_lostByCut 39 = .ok (.ior, 1) := by decide +kernel
theorem dX4_lostByCut_40 : decode cX4_lostByCut 40 = .ok (.istore_n 2, 1) := by decide +kernel
theorem dX4_lostByCut_41 : decode cX4_lostByCut 41 = .ok (.iinc 3 1, 3) := by decide +kernel
theorem dX4_lostByCut_44 : decode cX4_lostByCut 44 = .ok (.goto (-35), 3) := by decide +kernel
theorem dX4_lostByCut_47 : decode cX4_lostByCut 47 = .ok (.iload_n 2, 1) := by decide +kernel
theorem dX4_lostByCut_48 : decode cX4_lostByCut 48 = .ok (.ireturn, 1) := by decide +kernel
theorem dX4_holderOf_0 : decode cX4_holderOf 0 = .ok (.iconst 0, 1) := by decide +kernel
theorem dX4_holderOf_1 : decode cX4_holderOf 1 = .ok (.istore_n 2, 1) := by decide +kernel
theorem dX4_holderOf_2 : decode cX4_holderOf 2 = .ok (.iload_n 2, 1) := by decide +kernel
theorem dX4_holderOf_3 : decode cX4_holderOf 3 = .ok (.bipush 8, 2) := by decide +kernel
theorem dX4_holderOf_5 : decode cX4_holderOf 5 = .ok (.if_icmp .ge 30, 3) := by decide +kernel
theorem dX4_holderOf_8 : decode cX4_holderOf 8 = .ok (.aload_n 0, 1) := by decide +kernel
theorem dX4_holderOf_9 : decode cX4_holderOf 9 = .ok (.getfield 25, 3) := by decide +kernel
theorem dX4_holderOf_12 : decode cX4_holderOf 12 = .ok (.iload_n 2, 1) := by decide +kernel
theorem dX4_holderOf_13 : decode cX4_holderOf 13 = .ok (.iaload, 1) := by decide +kernel
theorem dX4_holderOf_14 : decode cX4_holderOf 14 = .ok (.ifCond .eq 15, 3) := by decide +kernel
theorem dX4_holderOf_17 : decode cX4_holderOf 17 = .ok (.aload_n 0, 1) := by decide +kernel
theorem dX4_holderOf_18 : decode cX4_holderOf 18 = .ok (.getfield 28, 3) := by decide +kernel
theorem dX4_holderOf_21 : decode cX4_holderOf 21 = .ok (.iload_n 2, 1) := by decide +kernel
theorem dX4_holderOf_22 : decode cX4_holderOf 22 = .ok (.iaload, 1) := by decide +kernel
theorem dX4_holderOf_23 : decode cX4_holderOf 23 = .ok (.iload_n 1, 1) := by decide +kernel
theorem dX4_holderOf_24 : decode cX4_holderOf 24 = .ok (.if_icmp .ne 5, 3) := by decide +kernel
theorem dX4_holderOf_27 : decode cX4_holderOf 27 = .ok (.iload_n 2, 1) := by decide +kernel
theorem dX4_holderOf_28 : decode cX4_holderOf 28 = .ok (.ireturn, 1) := by decide +kernel
theorem dX4_holderOf_29 : decode cX4_holderOf 29 = .ok (.iinc 2 1, 3) := by decide +kernel
theorem dX4_holderOf_32 : decode cX4_holderOf 32 = .ok (.goto (-30), 3) := by decide +kernel
theorem dX4_holderOf_35 : decode cX4_holderOf 35 = .ok (.iconst (-1), 1) := by decide +kernel
theorem dX4_holderOf_36 : decode cX4_holderOf 36 = .ok (.ireturn, 1) := by decide +kernel
theorem dX4_lowestEmpty_0 : decode cX4_lowestEmpty 0 = .ok (.iconst 0, 1) := by decide +kernel
theorem dX4_lowestEmpty_1 : decode cX4_lowestEmpty 1 = .ok (.istore_n 1, 1) := by decide +kernel
theorem dX4_lowestEmpty_2 : decode cX4_lowestEmpty 2 = .ok (.iload_n 1, 1) := by decide +kernel
theorem dX4_lowestEmpty_3 : decode cX4_lowestEmpty 3 = .ok (.bipush 8, 2) := by decide +kernel
theorem dX4_lowestEmpty_5 : decode cX4_lowestEmpty 5 = .ok (.if_icmp .ge 20, 3) := by decide +kernel
theorem dX4_lowestEmpty_8 : decode cX4_lowestEmpty 8 = .ok (.aload_n 0, 1) := by decide +kernel
theorem dX4_lowestEmpty_9 : decode cX4_lowestEmpty 9 = .ok (.getfield 25, 3) := by decide +kernel
theorem dX4_lowestEmpty_12 : decode cX4_lowestEmpty 12 = .ok (.iload_n 1, 1) := by decide +kernel
theorem dX4_lowestEmpty_13 : decode cX4_lowestEmpty 13 = .ok (.iaload, 1) := by decide +kernel
theorem dX4_lowestEmpty_14 : decode cX4_lowestEmpty 14 = .ok (.ifCond .ne 5, 3) := by decide +kernel
theorem dX4_lowestEmpty_17 : decode cX4_lowestEmpty 17 = .ok (.iload_n 1, 1) := by decide +kernel
theorem dX4_lowestEmpty_18 : decode cX4_lowestEmpty 18 = .ok (.ireturn, 1) := by decide +kernel
theorem dX4_lowestEmpty_19 : decode cX4_lowestEmpty 19 = .ok (.iinc 1 1, 3) := by decide +kernel
theorem dX4_lowestEmpty_22 : decode cX4_lowestEmpty 22 = .ok (.goto (-20), 3) := by decide +kernel
theorem dX4_lowestEmpty_25 : decode cX4_lowestEmpty 25 = .ok (.iconst (-1), 1) := by decide +kernel
theorem dX4_lowestEmpty_26 : decode cX4_lowestEmpty 26 = .ok (.ireturn, 1) := by decide +kernel
theorem dX4_lowestTurn_0 : decode cX4_lowestTurn 0 = .ok (.iconst (-1), 1) := by decide +kernel
theorem dX4_lowestTurn_1 : decode cX4_lowestTurn 1 = .ok (.istore_n 2, 1) := by decide +kernel
theorem dX4_lowestTurn_2 : decode cX4_lowestTurn 2 = .ok (.iconst 0, 1) := by decide +kernel
theorem dX4_lowestTurn_3 : decode cX4_lowestTurn 3 = .ok (.istore_n 3, 1) := by decide +kernel
theorem dX4_lowestTurn_4 : decode cX4_lowestTurn 4 = .ok (.iconst 0, 1) := by decide +kernel
theorem dX4_lowestTurn_5 : decode cX4_lowestTurn 5 = .ok (.istore 4, 2) := by decide +kernel
theorem dX4_lowestTurn_7 : decode cX4_lowestTurn 7 = .ok (.iload 4, 2) := by decide +kernel
theorem dX4_lowestTurn_9 : decode cX4_lowestTurn 9 = .ok (.bipush 8, 2) := by decide +kernel
theorem dX4_lowestTurn_11 : decode cX4_lowestTurn 11 = .ok (.if_icmp .ge 47, 3) := by decide +kernel
theorem dX4_lowestTurn_14 : decode cX4_lowestTurn 14 = .ok (.aload_n 0, 1) := by decide +kernel
theorem dX4_lowestTurn_15 : decode cX4_lowestTurn 15 = .ok (.getfield 25, 3) := by decide +kernel
theorem dX4_lowestTurn_18 : decode cX4_lowestTurn 18 = .ok (.iload 4, 2) := by decide +kernel
theorem dX4_lowestTurn_20 : decode cX4_lowestTurn 20 = .ok (.iaload, 1) := by decide +kernel
theorem dX4_lowestTurn_21 : decode cX4_lowestTurn 21 = .ok (.iload_n 1, 1) := by decide +kernel
theorem dX4_lowestTurn_22 : decode cX4_lowestTurn 22 = .ok (.if_icmp .ne 30, 3) := by decide +kernel
theorem dX4_lowestTurn_25 : decode cX4_lowestTurn 25 = .ok (.iload_n 2, 1) := by decide +kernel
theorem dX4_lowestTurn_26 : decode cX4_lowestTurn 26 = .ok (.iconst (-1), 1) := by decide +kernel
theorem dX4_lowestTurn_27 : decode cX4_lowestTurn 27 = .ok (.if_icmp .eq 14, 3) := by decide +kernel
theorem dX4_lowestTurn_30 : decode cX4_lowestTurn 30 = .ok (.aload_n 0, 1) := by decide +kernel
theorem dX4_lowestTurn_31 : decode cX4_lowestTurn 31 = .ok (.getfield 34, 3) := by decide +kernel
theorem dX4_lowestTurn_34 : decode cX4_lowestTurn 34 = .ok (.iload 4, 2) := by decide +kernel
theorem dX4_lowestTurn_36 : decode cX4_lowestTurn 36 = .ok (.iaload, 1) := by decide +kernel
theorem dX4_lowestTurn_37 : decode cX4_lowestTurn 37 = .ok (.iload_n 3, 1) := by decide +kernel
theorem dX4_lowestTurn_38 : decode cX4_lowestTurn 38 = .ok (.if_icmp .ge 14, 3) := by decide +kernel
theorem dX4_lowestTurn_41 : decode cX4_lowestTurn 41 = .ok (.iload 4, 2) := by decide +kernel
theorem dX4_lowestTurn_43 : decode cX4_lowestTurn 43 = .ok (.istore_n 2, 1) := by decide +kernel
theorem dX4_lowestTurn_44 : decode cX4_lowestTurn 44 = .ok (.aload_n 0, 1) := by decide +kernel
theorem dX4_lowestTurn_45 : decode cX4_lowestTurn 45 = .ok (.getfield 34, 3) := by decide +kernel
theorem dX4_lowestTurn_48 : decode cX4_lowestTurn 48 = .ok (.iload 4, 2) := by decide +kernel
theorem dX4_lowestTurn_50 : decode cX4_lowestTurn 50 = .ok (.iaload, 1) := by decide +kernel
theorem dX4_lowestTurn_51 : decode cX4_lowestTurn 51 = .ok (.istore_n 3, 1) := by decide +kernel
theorem dX4_lowestTurn_52 : decode cX4_lowestTurn 52 = .ok (.iinc 4 1, 3) := by decide +kernel
theorem dX4_lowestTurn_55 : decode cX4_lowestTurn 55 = .ok (.goto (-48), 3) := by decide +kernel
theorem dX4_lowestTurn_58 : decode cX4_lowestTurn 58 = .ok (.iload_n 2, 1) := by decide +kernel
theorem dX4_lowestTurn_59 : decode cX4_lowestTurn 59 = .ok (.ireturn, 1) := by decide +kernel
set_option maxRecDepth 20000 in
theorem ggX4_linesAhead_X6_isLine : GoodIn wsX4_linesAhead wsX6_isLine := goodIn_r _ [5] (by decide +kernel) (by decide +kernel)
set_option maxRecDepth 20000 in
theorem gX4_linesAhead_X6_isLine_n80 : GoodIn wsX4_linesAhead (wsX6_isLine) := ggX4_linesAhead_X6_isLine
theorem dX4_linesAhead_0 : decode cX4_linesAhead 0 = .ok (.iconst 0, 1) := by decide +kernel
theorem dX4_linesAhead_1 : decode cX4_linesAhead 1 = .ok (.istore_n 3, 1) := by decide +kernel
theorem dX4_linesAhead_2 : decode cX4_linesAhead 2 = .ok (.iconst 0, 1) := by decide +kernel
theorem dX4_linesAhead_3 : decode cX4_linesAhead 3 = .ok (.istore 4, 2) := by decide +kernel
theorem dX4_linesAhead_5 : decode cX4_linesAhead 5 = .ok (.iload_n 1, 1) := by decide +kernel
theorem dX4_linesAhead_6 : decode cX4_linesAhead 6 = .ok (.invokestatic 80, 3) := by decide +kernel
theorem dX4_linesAhead_9 : decode cX4_linesAhead 9 = .ok (.ifCond .eq 46, 3) := by decide +kernel
theorem dX4_linesAhead_12 : decode cX4_linesAhead 12 = .ok (.iload 4, 2) := by decide +kernel
theorem dX4_linesAhead_14 : decode cX4_linesAhead 14 = .ok (.bipush 8, 2) := by decide +kernel
theorem dX4_linesAhead_16 : decode cX4_linesAhead 16 = .ok (.if_icmp .ge 39, 3) := by decide +kernel
theorem dX4_linesAhead_19 : decode cX4_linesAhead 19 = .ok (.aload_n 0, 1) := by decide +kernel
theorem dX4_linesAhead_20 : decode cX4_linesAhead 20 = .ok (.getfield 25, 3) := by decide +kernel
theorem dX4_linesAhead_23 : decode cX4_linesAhead 23 = .ok (.iload 4, 2) := by decide +kernel
theorem dX4_linesAhead_25 : decode cX4_linesAhead 25 = .ok (.iaload, 1) := by decide +kernel
theorem dX4_linesAhead_26 : decode cX4_linesAhead 26 = .ok (.iload_n 2, 1) := by decide +kernel
theorem dX4_linesAhead_27 : decode cX4_linesAhead 27 = .ok (.if_icmp .lt 22, 3) := by decide +kernel
theorem dX4_linesAhead_30 : decode cX4_linesAhead 30 = .ok (.aload_n 0, 1) := by decide +kernel
theorem dX4_linesAhead_31 : decode cX4_linesAhead 31 = .ok (.getfield 34, 3) := by decide +kernel
theorem dX4_linesAhead_34 : decode cX4_linesAhead 34 = .ok (.iload 4, 2) := by decide +kernel
theorem dX4_linesAhead_36 : decode cX4_linesAhead 36 = .ok (.iaload, 1) := by decide +kernel
theorem dX4_linesAhead_37 : decode cX4_linesAhead 37 = .ok (.aload_n 0, 1) := by decide +kernel
theorem dX4_linesAhead_38 : decode cX4_linesAhead 38 = .ok (.getfield 34, 3) := by decide +kernel
theorem dX4_linesAhead_41 : decode cX4_linesAhead 41 = .ok (.iload_n 1, 1) := by decide +kernel
theorem dX4_linesAhead_42 : decode cX4_linesAhead 42 = .ok (.iaload, 1) := by decide +kernel
theorem dX4_linesAhead_43 : decode cX4_linesAhead 43 = .ok (.if_icmp .ge 6, 3) := by decide +kernel
theorem dX4_linesAhead_46 : decode cX4_linesAhead 46 = .ok (.iinc 3 1, 3) := by decide +kernel
theorem dX4_linesAhead_49 : decode cX4_linesAhead 49 = .ok (.iinc 4 1, 3) := by decide +kernel
theorem dX4_linesAhead_52 : decode cX4_linesAhead 52 = .ok (.goto (-47), 3) := by decide +kernel
theorem dX4_linesAhead_55 : decode cX4_linesAhead 55 = .ok (.iload_n 3, 1) := by decide +kernel
theorem dX4_linesAhead_56 : decode cX4_linesAhead 56 = .ok (.ireturn, 1) := by decide +kernel
set_option maxRecDepth 20000 in
theorem ggX4_numberOf_X4_setOf : GoodIn wsX4_numberOf wsX4_setOf := goodIn_r _ [5, 6, 14, 15, 16, 17, 18, 19, 20, 21, 22, 23, 24, 25, 26, 27, 28, 29, 30] (by decide +kernel) (by decide +kernel)
set_option maxRecDepth 20000 in
theorem gX4_numberOf_X4_setOf : GoodIn wsX4_numberOf (wsV RX4 154 RX4 yX4_setOf wsX4_setOf) := goodIn_app (goodIn_of _ (by decide +kernel)) ggX4_numberOf_X4_setOf
set_option maxRecDepth 20000 in
theorem ggX4_numberOf_J6_bitCount_0f7a4 : GoodIn wsX4_numberOf wsJ6_bitCount_0f7a4 := goodIn_r _ [10, 11, 12, 13] (by decide +kernel) (by decide +kernel)
set_option maxRecDepth 20000 in
theorem gX4_numberOf_J6_bitCount_0f7a4 : GoodIn wsX4_numberOf (va_wsS RX4 157 yJ6_bitCount_0f7a4 wsJ6_bitCount_0f7a4) := goodIn_app (goodIn_of _ (by decide +kernel)) ggX4_numberOf_J6_bitCount_0f7a4
theorem dX4_numberOf_0 : decode cX4_numberOf 0 = .ok (.aload_n 0, 1) := by decide +kernel
theorem dX4_numberOf_1 : decode cX4_numberOf 1 = .ok (.iload_n 1, 1) := by decide +kernel
theorem dX4_numberOf_2 : decode cX4_numberOf 2 = .ok (.invokevirtual 154, 3) := by decide +kernel
theorem dX4_numberOf_5 : decode cX4_numberOf 5 = .ok (.invokestatic 157, 3) := by decide +kernel
theorem dX4_numberOf_8 : decode cX4_numberOf 8 = .ok (.ireturn, 1) := by decide +kernel
theorem dX4_setOf_0 : decode cX4_setOf 0 = .ok (.iconst 0, 1) := by decide +kernel
theorem dX4_setOf_1 : decode cX4_setOf 1 = .ok (.istore_n 2, 1) := by decide +kernel
theorem dX4_setOf_2 : decode cX4_setOf 2 = .ok (.iconst 0, 1) := by decide +kernel
theorem dX4_setOf_3 : decode cX4_setOf 3 = .ok (.istore_n 3, 1) := by decide +kernel
theorem dX4_setOf_4 : decode cX4_setOf 4 = .ok (.iload_n 3, 1) := by decide +kernel
theorem dX4_setOf_5 : decode cX4_setOf 5 = .ok (.bipush 8, 2) := by decide +kernel
theorem dX4_setOf_7 : decode cX4_setOf 7 = .ok (.if_icmp .ge 25, 3) := by decide +kernel
theorem dX4_setOf_10 : decode cX4_setOf 10 = .ok (.aload_n 0, 1) := by decide +kernel
theorem dX4_setOf_11 : decode cX4_setOf 11 = .ok (.getfield 25, 3) := by decide +kernel
theorem dX4_setOf_14 : decode cX4_setOf 14 = .ok (.iload_n 3, 1) := by decide +kernel
theorem dX4_setOf_15 : decode cX4_setOf 15 = .ok (.iaload, 1) := by decide +kernel
theorem dX4_setOf_16 : decode cX4_setOf 16 = .ok (.iload_n 1, 1) := by decide +kernel
theorem dX4_setOf_17 : decode cX4_setOf 17 = .ok (.if_icmp .ne 9, 3) := by decide +kernel
theorem dX4_setOf_20 : decode cX4_setOf 20 = .ok (.iload_n 2, 1) := by decide +kernel
theorem dX4_setOf_21 : decode cX4_setOf 21 = .ok (.iconst 1, 1) := by decide +kernel
theorem dX4_setOf_22 : decode cX4_setOf 22 = .ok (.iload_n 3, 1) := by decide +kernel
theorem dX4_setOf_23 : decode cX4_setOf 23 = .ok (.ishl, 1) := by decide +kernel
theorem dX4_setOf_24 : decode cX4_setOf 24 = .ok (.ior, 1) := by decide +kernel
theorem dX4_setOf_25 : decode cX4_setOf 25 = .ok (.istore_n 2, 1) := by decide +kernel
theorem dX4_setOf_26 : decode cX4_setOf 26 = .ok (.iinc 3 1, 3) := by decide +kernel
theorem dX4_setOf_29 : decode cX4_setOf 29 = .ok (.goto (-25), 3) := by decide +kernel
theorem dX4_setOf_32 : decode cX4_setOf 32 = .ok (.iload_n 2, 1) := by decide +kernel
theorem dX4_setOf_33 : decode cX4_setOf 33 = .ok (.ireturn, 1) := by decide +kernel
theorem dX5_init_0 : decode cX5_init 0 = .ok (.aload_n 0, 1) := by decide +kernel
theorem dX5_init_1 : decode cX5_init 1 = .ok (.invokespecial 3, 3) := by decide +kernel
theorem dX5_init_4 : decode cX5_init 4 = .ok (.aload_n 0, 1) := by decide +kernel
theorem dX5_init_5 : decode cX5_init 5 = .ok (.bipush 60, 2) := by decide +kernel
theorem dX5_init_7 : decode cX5_init 7 = .ok (.newarray .int, 2) := by decide +kernel
theorem dX5_init_9 : decode cX5_init 9 = .ok (.putfield 9, 3) := by decide +kernel
theorem dX5_init_12 : decode cX5_init 12 = .ok (.aload_n 0, 1) := by decide +kernel
theorem dX5_init_13 : decode cX5_init 13 = .ok (.iconst 0, 1) := by decide +kernel
theorem dX5_init_14 : decode cX5_init 14 = .ok (.putfield 15, 3) := by decide +kernel
theorem dX5_init_17 : decode cX5_init 17 = .ok (.return_, 1) := by decide +kernel
abbrev vwCl : List vw_C := [(RX0, TX0, 7), (RX1, TX1, 2), (RX2, TX2, 7), (RX3, TX3, 3), (RX4, TX4, 17), (RX5, TX5, 2), (RX6, TX6, 5)]
