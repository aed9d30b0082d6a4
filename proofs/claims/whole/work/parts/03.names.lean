abbrev RC : String := "TickLines$Controller"
def TC : u_T := fun k => match k with
  | 0 => ("TickLines$Controller", "leads", "Z", true)
  | 1 => ("TickLines$Controller", "lines", "I", false)
  | 2 => ("TickLines$Controller", "latches", "I", false)
  | 3 => ("TickLines$Controller", "mask", "I", false)
  | 4 => ("TickLines$Controller", "service", "I", false)
  | 5 => ("TickLines$Controller", "base", "I", false)
  | 6 => ("TickLines$Controller", "lowest", "I", false)
  | 7 => ("TickLines$Controller", "ready", "Z", false)
  | 8 => ("TickLines$Controller", "awaited", "I", false)
  | 9 => ("TickLines$Controller", "levelMode", "Z", false)
  | 10 => ("TickLines$Controller", "single", "Z", false)
  | 11 => ("TickLines$Controller", "fourthComes", "Z", false)
  | 12 => ("TickLines$Controller", "auto", "Z", false)
  | 13 => ("TickLines$Controller", "nested", "Z", false)
  | 14 => ("TickLines$Controller", "special", "Z", false)
  | 15 => ("TickLines$Controller", "turns", "Z", false)
  | 16 => ("TickLines$Controller", "serviceIsRead", "Z", false)
  | _ => ("TickLines$Controller", "polled", "Z", false)
def tyC : Nat → FieldType := fun k => match k with
  | 0 => .boolean
  | 1 => .int
  | 2 => .int
  | 3 => .int
  | 4 => .int
  | 5 => .int
  | 6 => .int
  | 7 => .boolean
  | 8 => .int
  | 9 => .boolean
  | 10 => .boolean
  | 11 => .boolean
  | 12 => .boolean
  | 13 => .boolean
  | 14 => .boolean
  | 15 => .boolean
  | 16 => .boolean
  | _ => .boolean
theorem nmC : ∀ a, a < 18 → ∀ b, b < 18 → a ≠ b → (TC a).2.1 ≠ (TC b).2.1 := by decide +kernel
theorem tyC_ok : ∀ k, k < 18 → parseFieldDescriptor (TC k).2.2.1 = some (tyC k) := by decide +kernel
abbrev RN : String := "TickLines$Counter"
def TN : u_T := fun k => match k with
  | 0 => ("TickLines$Counter", "gateIsOn", "Z", false)
  | 1 => ("TickLines$Counter", "output", "Z", false)
  | 2 => ("TickLines$Counter", "mode", "I", false)
  | 3 => ("TickLines$Counter", "access", "I", false)
  | 4 => ("TickLines$Counter", "reload", "I", false)
  | 5 => ("TickLines$Counter", "count", "I", false)
  | 6 => ("TickLines$Counter", "runs", "Z", false)
  | 7 => ("TickLines$Counter", "toBeLoaded", "Z", false)
  | 8 => ("TickLines$Counter", "pending", "Z", false)
  | 9 => ("TickLines$Counter", "lowWritten", "I", false)
  | 10 => ("TickLines$Counter", "highIsWrittenNext", "Z", false)
  | 11 => ("TickLines$Counter", "highIsReadNext", "Z", false)
  | 12 => ("TickLines$Counter", "latchedCount", "I", false)
  | _ => ("TickLines$Counter", "latchedStatus", "I", false)
def tyN : Nat → FieldType := fun k => match k with
  | 0 => .boolean
  | 1 => .boolean
  | 2 => .int
  | 3 => .int
  | 4 => .int
  | 5 => .int
  | 6 => .boolean
  | 7 => .boolean
  | 8 => .boolean
  | 9 => .int
  | 10 => .boolean
  | 11 => .boolean
  | 12 => .int
  | _ => .int
theorem nmN : ∀ a, a < 14 → ∀ b, b < 14 → a ≠ b → (TN a).2.1 ≠ (TN b).2.1 := by decide +kernel
theorem tyN_ok : ∀ k, k < 14 → parseFieldDescriptor (TN k).2.2.1 = some (tyN k) := by decide +kernel
abbrev RT : String := "TickLines"
def TT : u_T := fun k => match k with
  | 0 => ("TickLines", "leader", "LTickLines$Controller;", true)
  | 1 => ("TickLines", "follower", "LTickLines$Controller;", true)
  | _ => ("TickLines", "counters", "[LTickLines$Counter;", true)
def tyT : Nat → FieldType := fun k => match k with
  | 0 => .object "TickLines$Controller"
  | 1 => .object "TickLines$Controller"
  | _ => .array (.object "TickLines$Counter")
theorem nmT : ∀ a, a < 3 → ∀ b, b < 3 → a ≠ b → (TT a).2.1 ≠ (TT b).2.1 := by decide +kernel
theorem tyT_ok : ∀ k, k < 3 → parseFieldDescriptor (TT k).2.2.1 = some (tyT k) := by decide +kernel
abbrev RM : String := "TickLinesModel"
def TM : u_T := fun k => match k with
  | 0 => ("TickLinesModel", "thrown", "I", false)
  | 1 => ("TickLinesModel", "lines", "[I", true)
  | 2 => ("TickLinesModel", "latches", "[I", true)
  | 3 => ("TickLinesModel", "mask", "[I", true)
  | 4 => ("TickLinesModel", "service", "[I", true)
  | 5 => ("TickLinesModel", "base", "[I", true)
  | 6 => ("TickLinesModel", "lowest", "[I", true)
  | 7 => ("TickLinesModel", "ready", "[Z", true)
  | 8 => ("TickLinesModel", "level", "[Z", true)
  | 9 => ("TickLinesModel", "single", "[Z", true)
  | 10 => ("TickLinesModel", "fourth", "[Z", true)
  | 11 => ("TickLinesModel", "auto", "[Z", true)
  | 12 => ("TickLinesModel", "nested", "[Z", true)
  | 13 => ("TickLinesModel", "special", "[Z", true)
  | 14 => ("TickLinesModel", "turns", "[Z", true)
  | 15 => ("TickLinesModel", "poll", "[Z", true)
  | 16 => ("TickLinesModel", "showsService", "[Z", true)
  | 17 => ("TickLinesModel", "stage", "[I", true)
  | 18 => ("TickLinesModel", "gate", "[Z", true)
  | 19 => ("TickLinesModel", "output", "[Z", true)
  | 20 => ("TickLinesModel", "mode", "[I", true)
  | 21 => ("TickLinesModel", "access", "[I", true)
  | 22 => ("TickLinesModel", "reload", "[I", true)
  | 23 => ("TickLinesModel", "count", "[I", true)
  | 24 => ("TickLinesModel", "runs", "[Z", true)
  | 25 => ("TickLinesModel", "load", "[Z", true)
  | 26 => ("TickLinesModel", "stands", "[Z", true)
  | 27 => ("TickLinesModel", "fresh", "[Z", true)
  | 28 => ("TickLinesModel", "highNext", "[Z", true)
  | 29 => ("TickLinesModel", "low", "[I", true)
  | 30 => ("TickLinesModel", "readHigh", "[Z", true)
  | 31 => ("TickLinesModel", "latched", "[I", true)
  | _ => ("TickLinesModel", "status", "[I", true)
def tyM : Nat → FieldType := fun k => match k with
  | 0 => .int
  | 1 => .array .int
  | 2 => .array .int
  | 3 => .array .int
  | 4 => .array .int
  | 5 => .array .int
  | 6 => .array .int
  | 7 => .array .boolean
  | 8 => .array .boolean
  | 9 => .array .boolean
  | 10 => .array .boolean
  | 11 => .array .boolean
  | 12 => .array .boolean
  | 13 => .array .boolean
  | 14 => .array .boolean
  | 15 => .array .boolean
  | 16 => .array .boolean
  | 17 => .array .int
  | 18 => .array .boolean
  | 19 => .array .boolean
  | 20 => .array .int
  | 21 => .array .int
  | 22 => .array .int
  | 23 => .array .int
  | 24 => .array .boolean
  | 25 => .array .boolean
  | 26 => .array .boolean
  | 27 => .array .boolean
  | 28 => .array .boolean
  | 29 => .array .int
  | 30 => .array .boolean
  | 31 => .array .int
  | _ => .array .int
theorem nmM : ∀ a, a < 33 → ∀ b, b < 33 → a ≠ b → (TM a).2.1 ≠ (TM b).2.1 := by decide +kernel
theorem tyM_ok : ∀ k, k < 33 → parseFieldDescriptor (TM k).2.2.1 = some (tyM k) := by decide +kernel
abbrev cN_init : ByteArray := prog_3_method_1_code
def yN_init : MethodName := ⟨"TickLines$Counter", "<init>", "()V"⟩
abbrev cN_hasMode : ByteArray := prog_3_method_2_code
def yN_hasMode : MethodName := ⟨"TickLines$Counter", "hasMode", "()Z"⟩
abbrev cN_setMode : ByteArray := prog_3_method_3_code
def yN_setMode : MethodName := ⟨"TickLines$Counter", "setMode", "(II)V"⟩
abbrev cN_latchCount : ByteArray := prog_3_method_4_code
def yN_latchCount : MethodName := ⟨"TickLines$Counter", "latchCount", "()V"⟩
abbrev cN_latchStatus : ByteArray := prog_3_method_5_code
def yN_latchStatus : MethodName := ⟨"TickLines$Counter", "latchStatus", "()V"⟩
abbrev cN_takeByte : ByteArray := prog_3_method_6_code
def yN_takeByte : MethodName := ⟨"TickLines$Counter", "takeByte", "(I)V"⟩
abbrev cN_giveByte : ByteArray := prog_3_method_7_code
def yN_giveByte : MethodName := ⟨"TickLines$Counter", "giveByte", "()I"⟩
abbrev cN_setGate : ByteArray := prog_3_method_8_code
def yN_setGate : MethodName := ⟨"TickLines$Counter", "setGate", "(Z)V"⟩
abbrev cN_step : ByteArray := prog_3_method_9_code
def yN_step : MethodName := ⟨"TickLines$Counter", "step", "()V"⟩
abbrev cN_tell : ByteArray := prog_3_method_10_code
def yN_tell : MethodName := ⟨"TickLines$Counter", "tell", "(I)I"⟩
abbrev cN_isEmpty : ByteArray := prog_3_method_11_code
def yN_isEmpty : MethodName := ⟨"TickLines$Counter", "isEmpty", "()Z"⟩
abbrev cN_standsBetweenBytes : ByteArray := prog_3_method_12_code
def yN_standsBetweenBytes : MethodName := ⟨"TickLines$Counter", "standsBetweenBytes", "()Z"⟩
abbrev cN_isPeriodic : ByteArray := prog_3_method_13_code
def yN_isPeriodic : MethodName := ⟨"TickLines$Counter", "isPeriodic", "()Z"⟩
abbrev cN_gateLoads : ByteArray := prog_3_method_14_code
def yN_gateLoads : MethodName := ⟨"TickLines$Counter", "gateLoads", "()Z"⟩
abbrev cN_gateHoldsBack : ByteArray := prog_3_method_15_code
def yN_gateHoldsBack : MethodName := ⟨"TickLines$Counter", "gateHoldsBack", "()Z"⟩
abbrev cN_takeReload : ByteArray := prog_3_method_16_code
def yN_takeReload : MethodName := ⟨"TickLines$Counter", "takeReload", "(I)V"⟩
abbrev cN_load : ByteArray := prog_3_method_17_code
def yN_load : MethodName := ⟨"TickLines$Counter", "load", "()V"⟩
abbrev cN_partTicks : ByteArray := prog_3_method_18_code
def yN_partTicks : MethodName := ⟨"TickLines$Counter", "partTicks", "()I"⟩
abbrev cN_setCount : ByteArray := prog_3_method_19_code
def yN_setCount : MethodName := ⟨"TickLines$Counter", "setCount", "(I)V"⟩
abbrev cN_countDown : ByteArray := prog_3_method_20_code
def yN_countDown : MethodName := ⟨"TickLines$Counter", "countDown", "()V"⟩
abbrev cN_lessen : ByteArray := prog_3_method_21_code
def yN_lessen : MethodName := ⟨"TickLines$Counter", "lessen", "(I)V"⟩
abbrev cN_stepOnce : ByteArray := prog_3_method_22_code
def yN_stepOnce : MethodName := ⟨"TickLines$Counter", "stepOnce", "()V"⟩
abbrev cN_stepRate : ByteArray := prog_3_method_23_code
def yN_stepRate : MethodName := ⟨"TickLines$Counter", "stepRate", "()V"⟩
abbrev cN_stepSquare : ByteArray := prog_3_method_24_code
def yN_stepSquare : MethodName := ⟨"TickLines$Counter", "stepSquare", "()V"⟩
abbrev cN_stepStrobe : ByteArray := prog_3_method_25_code
def yN_stepStrobe : MethodName := ⟨"TickLines$Counter", "stepStrobe", "()V"⟩
abbrev cC_init : ByteArray := prog_2_method_1_code
def yC_init : MethodName := ⟨"TickLines$Controller", "<init>", "(Z)V"⟩
abbrev cC_setLine : ByteArray := prog_2_method_2_code
def yC_setLine : MethodName := ⟨"TickLines$Controller", "setLine", "(IZ)V"⟩
abbrev cC_chosenLevel : ByteArray := prog_2_method_3_code
def yC_chosenLevel : MethodName := ⟨"TickLines$Controller", "chosenLevel", "()I"⟩
abbrev cC_serveChosen : ByteArray := prog_2_method_4_code
def yC_serveChosen : MethodName := ⟨"TickLines$Controller", "serveChosen", "()I"⟩
abbrev cC_vectorOf : ByteArray := prog_2_method_5_code
def yC_vectorOf : MethodName := ⟨"TickLines$Controller", "vectorOf", "(I)I"⟩
abbrev cC_takeSideZero : ByteArray := prog_2_method_6_code
def yC_takeSideZero : MethodName := ⟨"TickLines$Controller", "takeSideZero", "(I)V"⟩
abbrev cC_takeSideOne : ByteArray := prog_2_method_7_code
def yC_takeSideOne : MethodName := ⟨"TickLines$Controller", "takeSideOne", "(I)V"⟩
abbrev cC_giveSideZero : ByteArray := prog_2_method_8_code
def yC_giveSideZero : MethodName := ⟨"TickLines$Controller", "giveSideZero", "()I"⟩
abbrev cC_tell : ByteArray := prog_2_method_9_code
def yC_tell : MethodName := ⟨"TickLines$Controller", "tell", "(I)I"⟩
abbrev cC_requests : ByteArray := prog_2_method_10_code
def yC_requests : MethodName := ⟨"TickLines$Controller", "requests", "()I"⟩
abbrev cC_holdingLevels : ByteArray := prog_2_method_11_code
def yC_holdingLevels : MethodName := ⟨"TickLines$Controller", "holdingLevels", "()I"⟩
abbrev cC_mayNest : ByteArray := prog_2_method_12_code
def yC_mayNest : MethodName := ⟨"TickLines$Controller", "mayNest", "(I)Z"⟩
abbrev cC_serve : ByteArray := prog_2_method_13_code
def yC_serve : MethodName := ⟨"TickLines$Controller", "serve", "(I)V"⟩
abbrev cC_beginSettingUp : ByteArray := prog_2_method_14_code
def yC_beginSettingUp : MethodName := ⟨"TickLines$Controller", "beginSettingUp", "(I)V"⟩
abbrev cC_awaitFrom : ByteArray := prog_2_method_15_code
def yC_awaitFrom : MethodName := ⟨"TickLines$Controller", "awaitFrom", "(I)V"⟩
abbrev cC_becomeReady : ByteArray := prog_2_method_16_code
def yC_becomeReady : MethodName := ⟨"TickLines$Controller", "becomeReady", "()V"⟩
abbrev cC_takeServiceCommand : ByteArray := prog_2_method_17_code
def yC_takeServiceCommand : MethodName := ⟨"TickLines$Controller", "takeServiceCommand", "(II)V"⟩
abbrev cC_takeReadingCommand : ByteArray := prog_2_method_18_code
def yC_takeReadingCommand : MethodName := ⟨"TickLines$Controller", "takeReadingCommand", "(I)V"⟩
abbrev cC_firstHolding : ByteArray := prog_2_method_19_code
def yC_firstHolding : MethodName := ⟨"TickLines$Controller", "firstHolding", "()I"⟩
abbrev cC_endService : ByteArray := prog_2_method_20_code
def yC_endService : MethodName := ⟨"TickLines$Controller", "endService", "(I)V"⟩
abbrev cC_endServiceAndTurn : ByteArray := prog_2_method_21_code
def yC_endServiceAndTurn : MethodName := ⟨"TickLines$Controller", "endServiceAndTurn", "(I)V"⟩
abbrev cT_init : ByteArray := prog_1_method_1_code
def yT_init : MethodName := ⟨"TickLines", "<init>", "()V"⟩
abbrev cT_write : ByteArray := prog_1_method_2_code
def yT_write : MethodName := ⟨"TickLines", "write", "(II)V"⟩
abbrev cT_read : ByteArray := prog_1_method_3_code
def yT_read : MethodName := ⟨"TickLines", "read", "(I)I"⟩
abbrev cT_line : ByteArray := prog_1_method_4_code
def yT_line : MethodName := ⟨"TickLines", "line", "(IIZ)Z"⟩
abbrev cT_gate : ByteArray := prog_1_method_5_code
def yT_gate : MethodName := ⟨"TickLines", "gate", "(IZ)Z"⟩
abbrev cT_tick : ByteArray := prog_1_method_6_code
def yT_tick : MethodName := ⟨"TickLines", "tick", "(I)I"⟩
abbrev cT_acknowledge : ByteArray := prog_1_method_7_code
def yT_acknowledge : MethodName := ⟨"TickLines", "acknowledge", "()I"⟩
abbrev cT_chosen : ByteArray := prog_1_method_8_code
def yT_chosen : MethodName := ⟨"TickLines", "chosen", "(I)I"⟩
abbrev cT_about : ByteArray := prog_1_method_9_code
def yT_about : MethodName := ⟨"TickLines", "about", "(II)I"⟩
abbrev cT_counter : ByteArray := prog_1_method_10_code
def yT_counter : MethodName := ⟨"TickLines", "counter", "(II)I"⟩
abbrev cT_isPort : ByteArray := prog_1_method_11_code
def yT_isPort : MethodName := ⟨"TickLines", "isPort", "(I)Z"⟩
abbrev cT_isCounterPort : ByteArray := prog_1_method_12_code
def yT_isCounterPort : MethodName := ⟨"TickLines", "isCounterPort", "(I)Z"⟩
abbrev cT_isController : ByteArray := prog_1_method_13_code
def yT_isController : MethodName := ⟨"TickLines", "isController", "(I)Z"⟩
abbrev cT_isCounter : ByteArray := prog_1_method_14_code
def yT_isCounter : MethodName := ⟨"TickLines", "isCounter", "(I)Z"⟩
abbrev cT_asBit : ByteArray := prog_1_method_15_code
def yT_asBit : MethodName := ⟨"TickLines", "asBit", "(Z)I"⟩
abbrev cT_hasBit : ByteArray := prog_1_method_16_code
def yT_hasBit : MethodName := ⟨"TickLines", "hasBit", "(II)Z"⟩
abbrev cT_controllerOf : ByteArray := prog_1_method_17_code
def yT_controllerOf : MethodName := ⟨"TickLines", "controllerOf", "(I)LTickLines$Controller;"⟩
abbrev cT_counterWithMode : ByteArray := prog_1_method_18_code
def yT_counterWithMode : MethodName := ⟨"TickLines", "counterWithMode", "(I)LTickLines$Counter;"⟩
abbrev cT_takeControl : ByteArray := prog_1_method_19_code
def yT_takeControl : MethodName := ⟨"TickLines", "takeControl", "(I)V"⟩
abbrev cT_latchMany : ByteArray := prog_1_method_20_code
def yT_latchMany : MethodName := ⟨"TickLines", "latchMany", "(I)V"⟩
abbrev cT_followLines : ByteArray := prog_1_method_21_code
def yT_followLines : MethodName := ⟨"TickLines", "followLines", "()V"⟩
abbrev cM_init : ByteArray := prog_5_method_1_code
def yM_init : MethodName := ⟨"TickLinesModel", "<init>", "()V"⟩
abbrev cM_thrown : ByteArray := prog_5_method_2_code
def yM_thrown : MethodName := ⟨"TickLinesModel", "thrown", "()I"⟩
abbrev cM_requests : ByteArray := prog_5_method_3_code
def yM_requests : MethodName := ⟨"TickLinesModel", "requests", "(I)I"⟩
abbrev cM_holds : ByteArray := prog_5_method_4_code
def yM_holds : MethodName := ⟨"TickLinesModel", "holds", "(II)Z"⟩
abbrev cM_choice : ByteArray := prog_5_method_5_code
def yM_choice : MethodName := ⟨"TickLinesModel", "choice", "(I)I"⟩
abbrev cM_serve : ByteArray := prog_5_method_6_code
def yM_serve : MethodName := ⟨"TickLinesModel", "serve", "(II)V"⟩
abbrev cM_set : ByteArray := prog_5_method_7_code
def yM_set : MethodName := ⟨"TickLinesModel", "set", "(IIZ)V"⟩
abbrev cM_follow : ByteArray := prog_5_method_8_code
def yM_follow : MethodName := ⟨"TickLinesModel", "follow", "()V"⟩
abbrev cM_firstHeld : ByteArray := prog_5_method_9_code
def yM_firstHeld : MethodName := ⟨"TickLinesModel", "firstHeld", "(I)I"⟩
abbrev cM_begin : ByteArray := prog_5_method_10_code
def yM_begin : MethodName := ⟨"TickLinesModel", "begin", "(II)V"⟩
abbrev cM_rule : ByteArray := prog_5_method_11_code
def yM_rule : MethodName := ⟨"TickLinesModel", "rule", "(II)V"⟩
abbrev cM_writeFirst : ByteArray := prog_5_method_12_code
def yM_writeFirst : MethodName := ⟨"TickLinesModel", "writeFirst", "(II)V"⟩
abbrev cM_writeSecond : ByteArray := prog_5_method_13_code
def yM_writeSecond : MethodName := ⟨"TickLinesModel", "writeSecond", "(II)V"⟩
abbrev cM_readFirst : ByteArray := prog_5_method_14_code
def yM_readFirst : MethodName := ⟨"TickLinesModel", "readFirst", "(I)I"⟩
abbrev cM_latch : ByteArray := prog_5_method_15_code
def yM_latch : MethodName := ⟨"TickLinesModel", "latch", "(I)V"⟩
abbrev cM_latchStatus : ByteArray := prog_5_method_16_code
def yM_latchStatus : MethodName := ⟨"TickLinesModel", "latchStatus", "(I)V"⟩
abbrev cM_control : ByteArray := prog_5_method_17_code
def yM_control : MethodName := ⟨"TickLinesModel", "control", "(I)V"⟩
abbrev cM_writeCounter : ByteArray := prog_5_method_18_code
def yM_writeCounter : MethodName := ⟨"TickLinesModel", "writeCounter", "(II)V"⟩
abbrev cM_readCounter : ByteArray := prog_5_method_19_code
def yM_readCounter : MethodName := ⟨"TickLinesModel", "readCounter", "(I)I"⟩
abbrev cM_put : ByteArray := prog_5_method_20_code
def yM_put : MethodName := ⟨"TickLinesModel", "put", "(II)V"⟩
abbrev cM_step : ByteArray := prog_5_method_21_code
def yM_step : MethodName := ⟨"TickLinesModel", "step", "(I)V"⟩
abbrev cM_turn : ByteArray := prog_5_method_22_code
def yM_turn : MethodName := ⟨"TickLinesModel", "turn", "(I)V"⟩
abbrev cM_tickOne : ByteArray := prog_5_method_23_code
def yM_tickOne : MethodName := ⟨"TickLinesModel", "tickOne", "(I)V"⟩
abbrev cM_write : ByteArray := prog_5_method_24_code
def yM_write : MethodName := ⟨"TickLinesModel", "write", "(II)V"⟩
abbrev cM_read : ByteArray := prog_5_method_25_code
def yM_read : MethodName := ⟨"TickLinesModel", "read", "(I)I"⟩
abbrev cM_line : ByteArray := prog_5_method_26_code
def yM_line : MethodName := ⟨"TickLinesModel", "line", "(IIZ)Z"⟩
abbrev cM_gate : ByteArray := prog_5_method_27_code
def yM_gate : MethodName := ⟨"TickLinesModel", "gate", "(IZ)Z"⟩
abbrev cM_tick : ByteArray := prog_5_method_28_code
def yM_tick : MethodName := ⟨"TickLinesModel", "tick", "(I)I"⟩
abbrev cM_acknowledge : ByteArray := prog_5_method_29_code
def yM_acknowledge : MethodName := ⟨"TickLinesModel", "acknowledge", "()I"⟩
abbrev cM_chosen : ByteArray := prog_5_method_30_code
def yM_chosen : MethodName := ⟨"TickLinesModel", "chosen", "(I)I"⟩
abbrev cM_about : ByteArray := prog_5_method_31_code
def yM_about : MethodName := ⟨"TickLinesModel", "about", "(II)I"⟩
abbrev cM_counter : ByteArray := prog_5_method_32_code
def yM_counter : MethodName := ⟨"TickLinesModel", "counter", "(II)I"⟩
abbrev cL_write : ByteArray := method_3_code
def yL_write : MethodName := ⟨"TickLinesLaw", "write", "(LTickLines;II)I"⟩
abbrev cL_read : ByteArray := method_4_code
def yL_read : MethodName := ⟨"TickLinesLaw", "read", "(LTickLines;I[J)I"⟩
abbrev cL_tick : ByteArray := method_5_code
def yL_tick : MethodName := ⟨"TickLinesLaw", "tick", "(LTickLines;I[J)I"⟩
abbrev cL_acknowledge : ByteArray := method_6_code
def yL_acknowledge : MethodName := ⟨"TickLinesLaw", "acknowledge", "(LTickLines;[J)I"⟩
abbrev vwCl : List vw_C := [(RC, TC, 18), (RN, TN, 14), (RT, TT, 3), (RM, TM, 33)]
def tkW_0 : List Cond := [.selects "TickLines" yT_controllerOf yT_controllerOf, .selects "TickLines" yT_followLines yT_followLines, .selects "TickLines$Controller" yC_requests yC_requests, .selects "TickLines$Controller" yC_holdingLevels yC_holdingLevels, .selects "TickLines$Controller" yC_mayNest yC_mayNest, .selects "TickLines$Counter" yN_isEmpty yN_isEmpty, .selects "TickLines$Counter" yN_gateLoads yN_gateLoads, .selects "TickLines$Counter" yN_isPeriodic yN_isPeriodic, .selects "TickLines" yT_counterWithMode yT_counterWithMode, .selects "TickLines$Counter" yN_takeReload yN_takeReload, .selects "TickLines" yT_takeControl yT_takeControl, .selects "TickLines" yT_latchMany yT_latchMany, .selects "TickLines$Controller" yC_beginSettingUp yC_beginSettingUp, .selects "TickLines$Controller" yC_takeReadingCommand yC_takeReadingCommand, .selects "TickLines$Controller" yC_takeServiceCommand yC_takeServiceCommand, .selects "TickLines$Controller" yC_firstHolding yC_firstHolding, .selects "TickLines$Controller" yC_endService yC_endService, .selects "TickLines$Controller" yC_endServiceAndTurn yC_endServiceAndTurn, .selects "TickLines$Controller" yC_awaitFrom yC_awaitFrom, .selects "TickLines$Controller" yC_becomeReady yC_becomeReady, .selects "TickLines$Controller" yC_serve yC_serve, .selects "TickLines$Counter" yN_standsBetweenBytes yN_standsBetweenBytes, .selects "TickLines$Counter" yN_load yN_load, .selects "TickLines$Counter" yN_partTicks yN_partTicks, .selects "TickLines$Counter" yN_setCount yN_setCount, .selects "TickLines$Counter" yN_gateHoldsBack yN_gateHoldsBack, .selects "TickLines$Counter" yN_countDown yN_countDown, .selects "TickLines$Counter" yN_stepRate yN_stepRate, .selects "TickLines$Counter" yN_lessen yN_lessen, .selects "TickLines$Counter" yN_stepSquare yN_stepSquare, .selects "TickLines$Counter" yN_stepStrobe yN_stepStrobe, .selects "TickLines$Counter" yN_stepOnce yN_stepOnce, .initialized "TickLines", .initialized "TickLines$Controller", .initialized "TickLines$Counter", .initialized "java/lang/Throwable", .initialized "java/lang/Exception", .initialized "java/lang/RuntimeException", .initialized "java/lang/IllegalArgumentException", .initialized "java/lang/IllegalStateException", .instantiable "TickLines" 3, .instanceMethod yT_init, .code yT_init cT_init 1 none, .methodLink "TickLines" 1 objectInit, .instanceMethod objectInit, .code objectInit ⟨#[0xb1]⟩ 1 none, .classLink "TickLines" 7 "TickLines$Controller", .instantiable "TickLines$Controller" 18, .methodLink "TickLines" 9 yC_init, .instanceMethod yC_init, .code yC_init cC_init 2 none, .methodLink "TickLines$Controller" 3 objectInit, .fieldLink "TickLines$Controller" 9 "TickLines$Controller" "leads" "Z", .fieldLink "TickLines$Controller" 22 "TickLines$Controller" "lines" "I", .fieldLink "TickLines$Controller" 19 "TickLines$Controller" "latches" "I", .fieldLink "TickLines$Controller" 32 "TickLines$Controller" "mask" "I", .fieldLink "TickLines$Controller" 93 "TickLines$Controller" "service" "I", .fieldLink "TickLines$Controller" 53 "TickLines$Controller" "base" "I", .fieldLink "TickLines$Controller" 15 "TickLines$Controller" "lowest" "I", .fieldLink "TickLines$Controller" 25 "TickLines$Controller" "ready" "Z"]
def tkW_1 : List Cond := [.fieldLink "TickLines$Controller" 66 "TickLines$Controller" "awaited" "I", .fieldLink "TickLines$Controller" 100 "TickLines$Controller" "levelMode" "Z", .fieldLink "TickLines$Controller" 69 "TickLines$Controller" "single" "Z", .fieldLink "TickLines$Controller" 109 "TickLines$Controller" "fourthComes" "Z", .fieldLink "TickLines$Controller" 75 "TickLines$Controller" "auto" "Z", .fieldLink "TickLines$Controller" 78 "TickLines$Controller" "nested" "Z", .fieldLink "TickLines$Controller" 103 "TickLines$Controller" "special" "Z", .fieldLink "TickLines$Controller" 106 "TickLines$Controller" "turns" "Z", .fieldLink "TickLines$Controller" 90 "TickLines$Controller" "serviceIsRead" "Z", .fieldLink "TickLines$Controller" 84 "TickLines$Controller" "polled" "Z", .laysFinal "TickLines$Controller" "TickLines$Controller" "leads" "Z", .lays "TickLines$Controller" "TickLines$Controller" "lines" "I", .lays "TickLines$Controller" "TickLines$Controller" "latches" "I", .lays "TickLines$Controller" "TickLines$Controller" "mask" "I", .lays "TickLines$Controller" "TickLines$Controller" "service" "I", .lays "TickLines$Controller" "TickLines$Controller" "base" "I", .lays "TickLines$Controller" "TickLines$Controller" "lowest" "I", .lays "TickLines$Controller" "TickLines$Controller" "ready" "Z", .lays "TickLines$Controller" "TickLines$Controller" "awaited" "I", .lays "TickLines$Controller" "TickLines$Controller" "levelMode" "Z", .lays "TickLines$Controller" "TickLines$Controller" "single" "Z", .lays "TickLines$Controller" "TickLines$Controller" "fourthComes" "Z", .lays "TickLines$Controller" "TickLines$Controller" "auto" "Z", .lays "TickLines$Controller" "TickLines$Controller" "nested" "Z", .lays "TickLines$Controller" "TickLines$Controller" "special" "Z", .lays "TickLines$Controller" "TickLines$Controller" "turns" "Z", .lays "TickLines$Controller" "TickLines$Controller" "serviceIsRead" "Z", .lays "TickLines$Controller" "TickLines$Controller" "polled" "Z", .classLink "TickLines" 21 "TickLines$Counter", .instantiable "TickLines$Counter" 14, .methodLink "TickLines" 23 yN_init, .instanceMethod yN_init, .code yN_init cN_init 1 none, .methodLink "TickLines$Counter" 3 objectInit, .fieldLink "TickLines$Counter" 9 "TickLines$Counter" "gateIsOn" "Z", .fieldLink "TickLines$Counter" 46 "TickLines$Counter" "output" "Z", .fieldLink "TickLines$Counter" 15 "TickLines$Counter" "mode" "I", .fieldLink "TickLines$Counter" 25 "TickLines$Counter" "access" "I", .fieldLink "TickLines$Counter" 28 "TickLines$Counter" "reload" "I", .fieldLink "TickLines$Counter" 53 "TickLines$Counter" "count" "I", .fieldLink "TickLines$Counter" 31 "TickLines$Counter" "runs" "Z", .fieldLink "TickLines$Counter" 34 "TickLines$Counter" "toBeLoaded" "Z", .fieldLink "TickLines$Counter" 37 "TickLines$Counter" "pending" "Z", .fieldLink "TickLines$Counter" 64 "TickLines$Counter" "lowWritten" "I", .fieldLink "TickLines$Counter" 40 "TickLines$Counter" "highIsWrittenNext" "Z", .fieldLink "TickLines$Counter" 43 "TickLines$Counter" "highIsReadNext" "Z", .fieldLink "TickLines$Counter" 19 "TickLines$Counter" "latchedCount" "I", .fieldLink "TickLines$Counter" 22 "TickLines$Counter" "latchedStatus" "I", .lays "TickLines$Counter" "TickLines$Counter" "gateIsOn" "Z", .lays "TickLines$Counter" "TickLines$Counter" "output" "Z", .lays "TickLines$Counter" "TickLines$Counter" "mode" "I", .lays "TickLines$Counter" "TickLines$Counter" "access" "I", .lays "TickLines$Counter" "TickLines$Counter" "reload" "I", .lays "TickLines$Counter" "TickLines$Counter" "count" "I", .lays "TickLines$Counter" "TickLines$Counter" "runs" "Z", .lays "TickLines$Counter" "TickLines$Counter" "toBeLoaded" "Z", .lays "TickLines$Counter" "TickLines$Counter" "pending" "Z", .lays "TickLines$Counter" "TickLines$Counter" "lowWritten" "I", .lays "TickLines$Counter" "TickLines$Counter" "highIsWrittenNext" "Z", .lays "TickLines$Counter" "TickLines$Counter" "highIsReadNext" "Z"]
def tkW_2 : List Cond := [.lays "TickLines$Counter" "TickLines$Counter" "latchedCount" "I", .lays "TickLines$Counter" "TickLines$Counter" "latchedStatus" "I", .fieldLink "TickLines" 12 "TickLines" "leader" "LTickLines$Controller;", .fieldLink "TickLines" 18 "TickLines" "follower" "LTickLines$Controller;", .fieldLink "TickLines" 24 "TickLines" "counters" "[LTickLines$Counter;", .laysFinal "TickLines" "TickLines" "leader" "LTickLines$Controller;", .laysFinal "TickLines" "TickLines" "follower" "LTickLines$Controller;", .laysFinal "TickLines" "TickLines" "counters" "[LTickLines$Counter;", .instanceMethod yT_line, .selects "TickLines" yT_line yT_line, .code yT_line cT_line 4 (some .boolean), .methodLink "TickLines" 73 yT_isController, .static yT_isController, .code yT_isController cT_isController 1 (some .boolean), .methodLink "TickLines" 49 yT_controllerOf, .instanceMethod yT_controllerOf, .code yT_controllerOf cT_controllerOf 2 (some (.object "TickLines$Controller")), .methodLink "TickLines" 76 yC_setLine, .instanceMethod yC_setLine, .selects "TickLines$Controller" yC_setLine yC_setLine, .code yC_setLine cC_setLine 4 none, .methodLink "TickLines" 59 yT_followLines, .instanceMethod yT_followLines, .code yT_followLines cT_followLines 1 none, .methodLink "TickLines" 109 yC_chosenLevel, .instanceMethod yC_chosenLevel, .selects "TickLines$Controller" yC_chosenLevel yC_chosenLevel, .code yC_chosenLevel cC_chosenLevel 6 (some .int), .methodLink "TickLines$Controller" 28 yC_requests, .instanceMethod yC_requests, .code yC_requests cC_requests 1 (some .int), .methodLink "TickLines$Controller" 35 yC_holdingLevels, .instanceMethod yC_holdingLevels, .code yC_holdingLevels cC_holdingLevels 1 (some .int), .static yT_hasBit, .code yT_hasBit cT_hasBit 2 (some .boolean), .methodLink "TickLines$Controller" 42 yC_mayNest, .instanceMethod yC_mayNest, .code yC_mayNest cC_mayNest 2 (some .boolean), .instanceMethod yT_gate, .selects "TickLines" yT_gate yT_gate, .code yT_gate cT_gate 3 (some .boolean), .methodLink "TickLines" 80 yT_isCounter, .static yT_isCounter, .code yT_isCounter cT_isCounter 1 (some .boolean), .methodLink "TickLines" 83 yN_setGate, .instanceMethod yN_setGate, .selects "TickLines$Counter" yN_setGate yN_setGate, .code yN_setGate cN_setGate 4 none, .methodLink "TickLines$Counter" 67 yN_isEmpty, .instanceMethod yN_isEmpty, .code yN_isEmpty cN_isEmpty 1 (some .boolean), .methodLink "TickLines$Counter" 70 yN_gateLoads, .instanceMethod yN_gateLoads, .code yN_gateLoads cN_gateLoads 1 (some .boolean), .methodLink "TickLines$Counter" 73 yN_isPeriodic, .instanceMethod yN_isPeriodic, .code yN_isPeriodic cN_isPeriodic 1 (some .boolean), .instanceMethod yT_chosen, .selects "TickLines" yT_chosen yT_chosen]
def tkW_3 : List Cond := [.code yT_chosen cT_chosen 2 (some .int), .instanceMethod yT_about, .selects "TickLines" yT_about yT_about, .code yT_about cT_about 3 (some .int), .methodLink "TickLines" 112 yC_tell, .instanceMethod yC_tell, .selects "TickLines$Controller" yC_tell yC_tell, .code yC_tell cC_tell 2 (some .int), .static yT_asBit, .code yT_asBit cT_asBit 1 (some .int), .instanceMethod yT_counter, .selects "TickLines" yT_counter yT_counter, .code yT_counter cT_counter 3 (some .int), .methodLink "TickLines" 115 yN_tell, .instanceMethod yN_tell, .selects "TickLines$Counter" yN_tell yN_tell, .code yN_tell cN_tell 2 (some .int), .instanceMethod yT_write, .selects "TickLines" yT_write yT_write, .code yT_write cT_write 3 none, .methodLink "TickLines" 28 yT_isPort, .static yT_isPort, .code yT_isPort cT_isPort 1 (some .boolean), .classLink "TickLines" 32 "java/lang/IllegalArgumentException", .methodLink "TickLines" 35 yT_isCounterPort, .static yT_isCounterPort, .code yT_isCounterPort cT_isCounterPort 1 (some .boolean), .methodLink "TickLines" 38 yT_counterWithMode, .instanceMethod yT_counterWithMode, .code yT_counterWithMode cT_counterWithMode 3 (some (.object "TickLines$Counter")), .methodLink "TickLines" 116 yN_hasMode, .instanceMethod yN_hasMode, .selects "TickLines$Counter" yN_hasMode yN_hasMode, .code yN_hasMode cN_hasMode 1 (some .boolean), .classLink "TickLines" 96 "java/lang/IllegalStateException", .methodLink "TickLines" 42 yN_takeByte, .instanceMethod yN_takeByte, .selects "TickLines$Counter" yN_takeByte yN_takeByte, .code yN_takeByte cN_takeByte 2 none, .methodLink "TickLines$Counter" 60 yN_takeReload, .instanceMethod yN_takeReload, .code yN_takeReload cN_takeReload 3 none, .constant "TickLines$Counter" 88 65536, .methodLink "TickLines" 46 yT_takeControl, .instanceMethod yT_takeControl, .code yT_takeControl cT_takeControl 4 none, .methodLink "TickLines" 120 yT_latchMany, .instanceMethod yT_latchMany, .code yT_latchMany cT_latchMany 3 none, .methodLink "TickLines" 130 yT_hasBit, .methodLink "TickLines" 123 yN_latchCount, .instanceMethod yN_latchCount, .selects "TickLines$Counter" yN_latchCount yN_latchCount, .code yN_latchCount cN_latchCount 1 none, .methodLink "TickLines$Counter" 49 yN_hasMode, .methodLink "TickLines" 134 yN_latchStatus, .instanceMethod yN_latchStatus, .selects "TickLines$Counter" yN_latchStatus yN_latchStatus, .code yN_latchStatus cN_latchStatus 1 none, .methodLink "TickLines" 126 yN_setMode]
def tkW_4 : List Cond := [.instanceMethod yN_setMode, .selects "TickLines$Counter" yN_setMode yN_setMode, .code yN_setMode cN_setMode 3 none, .methodLink "TickLines" 53 yC_takeSideZero, .instanceMethod yC_takeSideZero, .selects "TickLines$Controller" yC_takeSideZero yC_takeSideZero, .code yC_takeSideZero cC_takeSideZero 2 none, .methodLink "TickLines$Controller" 56 yC_beginSettingUp, .instanceMethod yC_beginSettingUp, .code yC_beginSettingUp cC_beginSettingUp 2 none, .methodLink "TickLines$Controller" 59 yC_takeReadingCommand, .instanceMethod yC_takeReadingCommand, .code yC_takeReadingCommand cC_takeReadingCommand 2 none, .methodLink "TickLines$Controller" 62 yC_takeServiceCommand, .instanceMethod yC_takeServiceCommand, .code yC_takeServiceCommand cC_takeServiceCommand 3 none, .methodLink "TickLines$Controller" 112 yC_firstHolding, .instanceMethod yC_firstHolding, .code yC_firstHolding cC_firstHolding 4 (some .int), .methodLink "TickLines$Controller" 115 yC_endService, .instanceMethod yC_endService, .code yC_endService cC_endService 2 none, .methodLink "TickLines$Controller" 118 yC_endServiceAndTurn, .instanceMethod yC_endServiceAndTurn, .code yC_endServiceAndTurn cC_endServiceAndTurn 2 none, .methodLink "TickLines" 56 yC_takeSideOne, .instanceMethod yC_takeSideOne, .selects "TickLines$Controller" yC_takeSideOne yC_takeSideOne, .code yC_takeSideOne cC_takeSideOne 2 none, .methodLink "TickLines$Controller" 72 yC_awaitFrom, .instanceMethod yC_awaitFrom, .code yC_awaitFrom cC_awaitFrom 2 none, .methodLink "TickLines$Controller" 81 yC_becomeReady, .instanceMethod yC_becomeReady, .code yC_becomeReady cC_becomeReady 1 none, .instanceMethod yT_read, .selects "TickLines" yT_read yT_read, .code yT_read cT_read 3 (some .int), .methodLink "TickLines" 62 yN_giveByte, .instanceMethod yN_giveByte, .selects "TickLines$Counter" yN_giveByte yN_giveByte, .code yN_giveByte cN_giveByte 3 (some .int), .methodLink "TickLines" 66 yC_giveSideZero, .instanceMethod yC_giveSideZero, .selects "TickLines$Controller" yC_giveSideZero yC_giveSideZero, .code yC_giveSideZero cC_giveSideZero 2 (some .int), .methodLink "TickLines$Controller" 87 yC_serveChosen, .instanceMethod yC_serveChosen, .selects "TickLines$Controller" yC_serveChosen yC_serveChosen, .code yC_serveChosen cC_serveChosen 2 (some .int), .methodLink "TickLines$Controller" 46 yC_chosenLevel, .methodLink "TickLines$Controller" 49 yC_serve, .instanceMethod yC_serve, .code yC_serve cC_serve 2 none, .instanceMethod yT_tick, .selects "TickLines" yT_tick yT_tick, .code yT_tick cT_tick 6 (some .int), .methodLink "TickLines" 90 yN_step, .instanceMethod yN_step, .selects "TickLines$Counter" yN_step yN_step]
def tkW_5 : List Cond := [.code yN_step cN_step 1 none, .methodLink "TickLines$Counter" 76 yN_standsBetweenBytes, .instanceMethod yN_standsBetweenBytes, .code yN_standsBetweenBytes cN_standsBetweenBytes 1 (some .boolean), .methodLink "TickLines$Counter" 79 yN_load, .instanceMethod yN_load, .code yN_load cN_load 1 none, .methodLink "TickLines$Counter" 89 yN_partTicks, .instanceMethod yN_partTicks, .code yN_partTicks cN_partTicks 1 (some .int), .methodLink "TickLines$Counter" 93 yN_setCount, .instanceMethod yN_setCount, .code yN_setCount cN_setCount 2 none, .constant "TickLines$Counter" 96 65535, .methodLink "TickLines$Counter" 82 yN_gateHoldsBack, .instanceMethod yN_gateHoldsBack, .code yN_gateHoldsBack cN_gateHoldsBack 1 (some .boolean), .methodLink "TickLines$Counter" 85 yN_countDown, .instanceMethod yN_countDown, .code yN_countDown cN_countDown 1 none, .methodLink "TickLines$Counter" 97 yN_stepRate, .instanceMethod yN_stepRate, .code yN_stepRate cN_stepRate 1 none, .methodLink "TickLines$Counter" 109 yN_lessen, .instanceMethod yN_lessen, .code yN_lessen cN_lessen 2 none, .methodLink "TickLines$Counter" 100 yN_stepSquare, .instanceMethod yN_stepSquare, .code yN_stepSquare cN_stepSquare 1 none, .methodLink "TickLines$Counter" 103 yN_stepStrobe, .instanceMethod yN_stepStrobe, .code yN_stepStrobe cN_stepStrobe 1 none, .methodLink "TickLines$Counter" 106 yN_stepOnce, .instanceMethod yN_stepOnce, .code yN_stepOnce cN_stepOnce 1 none, .instanceMethod yT_acknowledge, .selects "TickLines" yT_acknowledge yT_acknowledge, .code yT_acknowledge cT_acknowledge 3 (some .int), .methodLink "TickLines" 99 yC_serveChosen, .methodLink "TickLines" 105 yC_vectorOf, .instanceMethod yC_vectorOf, .selects "TickLines$Controller" yC_vectorOf yC_vectorOf, .code yC_vectorOf cC_vectorOf 2 (some .int)]
def tkW_x : List Cond := (vx_at0 "TickLines" 34 "java/lang/IllegalArgumentException" ["java/lang/RuntimeException", "java/lang/Exception"]).filter goodWord ++ (vx_at0 "TickLines" 98 "java/lang/IllegalStateException" ["java/lang/RuntimeException", "java/lang/Exception"]).filter goodWord
def tkW : List Cond := tkW_0 ++ (tkW_1 ++ (tkW_2 ++ (tkW_3 ++ (tkW_4 ++ (tkW_5 ++ tkW_x)))))
theorem wS_T_controllerOf : Cond.selects "TickLines" yT_controllerOf yT_controllerOf ∈ tkW := (List.mem_append_left _ (List.mem_of_getElem? (i := 0) rfl))
theorem wS_T_followLines : Cond.selects "TickLines" yT_followLines yT_followLines ∈ tkW := (List.mem_append_left _ (List.mem_of_getElem? (i := 1) rfl))
theorem wS_C_requests : Cond.selects "TickLines$Controller" yC_requests yC_requests ∈ tkW := (List.mem_append_left _ (List.mem_of_getElem? (i := 2) rfl))
theorem wS_C_holdingLevels : Cond.selects "TickLines$Controller" yC_holdingLevels yC_holdingLevels ∈ tkW := (List.mem_append_left _ (List.mem_of_getElem? (i := 3) rfl))
theorem wS_C_mayNest : Cond.selects "TickLines$Controller" yC_mayNest yC_mayNest ∈ tkW := (List.mem_append_left _ (List.mem_of_getElem? (i := 4) rfl))
theorem wS_N_isEmpty : Cond.selects "TickLines$Counter" yN_isEmpty yN_isEmpty ∈ tkW := (List.mem_append_left _ (List.mem_of_getElem? (i := 5) rfl))
theorem wS_N_gateLoads : Cond.selects "TickLines$Counter" yN_gateLoads yN_gateLoads ∈ tkW := (List.mem_append_left _ (List.mem_of_getElem? (i := 6) rfl))
theorem wS_N_isPeriodic : Cond.selects "TickLines$Counter" yN_isPeriodic yN_isPeriodic ∈ tkW := (List.mem_append_left _ (List.mem_of_getElem? (i := 7) rfl))
theorem wS_T_counterWithMode : Cond.selects "TickLines" yT_counterWithMode yT_counterWithMode ∈ tkW := (List.mem_append_left _ (List.mem_of_getElem? (i := 8) rfl))
theorem wS_N_takeReload : Cond.selects "TickLines$Counter" yN_takeReload yN_takeReload ∈ tkW := (List.mem_append_left _ (List.mem_of_getElem? (i := 9) rfl))
theorem wS_T_takeControl : Cond.selects "TickLines" yT_takeControl yT_takeControl ∈ tkW := (List.mem_append_left _ (List.mem_of_getElem? (i := 10) rfl))
theorem wS_T_latchMany : Cond.selects "TickLines" yT_latchMany yT_latchMany ∈ tkW := (List.mem_append_left _ (List.mem_of_getElem? (i := 11) rfl))
theorem wS_C_beginSettingUp : Cond.selects "TickLines$Controller" yC_beginSettingUp yC_beginSettingUp ∈ tkW := (List.mem_append_left _ (List.mem_of_getElem? (i := 12) rfl))
theorem wS_C_takeReadingCommand : Cond.selects "TickLines$Controller" yC_takeReadingCommand yC_takeReadingCommand ∈ tkW := (List.mem_append_left _ (List.mem_of_getElem? (i := 13) rfl))
theorem wS_C_takeServiceCommand : Cond.selects "TickLines$Controller" yC_takeServiceCommand yC_takeServiceCommand ∈ tkW := (List.mem_append_left _ (List.mem_of_getElem? (i := 14) rfl))
theorem wS_C_firstHolding : Cond.selects "TickLines$Controller" yC_firstHolding yC_firstHolding ∈ tkW := (List.mem_append_left _ (List.mem_of_getElem? (i := 15) rfl))
theorem wS_C_endService : Cond.selects "TickLines$Controller" yC_endService yC_endService ∈ tkW := (List.mem_append_left _ (List.mem_of_getElem? (i := 16) rfl))
theorem wS_C_endServiceAndTurn : Cond.selects "TickLines$Controller" yC_endServiceAndTurn yC_endServiceAndTurn ∈ tkW := (List.mem_append_left _ (List.mem_of_getElem? (i := 17) rfl))
theorem wS_C_awaitFrom : Cond.selects "TickLines$Controller" yC_awaitFrom yC_awaitFrom ∈ tkW := (List.mem_append_left _ (List.mem_of_getElem? (i := 18) rfl))
theorem wS_C_becomeReady : Cond.selects "TickLines$Controller" yC_becomeReady yC_becomeReady ∈ tkW := (List.mem_append_left _ (List.mem_of_getElem? (i := 19) rfl))
theorem wS_C_serve : Cond.selects "TickLines$Controller" yC_serve yC_serve ∈ tkW := (List.mem_append_left _ (List.mem_of_getElem? (i := 20) rfl))
theorem wS_N_standsBetweenBytes : Cond.selects "TickLines$Counter" yN_standsBetweenBytes yN_standsBetweenBytes ∈ tkW := (List.mem_append_left _ (List.mem_of_getElem? (i := 21) rfl))
theorem wS_N_load : Cond.selects "TickLines$Counter" yN_load yN_load ∈ tkW := (List.mem_append_left _ (List.mem_of_getElem? (i := 22) rfl))
theorem wS_N_partTicks : Cond.selects "TickLines$Counter" yN_partTicks yN_partTicks ∈ tkW := (List.mem_append_left _ (List.mem_of_getElem? (i := 23) rfl))
theorem wS_N_setCount : Cond.selects "TickLines$Counter" yN_setCount yN_setCount ∈ tkW := (List.mem_append_left _ (List.mem_of_getElem? (i := 24) rfl))
theorem wS_N_gateHoldsBack : Cond.selects "TickLines$Counter" yN_gateHoldsBack yN_gateHoldsBack ∈ tkW := (List.mem_append_left _ (List.mem_of_getElem? (i := 25) rfl))
theorem wS_N_countDown : Cond.selects "TickLines$Counter" yN_countDown yN_countDown ∈ tkW := (List.mem_append_left _ (List.mem_of_getElem? (i := 26) rfl))
theorem wS_N_stepRate : Cond.selects "TickLines$Counter" yN_stepRate yN_stepRate ∈ tkW := (List.mem_append_left _ (List.mem_of_getElem? (i := 27) rfl))
theorem wS_N_lessen : Cond.selects "TickLines$Counter" yN_lessen yN_lessen ∈ tkW := (List.mem_append_left _ (List.mem_of_getElem? (i := 28) rfl))
theorem wS_N_stepSquare : Cond.selects "TickLines$Counter" yN_stepSquare yN_stepSquare ∈ tkW := (List.mem_append_left _ (List.mem_of_getElem? (i := 29) rfl))
theorem wS_N_stepStrobe : Cond.selects "TickLines$Counter" yN_stepStrobe yN_stepStrobe ∈ tkW := (List.mem_append_left _ (List.mem_of_getElem? (i := 30) rfl))
theorem wS_N_stepOnce : Cond.selects "TickLines$Counter" yN_stepOnce yN_stepOnce ∈ tkW := (List.mem_append_left _ (List.mem_of_getElem? (i := 31) rfl))
theorem wZ_T : Cond.initialized "TickLines" ∈ tkW := (List.mem_append_left _ (List.mem_of_getElem? (i := 32) rfl))
theorem wZ_C : Cond.initialized "TickLines$Controller" ∈ tkW := (List.mem_append_left _ (List.mem_of_getElem? (i := 33) rfl))
theorem wZ_N : Cond.initialized "TickLines$Counter" ∈ tkW := (List.mem_append_left _ (List.mem_of_getElem? (i := 34) rfl))
theorem wZ_Throwable : Cond.initialized "java/lang/Throwable" ∈ tkW := (List.mem_append_left _ (List.mem_of_getElem? (i := 35) rfl))
theorem wZ_Exception : Cond.initialized "java/lang/Exception" ∈ tkW := (List.mem_append_left _ (List.mem_of_getElem? (i := 36) rfl))
theorem wZ_RuntimeException : Cond.initialized "java/lang/RuntimeException" ∈ tkW := (List.mem_append_left _ (List.mem_of_getElem? (i := 37) rfl))
theorem wZ_IllegalArgumentException : Cond.initialized "java/lang/IllegalArgumentException" ∈ tkW := (List.mem_append_left _ (List.mem_of_getElem? (i := 38) rfl))
theorem wZ_IllegalStateException : Cond.initialized "java/lang/IllegalStateException" ∈ tkW := (List.mem_append_left _ (List.mem_of_getElem? (i := 39) rfl))
theorem wN_T : Cond.instantiable "TickLines" 3 ∈ tkW := (List.mem_append_left _ (List.mem_of_getElem? (i := 40) rfl))
theorem wI_T_init : Cond.instanceMethod yT_init ∈ tkW := (List.mem_append_left _ (List.mem_of_getElem? (i := 41) rfl))
theorem wC_T_init : Cond.code yT_init cT_init 1 none ∈ tkW := (List.mem_append_left _ (List.mem_of_getElem? (i := 42) rfl))
theorem wM_T_1 : Cond.methodLink "TickLines" 1 objectInit ∈ tkW := (List.mem_append_left _ (List.mem_of_getElem? (i := 43) rfl))
theorem wI_obj : Cond.instanceMethod objectInit ∈ tkW := (List.mem_append_left _ (List.mem_of_getElem? (i := 44) rfl))
theorem wC_obj : Cond.code objectInit ⟨#[0xb1]⟩ 1 none ∈ tkW := (List.mem_append_left _ (List.mem_of_getElem? (i := 45) rfl))
theorem wL_T_7 : Cond.classLink "TickLines" 7 "TickLines$Controller" ∈ tkW := (List.mem_append_left _ (List.mem_of_getElem? (i := 46) rfl))
theorem wN_C : Cond.instantiable "TickLines$Controller" 18 ∈ tkW := (List.mem_append_left _ (List.mem_of_getElem? (i := 47) rfl))
theorem wM_T_9 : Cond.methodLink "TickLines" 9 yC_init ∈ tkW := (List.mem_append_left _ (List.mem_of_getElem? (i := 48) rfl))
theorem wI_C_init : Cond.instanceMethod yC_init ∈ tkW := (List.mem_append_left _ (List.mem_of_getElem? (i := 49) rfl))
theorem wC_C_init : Cond.code yC_init cC_init 2 none ∈ tkW := (List.mem_append_left _ (List.mem_of_getElem? (i := 50) rfl))
theorem wM_C_3 : Cond.methodLink "TickLines$Controller" 3 objectInit ∈ tkW := (List.mem_append_left _ (List.mem_of_getElem? (i := 51) rfl))
theorem wF_C_9 : Cond.fieldLink "TickLines$Controller" 9 "TickLines$Controller" "leads" "Z" ∈ tkW := (List.mem_append_left _ (List.mem_of_getElem? (i := 52) rfl))
theorem wF_C_22 : Cond.fieldLink "TickLines$Controller" 22 "TickLines$Controller" "lines" "I" ∈ tkW := (List.mem_append_left _ (List.mem_of_getElem? (i := 53) rfl))
theorem wF_C_19 : Cond.fieldLink "TickLines$Controller" 19 "TickLines$Controller" "latches" "I" ∈ tkW := (List.mem_append_left _ (List.mem_of_getElem? (i := 54) rfl))
theorem wF_C_32 : Cond.fieldLink "TickLines$Controller" 32 "TickLines$Controller" "mask" "I" ∈ tkW := (List.mem_append_left _ (List.mem_of_getElem? (i := 55) rfl))
theorem wF_C_93 : Cond.fieldLink "TickLines$Controller" 93 "TickLines$Controller" "service" "I" ∈ tkW := (List.mem_append_left _ (List.mem_of_getElem? (i := 56) rfl))
theorem wF_C_53 : Cond.fieldLink "TickLines$Controller" 53 "TickLines$Controller" "base" "I" ∈ tkW := (List.mem_append_left _ (List.mem_of_getElem? (i := 57) rfl))
theorem wF_C_15 : Cond.fieldLink "TickLines$Controller" 15 "TickLines$Controller" "lowest" "I" ∈ tkW := (List.mem_append_left _ (List.mem_of_getElem? (i := 58) rfl))
theorem wF_C_25 : Cond.fieldLink "TickLines$Controller" 25 "TickLines$Controller" "ready" "Z" ∈ tkW := (List.mem_append_left _ (List.mem_of_getElem? (i := 59) rfl))
theorem wF_C_66 : Cond.fieldLink "TickLines$Controller" 66 "TickLines$Controller" "awaited" "I" ∈ tkW := (List.mem_append_right _ (List.mem_append_left _ (List.mem_of_getElem? (i := 0) rfl)))
theorem wF_C_100 : Cond.fieldLink "TickLines$Controller" 100 "TickLines$Controller" "levelMode" "Z" ∈ tkW := (List.mem_append_right _ (List.mem_append_left _ (List.mem_of_getElem? (i := 1) rfl)))
theorem wF_C_69 : Cond.fieldLink "TickLines$Controller" 69 "TickLines$Controller" "single" "Z" ∈ tkW := (List.mem_append_right _ (List.mem_append_left _ (List.mem_of_getElem? (i := 2) rfl)))
theorem wF_C_109 : Cond.fieldLink "TickLines$Controller" 109 "TickLines$Controller" "fourthComes" "Z" ∈ tkW := (List.mem_append_right _ (List.mem_append_left _ (List.mem_of_getElem? (i := 3) rfl)))
theorem wF_C_75 : Cond.fieldLink "TickLines$Controller" 75 "TickLines$Controller" "auto" "Z" ∈ tkW := (List.mem_append_right _ (List.mem_append_left _ (List.mem_of_getElem? (i := 4) rfl)))
theorem wF_C_78 : Cond.fieldLink "TickLines$Controller" 78 "TickLines$Controller" "nested" "Z" ∈ tkW := (List.mem_append_right _ (List.mem_append_left _ (List.mem_of_getElem? (i := 5) rfl)))
theorem wF_C_103 : Cond.fieldLink "TickLines$Controller" 103 "TickLines$Controller" "special" "Z" ∈ tkW := (List.mem_append_right _ (List.mem_append_left _ (List.mem_of_getElem? (i := 6) rfl)))
theorem wF_C_106 : Cond.fieldLink "TickLines$Controller" 106 "TickLines$Controller" "turns" "Z" ∈ tkW := (List.mem_append_right _ (List.mem_append_left _ (List.mem_of_getElem? (i := 7) rfl)))
theorem wF_C_90 : Cond.fieldLink "TickLines$Controller" 90 "TickLines$Controller" "serviceIsRead" "Z" ∈ tkW := (List.mem_append_right _ (List.mem_append_left _ (List.mem_of_getElem? (i := 8) rfl)))
theorem wF_C_84 : Cond.fieldLink "TickLines$Controller" 84 "TickLines$Controller" "polled" "Z" ∈ tkW := (List.mem_append_right _ (List.mem_append_left _ (List.mem_of_getElem? (i := 9) rfl)))
theorem wY_C_leads : Cond.laysFinal "TickLines$Controller" "TickLines$Controller" "leads" "Z" ∈ tkW := (List.mem_append_right _ (List.mem_append_left _ (List.mem_of_getElem? (i := 10) rfl)))
theorem wY_C_lines : Cond.lays "TickLines$Controller" "TickLines$Controller" "lines" "I" ∈ tkW := (List.mem_append_right _ (List.mem_append_left _ (List.mem_of_getElem? (i := 11) rfl)))
theorem wY_C_latches : Cond.lays "TickLines$Controller" "TickLines$Controller" "latches" "I" ∈ tkW := (List.mem_append_right _ (List.mem_append_left _ (List.mem_of_getElem? (i := 12) rfl)))
theorem wY_C_mask : Cond.lays "TickLines$Controller" "TickLines$Controller" "mask" "I" ∈ tkW := (List.mem_append_right _ (List.mem_append_left _ (List.mem_of_getElem? (i := 13) rfl)))
theorem wY_C_service : Cond.lays "TickLines$Controller" "TickLines$Controller" "service" "I" ∈ tkW := (List.mem_append_right _ (List.mem_append_left _ (List.mem_of_getElem? (i := 14) rfl)))
theorem wY_C_base : Cond.lays "TickLines$Controller" "TickLines$Controller" "base" "I" ∈ tkW := (List.mem_append_right _ (List.mem_append_left _ (List.mem_of_getElem? (i := 15) rfl)))
theorem wY_C_lowest : Cond.lays "TickLines$Controller" "TickLines$Controller" "lowest" "I" ∈ tkW := (List.mem_append_right _ (List.mem_append_left _ (List.mem_of_getElem? (i := 16) rfl)))
theorem wY_C_ready : Cond.lays "TickLines$Controller" "TickLines$Controller" "ready" "Z" ∈ tkW := (List.mem_append_right _ (List.mem_append_left _ (List.mem_of_getElem? (i := 17) rfl)))
theorem wY_C_awaited : Cond.lays "TickLines$Controller" "TickLines$Controller" "awaited" "I" ∈ tkW := (List.mem_append_right _ (List.mem_append_left _ (List.mem_of_getElem? (i := 18) rfl)))
theorem wY_C_levelMode : Cond.lays "TickLines$Controller" "TickLines$Controller" "levelMode" "Z" ∈ tkW := (List.mem_append_right _ (List.mem_append_left _ (List.mem_of_getElem? (i := 19) rfl)))
theorem wY_C_single : Cond.lays "TickLines$Controller" "TickLines$Controller" "single" "Z" ∈ tkW := (List.mem_append_right _ (List.mem_append_left _ (List.mem_of_getElem? (i := 20) rfl)))
theorem wY_C_fourthComes : Cond.lays "TickLines$Controller" "TickLines$Controller" "fourthComes" "Z" ∈ tkW := (List.mem_append_right _ (List.mem_append_left _ (List.mem_of_getElem? (i := 21) rfl)))
theorem wY_C_auto : Cond.lays "TickLines$Controller" "TickLines$Controller" "auto" "Z" ∈ tkW := (List.mem_append_right _ (List.mem_append_left _ (List.mem_of_getElem? (i := 22) rfl)))
theorem wY_C_nested : Cond.lays "TickLines$Controller" "TickLines$Controller" "nested" "Z" ∈ tkW := (List.mem_append_right _ (List.mem_append_left _ (List.mem_of_getElem? (i := 23) rfl)))
theorem wY_C_special : Cond.lays "TickLines$Controller" "TickLines$Controller" "special" "Z" ∈ tkW := (List.mem_append_right _ (List.mem_append_left _ (List.mem_of_getElem? (i := 24) rfl)))
theorem wY_C_turns : Cond.lays "TickLines$Controller" "TickLines$Controller" "turns" "Z" ∈ tkW := (List.mem_append_right _ (List.mem_append_left _ (List.mem_of_getElem? (i := 25) rfl)))
theorem wY_C_serviceIsRead : Cond.lays "TickLines$Controller" "TickLines$Controller" "serviceIsRead" "Z" ∈ tkW := (List.mem_append_right _ (List.mem_append_left _ (List.mem_of_getElem? (i := 26) rfl)))
theorem wY_C_polled : Cond.lays "TickLines$Controller" "TickLines$Controller" "polled" "Z" ∈ tkW := (List.mem_append_right _ (List.mem_append_left _ (List.mem_of_getElem? (i := 27) rfl)))
theorem wL_T_21 : Cond.classLink "TickLines" 21 "TickLines$Counter" ∈ tkW := (List.mem_append_right _ (List.mem_append_left _ (List.mem_of_getElem? (i := 28) rfl)))
theorem wN_N : Cond.instantiable "TickLines$Counter" 14 ∈ tkW := (List.mem_append_right _ (List.mem_append_left _ (List.mem_of_getElem? (i := 29) rfl)))
theorem wM_T_23 : Cond.methodLink "TickLines" 23 yN_init ∈ tkW := (List.mem_append_right _ (List.mem_append_left _ (List.mem_of_getElem? (i := 30) rfl)))
theorem wI_N_init : Cond.instanceMethod yN_init ∈ tkW := (List.mem_append_right _ (List.mem_append_left _ (List.mem_of_getElem? (i := 31) rfl)))
theorem wC_N_init : Cond.code yN_init cN_init 1 none ∈ tkW := (List.mem_append_right _ (List.mem_append_left _ (List.mem_of_getElem? (i := 32) rfl)))
theorem wM_N_3 : Cond.methodLink "TickLines$Counter" 3 objectInit ∈ tkW := (List.mem_append_right _ (List.mem_append_left _ (List.mem_of_getElem? (i := 33) rfl)))
theorem wF_N_9 : Cond.fieldLink "TickLines$Counter" 9 "TickLines$Counter" "gateIsOn" "Z" ∈ tkW := (List.mem_append_right _ (List.mem_append_left _ (List.mem_of_getElem? (i := 34) rfl)))
theorem wF_N_46 : Cond.fieldLink "TickLines$Counter" 46 "TickLines$Counter" "output" "Z" ∈ tkW := (List.mem_append_right _ (List.mem_append_left _ (List.mem_of_getElem? (i := 35) rfl)))
theorem wF_N_15 : Cond.fieldLink "TickLines$Counter" 15 "TickLines$Counter" "mode" "I" ∈ tkW := (List.mem_append_right _ (List.mem_append_left _ (List.mem_of_getElem? (i := 36) rfl)))
theorem wF_N_25 : Cond.fieldLink "TickLines$Counter" 25 "TickLines$Counter" "access" "I" ∈ tkW := (List.mem_append_right _ (List.mem_append_left _ (List.mem_of_getElem? (i := 37) rfl)))
theorem wF_N_28 : Cond.fieldLink "TickLines$Counter" 28 "TickLines$Counter" "reload" "I" ∈ tkW := (List.mem_append_right _ (List.mem_append_left _ (List.mem_of_getElem? (i := 38) rfl)))
theorem wF_N_53 : Cond.fieldLink "TickLines$Counter" 53 "TickLines$Counter" "count" "I" ∈ tkW := (List.mem_append_right _ (List.mem_append_left _ (List.mem_of_getElem? (i := 39) rfl)))
theorem wF_N_31 : Cond.fieldLink "TickLines$Counter" 31 "TickLines$Counter" "runs" "Z" ∈ tkW := (List.mem_append_right _ (List.mem_append_left _ (List.mem_of_getElem? (i := 40) rfl)))
theorem wF_N_34 : Cond.fieldLink "TickLines$Counter" 34 "TickLines$Counter" "toBeLoaded" "Z" ∈ tkW := (List.mem_append_right _ (List.mem_append_left _ (List.mem_of_getElem? (i := 41) rfl)))
theorem wF_N_37 : Cond.fieldLink "TickLines$Counter" 37 "TickLines$Counter" "pending" "Z" ∈ tkW := (List.mem_append_right _ (List.mem_append_left _ (List.mem_of_getElem? (i := 42) rfl)))
theorem wF_N_64 : Cond.fieldLink "TickLines$Counter" 64 "TickLines$Counter" "lowWritten" "I" ∈ tkW := (List.mem_append_right _ (List.mem_append_left _ (List.mem_of_getElem? (i := 43) rfl)))
theorem wF_N_40 : Cond.fieldLink "TickLines$Counter" 40 "TickLines$Counter" "highIsWrittenNext" "Z" ∈ tkW := (List.mem_append_right _ (List.mem_append_left _ (List.mem_of_getElem? (i := 44) rfl)))
theorem wF_N_43 : Cond.fieldLink "TickLines$Counter" 43 "TickLines$Counter" "highIsReadNext" "Z" ∈ tkW := (List.mem_append_right _ (List.mem_append_left _ (List.mem_of_getElem? (i := 45) rfl)))
theorem wF_N_19 : Cond.fieldLink "TickLines$Counter" 19 "TickLines$Counter" "latchedCount" "I" ∈ tkW := (List.mem_append_right _ (List.mem_append_left _ (List.mem_of_getElem? (i := 46) rfl)))
theorem wF_N_22 : Cond.fieldLink "TickLines$Counter" 22 "TickLines$Counter" "latchedStatus" "I" ∈ tkW := (List.mem_append_right _ (List.mem_append_left _ (List.mem_of_getElem? (i := 47) rfl)))
theorem wY_N_gateIsOn : Cond.lays "TickLines$Counter" "TickLines$Counter" "gateIsOn" "Z" ∈ tkW := (List.mem_append_right _ (List.mem_append_left _ (List.mem_of_getElem? (i := 48) rfl)))
theorem wY_N_output : Cond.lays "TickLines$Counter" "TickLines$Counter" "output" "Z" ∈ tkW := (List.mem_append_right _ (List.mem_append_left _ (List.mem_of_getElem? (i := 49) rfl)))
theorem wY_N_mode : Cond.lays "TickLines$Counter" "TickLines$Counter" "mode" "I" ∈ tkW := (List.mem_append_right _ (List.mem_append_left _ (List.mem_of_getElem? (i := 50) rfl)))
theorem wY_N_access : Cond.lays "TickLines$Counter" "TickLines$Counter" "access" "I" ∈ tkW := (List.mem_append_right _ (List.mem_append_left _ (List.mem_of_getElem? (i := 51) rfl)))
theorem wY_N_reload : Cond.lays "TickLines$Counter" "TickLines$Counter" "reload" "I" ∈ tkW := (List.mem_append_right _ (List.mem_append_left _ (List.mem_of_getElem? (i := 52) rfl)))
theorem wY_N_count : Cond.lays "TickLines$Counter" "TickLines$Counter" "count" "I" ∈ tkW := (List.mem_append_right _ (List.mem_append_left _ (List.mem_of_getElem? (i := 53) rfl)))
theorem wY_N_runs : Cond.lays "TickLines$Counter" "TickLines$Counter" "runs" "Z" ∈ tkW := (List.mem_append_right _ (List.mem_append_left _ (List.mem_of_getElem? (i := 54) rfl)))
theorem wY_N_toBeLoaded : Cond.lays "TickLines$Counter" "TickLines$Counter" "toBeLoaded" "Z" ∈ tkW := (List.mem_append_right _ (List.mem_append_left _ (List.mem_of_getElem? (i := 55) rfl)))
theorem wY_N_pending : Cond.lays "TickLines$Counter" "TickLines$Counter" "pending" "Z" ∈ tkW := (List.mem_append_right _ (List.mem_append_left _ (List.mem_of_getElem? (i := 56) rfl)))
theorem wY_N_lowWritten : Cond.lays "TickLines$Counter" "TickLines$Counter" "lowWritten" "I" ∈ tkW := (List.mem_append_right _ (List.mem_append_left _ (List.mem_of_getElem? (i := 57) rfl)))
theorem wY_N_highIsWrittenNext : Cond.lays "TickLines$Counter" "TickLines$Counter" "highIsWrittenNext" "Z" ∈ tkW := (List.mem_append_right _ (List.mem_append_left _ (List.mem_of_getElem? (i := 58) rfl)))
theorem wY_N_highIsReadNext : Cond.lays "TickLines$Counter" "TickLines$Counter" "highIsReadNext" "Z" ∈ tkW := (List.mem_append_right _ (List.mem_append_left _ (List.mem_of_getElem? (i := 59) rfl)))
theorem wY_N_latchedCount : Cond.lays "TickLines$Counter" "TickLines$Counter" "latchedCount" "I" ∈ tkW := (List.mem_append_right _ (List.mem_append_right _ (List.mem_append_left _ (List.mem_of_getElem? (i := 0) rfl))))
theorem wY_N_latchedStatus : Cond.lays "TickLines$Counter" "TickLines$Counter" "latchedStatus" "I" ∈ tkW := (List.mem_append_right _ (List.mem_append_right _ (List.mem_append_left _ (List.mem_of_getElem? (i := 1) rfl))))
theorem wF_T_12 : Cond.fieldLink "TickLines" 12 "TickLines" "leader" "LTickLines$Controller;" ∈ tkW := (List.mem_append_right _ (List.mem_append_right _ (List.mem_append_left _ (List.mem_of_getElem? (i := 2) rfl))))
theorem wF_T_18 : Cond.fieldLink "TickLines" 18 "TickLines" "follower" "LTickLines$Controller;" ∈ tkW := (List.mem_append_right _ (List.mem_append_right _ (List.mem_append_left _ (List.mem_of_getElem? (i := 3) rfl))))
theorem wF_T_24 : Cond.fieldLink "TickLines" 24 "TickLines" "counters" "[LTickLines$Counter;" ∈ tkW := (List.mem_append_right _ (List.mem_append_right _ (List.mem_append_left _ (List.mem_of_getElem? (i := 4) rfl))))
theorem wY_T_leader : Cond.laysFinal "TickLines" "TickLines" "leader" "LTickLines$Controller;" ∈ tkW := (List.mem_append_right _ (List.mem_append_right _ (List.mem_append_left _ (List.mem_of_getElem? (i := 5) rfl))))
theorem wY_T_follower : Cond.laysFinal "TickLines" "TickLines" "follower" "LTickLines$Controller;" ∈ tkW := (List.mem_append_right _ (List.mem_append_right _ (List.mem_append_left _ (List.mem_of_getElem? (i := 6) rfl))))
theorem wY_T_counters : Cond.laysFinal "TickLines" "TickLines" "counters" "[LTickLines$Counter;" ∈ tkW := (List.mem_append_right _ (List.mem_append_right _ (List.mem_append_left _ (List.mem_of_getElem? (i := 7) rfl))))
theorem wI_T_line : Cond.instanceMethod yT_line ∈ tkW := (List.mem_append_right _ (List.mem_append_right _ (List.mem_append_left _ (List.mem_of_getElem? (i := 8) rfl))))
theorem wS_T_line : Cond.selects "TickLines" yT_line yT_line ∈ tkW := (List.mem_append_right _ (List.mem_append_right _ (List.mem_append_left _ (List.mem_of_getElem? (i := 9) rfl))))
theorem wC_T_line : Cond.code yT_line cT_line 4 (some .boolean) ∈ tkW := (List.mem_append_right _ (List.mem_append_right _ (List.mem_append_left _ (List.mem_of_getElem? (i := 10) rfl))))
theorem wM_T_73 : Cond.methodLink "TickLines" 73 yT_isController ∈ tkW := (List.mem_append_right _ (List.mem_append_right _ (List.mem_append_left _ (List.mem_of_getElem? (i := 11) rfl))))
theorem wT_T_isController : Cond.static yT_isController ∈ tkW := (List.mem_append_right _ (List.mem_append_right _ (List.mem_append_left _ (List.mem_of_getElem? (i := 12) rfl))))
theorem wC_T_isController : Cond.code yT_isController cT_isController 1 (some .boolean) ∈ tkW := (List.mem_append_right _ (List.mem_append_right _ (List.mem_append_left _ (List.mem_of_getElem? (i := 13) rfl))))
theorem wM_T_49 : Cond.methodLink "TickLines" 49 yT_controllerOf ∈ tkW := (List.mem_append_right _ (List.mem_append_right _ (List.mem_append_left _ (List.mem_of_getElem? (i := 14) rfl))))
theorem wI_T_controllerOf : Cond.instanceMethod yT_controllerOf ∈ tkW := (List.mem_append_right _ (List.mem_append_right _ (List.mem_append_left _ (List.mem_of_getElem? (i := 15) rfl))))
theorem wC_T_controllerOf : Cond.code yT_controllerOf cT_controllerOf 2 (some (.object "TickLines$Controller")) ∈ tkW := (List.mem_append_right _ (List.mem_append_right _ (List.mem_append_left _ (List.mem_of_getElem? (i := 16) rfl))))
theorem wM_T_76 : Cond.methodLink "TickLines" 76 yC_setLine ∈ tkW := (List.mem_append_right _ (List.mem_append_right _ (List.mem_append_left _ (List.mem_of_getElem? (i := 17) rfl))))
theorem wI_C_setLine : Cond.instanceMethod yC_setLine ∈ tkW := (List.mem_append_right _ (List.mem_append_right _ (List.mem_append_left _ (List.mem_of_getElem? (i := 18) rfl))))
theorem wS_C_setLine : Cond.selects "TickLines$Controller" yC_setLine yC_setLine ∈ tkW := (List.mem_append_right _ (List.mem_append_right _ (List.mem_append_left _ (List.mem_of_getElem? (i := 19) rfl))))
theorem wC_C_setLine : Cond.code yC_setLine cC_setLine 4 none ∈ tkW := (List.mem_append_right _ (List.mem_append_right _ (List.mem_append_left _ (List.mem_of_getElem? (i := 20) rfl))))
theorem wM_T_59 : Cond.methodLink "TickLines" 59 yT_followLines ∈ tkW := (List.mem_append_right _ (List.mem_append_right _ (List.mem_append_left _ (List.mem_of_getElem? (i := 21) rfl))))
theorem wI_T_followLines : Cond.instanceMethod yT_followLines ∈ tkW := (List.mem_append_right _ (List.mem_append_right _ (List.mem_append_left _ (List.mem_of_getElem? (i := 22) rfl))))
theorem wC_T_followLines : Cond.code yT_followLines cT_followLines 1 none ∈ tkW := (List.mem_append_right _ (List.mem_append_right _ (List.mem_append_left _ (List.mem_of_getElem? (i := 23) rfl))))
theorem wM_T_109 : Cond.methodLink "TickLines" 109 yC_chosenLevel ∈ tkW := (List.mem_append_right _ (List.mem_append_right _ (List.mem_append_left _ (List.mem_of_getElem? (i := 24) rfl))))
theorem wI_C_chosenLevel : Cond.instanceMethod yC_chosenLevel ∈ tkW := (List.mem_append_right _ (List.mem_append_right _ (List.mem_append_left _ (List.mem_of_getElem? (i := 25) rfl))))
theorem wS_C_chosenLevel : Cond.selects "TickLines$Controller" yC_chosenLevel yC_chosenLevel ∈ tkW := (List.mem_append_right _ (List.mem_append_right _ (List.mem_append_left _ (List.mem_of_getElem? (i := 26) rfl))))
theorem wC_C_chosenLevel : Cond.code yC_chosenLevel cC_chosenLevel 6 (some .int) ∈ tkW := (List.mem_append_right _ (List.mem_append_right _ (List.mem_append_left _ (List.mem_of_getElem? (i := 27) rfl))))
theorem wM_C_28 : Cond.methodLink "TickLines$Controller" 28 yC_requests ∈ tkW := (List.mem_append_right _ (List.mem_append_right _ (List.mem_append_left _ (List.mem_of_getElem? (i := 28) rfl))))
theorem wI_C_requests : Cond.instanceMethod yC_requests ∈ tkW := (List.mem_append_right _ (List.mem_append_right _ (List.mem_append_left _ (List.mem_of_getElem? (i := 29) rfl))))
theorem wC_C_requests : Cond.code yC_requests cC_requests 1 (some .int) ∈ tkW := (List.mem_append_right _ (List.mem_append_right _ (List.mem_append_left _ (List.mem_of_getElem? (i := 30) rfl))))
theorem wM_C_35 : Cond.methodLink "TickLines$Controller" 35 yC_holdingLevels ∈ tkW := (List.mem_append_right _ (List.mem_append_right _ (List.mem_append_left _ (List.mem_of_getElem? (i := 31) rfl))))
theorem wI_C_holdingLevels : Cond.instanceMethod yC_holdingLevels ∈ tkW := (List.mem_append_right _ (List.mem_append_right _ (List.mem_append_left _ (List.mem_of_getElem? (i := 32) rfl))))
theorem wC_C_holdingLevels : Cond.code yC_holdingLevels cC_holdingLevels 1 (some .int) ∈ tkW := (List.mem_append_right _ (List.mem_append_right _ (List.mem_append_left _ (List.mem_of_getElem? (i := 33) rfl))))
theorem wT_T_hasBit : Cond.static yT_hasBit ∈ tkW := (List.mem_append_right _ (List.mem_append_right _ (List.mem_append_left _ (List.mem_of_getElem? (i := 34) rfl))))
theorem wC_T_hasBit : Cond.code yT_hasBit cT_hasBit 2 (some .boolean) ∈ tkW := (List.mem_append_right _ (List.mem_append_right _ (List.mem_append_left _ (List.mem_of_getElem? (i := 35) rfl))))
theorem wM_C_42 : Cond.methodLink "TickLines$Controller" 42 yC_mayNest ∈ tkW := (List.mem_append_right _ (List.mem_append_right _ (List.mem_append_left _ (List.mem_of_getElem? (i := 36) rfl))))
theorem wI_C_mayNest : Cond.instanceMethod yC_mayNest ∈ tkW := (List.mem_append_right _ (List.mem_append_right _ (List.mem_append_left _ (List.mem_of_getElem? (i := 37) rfl))))
theorem wC_C_mayNest : Cond.code yC_mayNest cC_mayNest 2 (some .boolean) ∈ tkW := (List.mem_append_right _ (List.mem_append_right _ (List.mem_append_left _ (List.mem_of_getElem? (i := 38) rfl))))
theorem wI_T_gate : Cond.instanceMethod yT_gate ∈ tkW := (List.mem_append_right _ (List.mem_append_right _ (List.mem_append_left _ (List.mem_of_getElem? (i := 39) rfl))))
theorem wS_T_gate : Cond.selects "TickLines" yT_gate yT_gate ∈ tkW := (List.mem_append_right _ (List.mem_append_right _ (List.mem_append_left _ (List.mem_of_getElem? (i := 40) rfl))))
theorem wC_T_gate : Cond.code yT_gate cT_gate 3 (some .boolean) ∈ tkW := (List.mem_append_right _ (List.mem_append_right _ (List.mem_append_left _ (List.mem_of_getElem? (i := 41) rfl))))
theorem wM_T_80 : Cond.methodLink "TickLines" 80 yT_isCounter ∈ tkW := (List.mem_append_right _ (List.mem_append_right _ (List.mem_append_left _ (List.mem_of_getElem? (i := 42) rfl))))
theorem wT_T_isCounter : Cond.static yT_isCounter ∈ tkW := (List.mem_append_right _ (List.mem_append_right _ (List.mem_append_left _ (List.mem_of_getElem? (i := 43) rfl))))
theorem wC_T_isCounter : Cond.code yT_isCounter cT_isCounter 1 (some .boolean) ∈ tkW := (List.mem_append_right _ (List.mem_append_right _ (List.mem_append_left _ (List.mem_of_getElem? (i := 44) rfl))))
theorem wM_T_83 : Cond.methodLink "TickLines" 83 yN_setGate ∈ tkW := (List.mem_append_right _ (List.mem_append_right _ (List.mem_append_left _ (List.mem_of_getElem? (i := 45) rfl))))
theorem wI_N_setGate : Cond.instanceMethod yN_setGate ∈ tkW := (List.mem_append_right _ (List.mem_append_right _ (List.mem_append_left _ (List.mem_of_getElem? (i := 46) rfl))))
theorem wS_N_setGate : Cond.selects "TickLines$Counter" yN_setGate yN_setGate ∈ tkW := (List.mem_append_right _ (List.mem_append_right _ (List.mem_append_left _ (List.mem_of_getElem? (i := 47) rfl))))
theorem wC_N_setGate : Cond.code yN_setGate cN_setGate 4 none ∈ tkW := (List.mem_append_right _ (List.mem_append_right _ (List.mem_append_left _ (List.mem_of_getElem? (i := 48) rfl))))
theorem wM_N_67 : Cond.methodLink "TickLines$Counter" 67 yN_isEmpty ∈ tkW := (List.mem_append_right _ (List.mem_append_right _ (List.mem_append_left _ (List.mem_of_getElem? (i := 49) rfl))))
theorem wI_N_isEmpty : Cond.instanceMethod yN_isEmpty ∈ tkW := (List.mem_append_right _ (List.mem_append_right _ (List.mem_append_left _ (List.mem_of_getElem? (i := 50) rfl))))
theorem wC_N_isEmpty : Cond.code yN_isEmpty cN_isEmpty 1 (some .boolean) ∈ tkW := (List.mem_append_right _ (List.mem_append_right _ (List.mem_append_left _ (List.mem_of_getElem? (i := 51) rfl))))
theorem wM_N_70 : Cond.methodLink "TickLines$Counter" 70 yN_gateLoads ∈ tkW := (List.mem_append_right _ (List.mem_append_right _ (List.mem_append_left _ (List.mem_of_getElem? (i := 52) rfl))))
theorem wI_N_gateLoads : Cond.instanceMethod yN_gateLoads ∈ tkW := (List.mem_append_right _ (List.mem_append_right _ (List.mem_append_left _ (List.mem_of_getElem? (i := 53) rfl))))
theorem wC_N_gateLoads : Cond.code yN_gateLoads cN_gateLoads 1 (some .boolean) ∈ tkW := (List.mem_append_right _ (List.mem_append_right _ (List.mem_append_left _ (List.mem_of_getElem? (i := 54) rfl))))
theorem wM_N_73 : Cond.methodLink "TickLines$Counter" 73 yN_isPeriodic ∈ tkW := (List.mem_append_right _ (List.mem_append_right _ (List.mem_append_left _ (List.mem_of_getElem? (i := 55) rfl))))
theorem wI_N_isPeriodic : Cond.instanceMethod yN_isPeriodic ∈ tkW := (List.mem_append_right _ (List.mem_append_right _ (List.mem_append_left _ (List.mem_of_getElem? (i := 56) rfl))))
theorem wC_N_isPeriodic : Cond.code yN_isPeriodic cN_isPeriodic 1 (some .boolean) ∈ tkW := (List.mem_append_right _ (List.mem_append_right _ (List.mem_append_left _ (List.mem_of_getElem? (i := 57) rfl))))
theorem wI_T_chosen : Cond.instanceMethod yT_chosen ∈ tkW := (List.mem_append_right _ (List.mem_append_right _ (List.mem_append_left _ (List.mem_of_getElem? (i := 58) rfl))))
theorem wS_T_chosen : Cond.selects "TickLines" yT_chosen yT_chosen ∈ tkW := (List.mem_append_right _ (List.mem_append_right _ (List.mem_append_left _ (List.mem_of_getElem? (i := 59) rfl))))
theorem wC_T_chosen : Cond.code yT_chosen cT_chosen 2 (some .int) ∈ tkW := (List.mem_append_right _ (List.mem_append_right _ (List.mem_append_right _ (List.mem_append_left _ (List.mem_of_getElem? (i := 0) rfl)))))
theorem wI_T_about : Cond.instanceMethod yT_about ∈ tkW := (List.mem_append_right _ (List.mem_append_right _ (List.mem_append_right _ (List.mem_append_left _ (List.mem_of_getElem? (i := 1) rfl)))))
theorem wS_T_about : Cond.selects "TickLines" yT_about yT_about ∈ tkW := (List.mem_append_right _ (List.mem_append_right _ (List.mem_append_right _ (List.mem_append_left _ (List.mem_of_getElem? (i := 2) rfl)))))
theorem wC_T_about : Cond.code yT_about cT_about 3 (some .int) ∈ tkW := (List.mem_append_right _ (List.mem_append_right _ (List.mem_append_right _ (List.mem_append_left _ (List.mem_of_getElem? (i := 3) rfl)))))
theorem wM_T_112 : Cond.methodLink "TickLines" 112 yC_tell ∈ tkW := (List.mem_append_right _ (List.mem_append_right _ (List.mem_append_right _ (List.mem_append_left _ (List.mem_of_getElem? (i := 4) rfl)))))
theorem wI_C_tell : Cond.instanceMethod yC_tell ∈ tkW := (List.mem_append_right _ (List.mem_append_right _ (List.mem_append_right _ (List.mem_append_left _ (List.mem_of_getElem? (i := 5) rfl)))))
theorem wS_C_tell : Cond.selects "TickLines$Controller" yC_tell yC_tell ∈ tkW := (List.mem_append_right _ (List.mem_append_right _ (List.mem_append_right _ (List.mem_append_left _ (List.mem_of_getElem? (i := 6) rfl)))))
theorem wC_C_tell : Cond.code yC_tell cC_tell 2 (some .int) ∈ tkW := (List.mem_append_right _ (List.mem_append_right _ (List.mem_append_right _ (List.mem_append_left _ (List.mem_of_getElem? (i := 7) rfl)))))
theorem wT_T_asBit : Cond.static yT_asBit ∈ tkW := (List.mem_append_right _ (List.mem_append_right _ (List.mem_append_right _ (List.mem_append_left _ (List.mem_of_getElem? (i := 8) rfl)))))
theorem wC_T_asBit : Cond.code yT_asBit cT_asBit 1 (some .int) ∈ tkW := (List.mem_append_right _ (List.mem_append_right _ (List.mem_append_right _ (List.mem_append_left _ (List.mem_of_getElem? (i := 9) rfl)))))
theorem wI_T_counter : Cond.instanceMethod yT_counter ∈ tkW := (List.mem_append_right _ (List.mem_append_right _ (List.mem_append_right _ (List.mem_append_left _ (List.mem_of_getElem? (i := 10) rfl)))))
theorem wS_T_counter : Cond.selects "TickLines" yT_counter yT_counter ∈ tkW := (List.mem_append_right _ (List.mem_append_right _ (List.mem_append_right _ (List.mem_append_left _ (List.mem_of_getElem? (i := 11) rfl)))))
theorem wC_T_counter : Cond.code yT_counter cT_counter 3 (some .int) ∈ tkW := (List.mem_append_right _ (List.mem_append_right _ (List.mem_append_right _ (List.mem_append_left _ (List.mem_of_getElem? (i := 12) rfl)))))
theorem wM_T_115 : Cond.methodLink "TickLines" 115 yN_tell ∈ tkW := (List.mem_append_right _ (List.mem_append_right _ (List.mem_append_right _ (List.mem_append_left _ (List.mem_of_getElem? (i := 13) rfl)))))
theorem wI_N_tell : Cond.instanceMethod yN_tell ∈ tkW := (List.mem_append_right _ (List.mem_append_right _ (List.mem_append_right _ (List.mem_append_left _ (List.mem_of_getElem? (i := 14) rfl)))))
theorem wS_N_tell : Cond.selects "TickLines$Counter" yN_tell yN_tell ∈ tkW := (List.mem_append_right _ (List.mem_append_right _ (List.mem_append_right _ (List.mem_append_left _ (List.mem_of_getElem? (i := 15) rfl)))))
theorem wC_N_tell : Cond.code yN_tell cN_tell 2 (some .int) ∈ tkW := (List.mem_append_right _ (List.mem_append_right _ (List.mem_append_right _ (List.mem_append_left _ (List.mem_of_getElem? (i := 16) rfl)))))
theorem wI_T_write : Cond.instanceMethod yT_write ∈ tkW := (List.mem_append_right _ (List.mem_append_right _ (List.mem_append_right _ (List.mem_append_left _ (List.mem_of_getElem? (i := 17) rfl)))))
theorem wS_T_write : Cond.selects "TickLines" yT_write yT_write ∈ tkW := (List.mem_append_right _ (List.mem_append_right _ (List.mem_append_right _ (List.mem_append_left _ (List.mem_of_getElem? (i := 18) rfl)))))
theorem wC_T_write : Cond.code yT_write cT_write 3 none ∈ tkW := (List.mem_append_right _ (List.mem_append_right _ (List.mem_append_right _ (List.mem_append_left _ (List.mem_of_getElem? (i := 19) rfl)))))
theorem wM_T_28 : Cond.methodLink "TickLines" 28 yT_isPort ∈ tkW := (List.mem_append_right _ (List.mem_append_right _ (List.mem_append_right _ (List.mem_append_left _ (List.mem_of_getElem? (i := 20) rfl)))))
theorem wT_T_isPort : Cond.static yT_isPort ∈ tkW := (List.mem_append_right _ (List.mem_append_right _ (List.mem_append_right _ (List.mem_append_left _ (List.mem_of_getElem? (i := 21) rfl)))))
theorem wC_T_isPort : Cond.code yT_isPort cT_isPort 1 (some .boolean) ∈ tkW := (List.mem_append_right _ (List.mem_append_right _ (List.mem_append_right _ (List.mem_append_left _ (List.mem_of_getElem? (i := 22) rfl)))))
theorem wL_T_32 : Cond.classLink "TickLines" 32 "java/lang/IllegalArgumentException" ∈ tkW := (List.mem_append_right _ (List.mem_append_right _ (List.mem_append_right _ (List.mem_append_left _ (List.mem_of_getElem? (i := 23) rfl)))))
theorem wM_T_35 : Cond.methodLink "TickLines" 35 yT_isCounterPort ∈ tkW := (List.mem_append_right _ (List.mem_append_right _ (List.mem_append_right _ (List.mem_append_left _ (List.mem_of_getElem? (i := 24) rfl)))))
theorem wT_T_isCounterPort : Cond.static yT_isCounterPort ∈ tkW := (List.mem_append_right _ (List.mem_append_right _ (List.mem_append_right _ (List.mem_append_left _ (List.mem_of_getElem? (i := 25) rfl)))))
theorem wC_T_isCounterPort : Cond.code yT_isCounterPort cT_isCounterPort 1 (some .boolean) ∈ tkW := (List.mem_append_right _ (List.mem_append_right _ (List.mem_append_right _ (List.mem_append_left _ (List.mem_of_getElem? (i := 26) rfl)))))
theorem wM_T_38 : Cond.methodLink "TickLines" 38 yT_counterWithMode ∈ tkW := (List.mem_append_right _ (List.mem_append_right _ (List.mem_append_right _ (List.mem_append_left _ (List.mem_of_getElem? (i := 27) rfl)))))
theorem wI_T_counterWithMode : Cond.instanceMethod yT_counterWithMode ∈ tkW := (List.mem_append_right _ (List.mem_append_right _ (List.mem_append_right _ (List.mem_append_left _ (List.mem_of_getElem? (i := 28) rfl)))))
theorem wC_T_counterWithMode : Cond.code yT_counterWithMode cT_counterWithMode 3 (some (.object "TickLines$Counter")) ∈ tkW := (List.mem_append_right _ (List.mem_append_right _ (List.mem_append_right _ (List.mem_append_left _ (List.mem_of_getElem? (i := 29) rfl)))))
theorem wM_T_116 : Cond.methodLink "TickLines" 116 yN_hasMode ∈ tkW := (List.mem_append_right _ (List.mem_append_right _ (List.mem_append_right _ (List.mem_append_left _ (List.mem_of_getElem? (i := 30) rfl)))))
theorem wI_N_hasMode : Cond.instanceMethod yN_hasMode ∈ tkW := (List.mem_append_right _ (List.mem_append_right _ (List.mem_append_right _ (List.mem_append_left _ (List.mem_of_getElem? (i := 31) rfl)))))
theorem wS_N_hasMode : Cond.selects "TickLines$Counter" yN_hasMode yN_hasMode ∈ tkW := (List.mem_append_right _ (List.mem_append_right _ (List.mem_append_right _ (List.mem_append_left _ (List.mem_of_getElem? (i := 32) rfl)))))
theorem wC_N_hasMode : Cond.code yN_hasMode cN_hasMode 1 (some .boolean) ∈ tkW := (List.mem_append_right _ (List.mem_append_right _ (List.mem_append_right _ (List.mem_append_left _ (List.mem_of_getElem? (i := 33) rfl)))))
theorem wL_T_96 : Cond.classLink "TickLines" 96 "java/lang/IllegalStateException" ∈ tkW := (List.mem_append_right _ (List.mem_append_right _ (List.mem_append_right _ (List.mem_append_left _ (List.mem_of_getElem? (i := 34) rfl)))))
theorem wM_T_42 : Cond.methodLink "TickLines" 42 yN_takeByte ∈ tkW := (List.mem_append_right _ (List.mem_append_right _ (List.mem_append_right _ (List.mem_append_left _ (List.mem_of_getElem? (i := 35) rfl)))))
theorem wI_N_takeByte : Cond.instanceMethod yN_takeByte ∈ tkW := (List.mem_append_right _ (List.mem_append_right _ (List.mem_append_right _ (List.mem_append_left _ (List.mem_of_getElem? (i := 36) rfl)))))
theorem wS_N_takeByte : Cond.selects "TickLines$Counter" yN_takeByte yN_takeByte ∈ tkW := (List.mem_append_right _ (List.mem_append_right _ (List.mem_append_right _ (List.mem_append_left _ (List.mem_of_getElem? (i := 37) rfl)))))
theorem wC_N_takeByte : Cond.code yN_takeByte cN_takeByte 2 none ∈ tkW := (List.mem_append_right _ (List.mem_append_right _ (List.mem_append_right _ (List.mem_append_left _ (List.mem_of_getElem? (i := 38) rfl)))))
theorem wM_N_60 : Cond.methodLink "TickLines$Counter" 60 yN_takeReload ∈ tkW := (List.mem_append_right _ (List.mem_append_right _ (List.mem_append_right _ (List.mem_append_left _ (List.mem_of_getElem? (i := 39) rfl)))))
theorem wI_N_takeReload : Cond.instanceMethod yN_takeReload ∈ tkW := (List.mem_append_right _ (List.mem_append_right _ (List.mem_append_right _ (List.mem_append_left _ (List.mem_of_getElem? (i := 40) rfl)))))
theorem wC_N_takeReload : Cond.code yN_takeReload cN_takeReload 3 none ∈ tkW := (List.mem_append_right _ (List.mem_append_right _ (List.mem_append_right _ (List.mem_append_left _ (List.mem_of_getElem? (i := 41) rfl)))))
theorem wK_N_88 : Cond.constant "TickLines$Counter" 88 65536 ∈ tkW := (List.mem_append_right _ (List.mem_append_right _ (List.mem_append_right _ (List.mem_append_left _ (List.mem_of_getElem? (i := 42) rfl)))))
theorem wM_T_46 : Cond.methodLink "TickLines" 46 yT_takeControl ∈ tkW := (List.mem_append_right _ (List.mem_append_right _ (List.mem_append_right _ (List.mem_append_left _ (List.mem_of_getElem? (i := 43) rfl)))))
theorem wI_T_takeControl : Cond.instanceMethod yT_takeControl ∈ tkW := (List.mem_append_right _ (List.mem_append_right _ (List.mem_append_right _ (List.mem_append_left _ (List.mem_of_getElem? (i := 44) rfl)))))
theorem wC_T_takeControl : Cond.code yT_takeControl cT_takeControl 4 none ∈ tkW := (List.mem_append_right _ (List.mem_append_right _ (List.mem_append_right _ (List.mem_append_left _ (List.mem_of_getElem? (i := 45) rfl)))))
theorem wM_T_120 : Cond.methodLink "TickLines" 120 yT_latchMany ∈ tkW := (List.mem_append_right _ (List.mem_append_right _ (List.mem_append_right _ (List.mem_append_left _ (List.mem_of_getElem? (i := 46) rfl)))))
theorem wI_T_latchMany : Cond.instanceMethod yT_latchMany ∈ tkW := (List.mem_append_right _ (List.mem_append_right _ (List.mem_append_right _ (List.mem_append_left _ (List.mem_of_getElem? (i := 47) rfl)))))
theorem wC_T_latchMany : Cond.code yT_latchMany cT_latchMany 3 none ∈ tkW := (List.mem_append_right _ (List.mem_append_right _ (List.mem_append_right _ (List.mem_append_left _ (List.mem_of_getElem? (i := 48) rfl)))))
theorem wM_T_130 : Cond.methodLink "TickLines" 130 yT_hasBit ∈ tkW := (List.mem_append_right _ (List.mem_append_right _ (List.mem_append_right _ (List.mem_append_left _ (List.mem_of_getElem? (i := 49) rfl)))))
theorem wM_T_123 : Cond.methodLink "TickLines" 123 yN_latchCount ∈ tkW := (List.mem_append_right _ (List.mem_append_right _ (List.mem_append_right _ (List.mem_append_left _ (List.mem_of_getElem? (i := 50) rfl)))))
theorem wI_N_latchCount : Cond.instanceMethod yN_latchCount ∈ tkW := (List.mem_append_right _ (List.mem_append_right _ (List.mem_append_right _ (List.mem_append_left _ (List.mem_of_getElem? (i := 51) rfl)))))
theorem wS_N_latchCount : Cond.selects "TickLines$Counter" yN_latchCount yN_latchCount ∈ tkW := (List.mem_append_right _ (List.mem_append_right _ (List.mem_append_right _ (List.mem_append_left _ (List.mem_of_getElem? (i := 52) rfl)))))
theorem wC_N_latchCount : Cond.code yN_latchCount cN_latchCount 1 none ∈ tkW := (List.mem_append_right _ (List.mem_append_right _ (List.mem_append_right _ (List.mem_append_left _ (List.mem_of_getElem? (i := 53) rfl)))))
theorem wM_N_49 : Cond.methodLink "TickLines$Counter" 49 yN_hasMode ∈ tkW := (List.mem_append_right _ (List.mem_append_right _ (List.mem_append_right _ (List.mem_append_left _ (List.mem_of_getElem? (i := 54) rfl)))))
theorem wM_T_134 : Cond.methodLink "TickLines" 134 yN_latchStatus ∈ tkW := (List.mem_append_right _ (List.mem_append_right _ (List.mem_append_right _ (List.mem_append_left _ (List.mem_of_getElem? (i := 55) rfl)))))
theorem wI_N_latchStatus : Cond.instanceMethod yN_latchStatus ∈ tkW := (List.mem_append_right _ (List.mem_append_right _ (List.mem_append_right _ (List.mem_append_left _ (List.mem_of_getElem? (i := 56) rfl)))))
theorem wS_N_latchStatus : Cond.selects "TickLines$Counter" yN_latchStatus yN_latchStatus ∈ tkW := (List.mem_append_right _ (List.mem_append_right _ (List.mem_append_right _ (List.mem_append_left _ (List.mem_of_getElem? (i := 57) rfl)))))
theorem wC_N_latchStatus : Cond.code yN_latchStatus cN_latchStatus 1 none ∈ tkW := (List.mem_append_right _ (List.mem_append_right _ (List.mem_append_right _ (List.mem_append_left _ (List.mem_of_getElem? (i := 58) rfl)))))
theorem wM_T_126 : Cond.methodLink "TickLines" 126 yN_setMode ∈ tkW := (List.mem_append_right _ (List.mem_append_right _ (List.mem_append_right _ (List.mem_append_left _ (List.mem_of_getElem? (i := 59) rfl)))))
theorem wI_N_setMode : Cond.instanceMethod yN_setMode ∈ tkW := (List.mem_append_right _ (List.mem_append_right _ (List.mem_append_right _ (List.mem_append_right _ (List.mem_append_left _ (List.mem_of_getElem? (i := 0) rfl))))))
theorem wS_N_setMode : Cond.selects "TickLines$Counter" yN_setMode yN_setMode ∈ tkW := (List.mem_append_right _ (List.mem_append_right _ (List.mem_append_right _ (List.mem_append_right _ (List.mem_append_left _ (List.mem_of_getElem? (i := 1) rfl))))))
theorem wC_N_setMode : Cond.code yN_setMode cN_setMode 3 none ∈ tkW := (List.mem_append_right _ (List.mem_append_right _ (List.mem_append_right _ (List.mem_append_right _ (List.mem_append_left _ (List.mem_of_getElem? (i := 2) rfl))))))
theorem wM_T_53 : Cond.methodLink "TickLines" 53 yC_takeSideZero ∈ tkW := (List.mem_append_right _ (List.mem_append_right _ (List.mem_append_right _ (List.mem_append_right _ (List.mem_append_left _ (List.mem_of_getElem? (i := 3) rfl))))))
theorem wI_C_takeSideZero : Cond.instanceMethod yC_takeSideZero ∈ tkW := (List.mem_append_right _ (List.mem_append_right _ (List.mem_append_right _ (List.mem_append_right _ (List.mem_append_left _ (List.mem_of_getElem? (i := 4) rfl))))))
theorem wS_C_takeSideZero : Cond.selects "TickLines$Controller" yC_takeSideZero yC_takeSideZero ∈ tkW := (List.mem_append_right _ (List.mem_append_right _ (List.mem_append_right _ (List.mem_append_right _ (List.mem_append_left _ (List.mem_of_getElem? (i := 5) rfl))))))
theorem wC_C_takeSideZero : Cond.code yC_takeSideZero cC_takeSideZero 2 none ∈ tkW := (List.mem_append_right _ (List.mem_append_right _ (List.mem_append_right _ (List.mem_append_right _ (List.mem_append_left _ (List.mem_of_getElem? (i := 6) rfl))))))
theorem wM_C_56 : Cond.methodLink "TickLines$Controller" 56 yC_beginSettingUp ∈ tkW := (List.mem_append_right _ (List.mem_append_right _ (List.mem_append_right _ (List.mem_append_right _ (List.mem_append_left _ (List.mem_of_getElem? (i := 7) rfl))))))
theorem wI_C_beginSettingUp : Cond.instanceMethod yC_beginSettingUp ∈ tkW := (List.mem_append_right _ (List.mem_append_right _ (List.mem_append_right _ (List.mem_append_right _ (List.mem_append_left _ (List.mem_of_getElem? (i := 8) rfl))))))
theorem wC_C_beginSettingUp : Cond.code yC_beginSettingUp cC_beginSettingUp 2 none ∈ tkW := (List.mem_append_right _ (List.mem_append_right _ (List.mem_append_right _ (List.mem_append_right _ (List.mem_append_left _ (List.mem_of_getElem? (i := 9) rfl))))))
theorem wM_C_59 : Cond.methodLink "TickLines$Controller" 59 yC_takeReadingCommand ∈ tkW := (List.mem_append_right _ (List.mem_append_right _ (List.mem_append_right _ (List.mem_append_right _ (List.mem_append_left _ (List.mem_of_getElem? (i := 10) rfl))))))
theorem wI_C_takeReadingCommand : Cond.instanceMethod yC_takeReadingCommand ∈ tkW := (List.mem_append_right _ (List.mem_append_right _ (List.mem_append_right _ (List.mem_append_right _ (List.mem_append_left _ (List.mem_of_getElem? (i := 11) rfl))))))
theorem wC_C_takeReadingCommand : Cond.code yC_takeReadingCommand cC_takeReadingCommand 2 none ∈ tkW := (List.mem_append_right _ (List.mem_append_right _ (List.mem_append_right _ (List.mem_append_right _ (List.mem_append_left _ (List.mem_of_getElem? (i := 12) rfl))))))
theorem wM_C_62 : Cond.methodLink "TickLines$Controller" 62 yC_takeServiceCommand ∈ tkW := (List.mem_append_right _ (List.mem_append_right _ (List.mem_append_right _ (List.mem_append_right _ (List.mem_append_left _ (List.mem_of_getElem? (i := 13) rfl))))))
theorem wI_C_takeServiceCommand : Cond.instanceMethod yC_takeServiceCommand ∈ tkW := (List.mem_append_right _ (List.mem_append_right _ (List.mem_append_right _ (List.mem_append_right _ (List.mem_append_left _ (List.mem_of_getElem? (i := 14) rfl))))))
theorem wC_C_takeServiceCommand : Cond.code yC_takeServiceCommand cC_takeServiceCommand 3 none ∈ tkW := (List.mem_append_right _ (List.mem_append_right _ (List.mem_append_right _ (List.mem_append_right _ (List.mem_append_left _ (List.mem_of_getElem? (i := 15) rfl))))))
theorem wM_C_112 : Cond.methodLink "TickLines$Controller" 112 yC_firstHolding ∈ tkW := (List.mem_append_right _ (List.mem_append_right _ (List.mem_append_right _ (List.mem_append_right _ (List.mem_append_left _ (List.mem_of_getElem? (i := 16) rfl))))))
theorem wI_C_firstHolding : Cond.instanceMethod yC_firstHolding ∈ tkW := (List.mem_append_right _ (List.mem_append_right _ (List.mem_append_right _ (List.mem_append_right _ (List.mem_append_left _ (List.mem_of_getElem? (i := 17) rfl))))))
theorem wC_C_firstHolding : Cond.code yC_firstHolding cC_firstHolding 4 (some .int) ∈ tkW := (List.mem_append_right _ (List.mem_append_right _ (List.mem_append_right _ (List.mem_append_right _ (List.mem_append_left _ (List.mem_of_getElem? (i := 18) rfl))))))
theorem wM_C_115 : Cond.methodLink "TickLines$Controller" 115 yC_endService ∈ tkW := (List.mem_append_right _ (List.mem_append_right _ (List.mem_append_right _ (List.mem_append_right _ (List.mem_append_left _ (List.mem_of_getElem? (i := 19) rfl))))))
theorem wI_C_endService : Cond.instanceMethod yC_endService ∈ tkW := (List.mem_append_right _ (List.mem_append_right _ (List.mem_append_right _ (List.mem_append_right _ (List.mem_append_left _ (List.mem_of_getElem? (i := 20) rfl))))))
theorem wC_C_endService : Cond.code yC_endService cC_endService 2 none ∈ tkW := (List.mem_append_right _ (List.mem_append_right _ (List.mem_append_right _ (List.mem_append_right _ (List.mem_append_left _ (List.mem_of_getElem? (i := 21) rfl))))))
theorem wM_C_118 : Cond.methodLink "TickLines$Controller" 118 yC_endServiceAndTurn ∈ tkW := (List.mem_append_right _ (List.mem_append_right _ (List.mem_append_right _ (List.mem_append_right _ (List.mem_append_left _ (List.mem_of_getElem? (i := 22) rfl))))))
theorem wI_C_endServiceAndTurn : Cond.instanceMethod yC_endServiceAndTurn ∈ tkW := (List.mem_append_right _ (List.mem_append_right _ (List.mem_append_right _ (List.mem_append_right _ (List.mem_append_left _ (List.mem_of_getElem? (i := 23) rfl))))))
theorem wC_C_endServiceAndTurn : Cond.code yC_endServiceAndTurn cC_endServiceAndTurn 2 none ∈ tkW := (List.mem_append_right _ (List.mem_append_right _ (List.mem_append_right _ (List.mem_append_right _ (List.mem_append_left _ (List.mem_of_getElem? (i := 24) rfl))))))
theorem wM_T_56 : Cond.methodLink "TickLines" 56 yC_takeSideOne ∈ tkW := (List.mem_append_right _ (List.mem_append_right _ (List.mem_append_right _ (List.mem_append_right _ (List.mem_append_left _ (List.mem_of_getElem? (i := 25) rfl))))))
theorem wI_C_takeSideOne : Cond.instanceMethod yC_takeSideOne ∈ tkW := (List.mem_append_right _ (List.mem_append_right _ (List.mem_append_right _ (List.mem_append_right _ (List.mem_append_left _ (List.mem_of_getElem? (i := 26) rfl))))))
theorem wS_C_takeSideOne : Cond.selects "TickLines$Controller" yC_takeSideOne yC_takeSideOne ∈ tkW := (List.mem_append_right _ (List.mem_append_right _ (List.mem_append_right _ (List.mem_append_right _ (List.mem_append_left _ (List.mem_of_getElem? (i := 27) rfl))))))
theorem wC_C_takeSideOne : Cond.code yC_takeSideOne cC_takeSideOne 2 none ∈ tkW := (List.mem_append_right _ (List.mem_append_right _ (List.mem_append_right _ (List.mem_append_right _ (List.mem_append_left _ (List.mem_of_getElem? (i := 28) rfl))))))
theorem wM_C_72 : Cond.methodLink "TickLines$Controller" 72 yC_awaitFrom ∈ tkW := (List.mem_append_right _ (List.mem_append_right _ (List.mem_append_right _ (List.mem_append_right _ (List.mem_append_left _ (List.mem_of_getElem? (i := 29) rfl))))))
theorem wI_C_awaitFrom : Cond.instanceMethod yC_awaitFrom ∈ tkW := (List.mem_append_right _ (List.mem_append_right _ (List.mem_append_right _ (List.mem_append_right _ (List.mem_append_left _ (List.mem_of_getElem? (i := 30) rfl))))))
theorem wC_C_awaitFrom : Cond.code yC_awaitFrom cC_awaitFrom 2 none ∈ tkW := (List.mem_append_right _ (List.mem_append_right _ (List.mem_append_right _ (List.mem_append_right _ (List.mem_append_left _ (List.mem_of_getElem? (i := 31) rfl))))))
theorem wM_C_81 : Cond.methodLink "TickLines$Controller" 81 yC_becomeReady ∈ tkW := (List.mem_append_right _ (List.mem_append_right _ (List.mem_append_right _ (List.mem_append_right _ (List.mem_append_left _ (List.mem_of_getElem? (i := 32) rfl))))))
theorem wI_C_becomeReady : Cond.instanceMethod yC_becomeReady ∈ tkW := (List.mem_append_right _ (List.mem_append_right _ (List.mem_append_right _ (List.mem_append_right _ (List.mem_append_left _ (List.mem_of_getElem? (i := 33) rfl))))))
theorem wC_C_becomeReady : Cond.code yC_becomeReady cC_becomeReady 1 none ∈ tkW := (List.mem_append_right _ (List.mem_append_right _ (List.mem_append_right _ (List.mem_append_right _ (List.mem_append_left _ (List.mem_of_getElem? (i := 34) rfl))))))
theorem wI_T_read : Cond.instanceMethod yT_read ∈ tkW := (List.mem_append_right _ (List.mem_append_right _ (List.mem_append_right _ (List.mem_append_right _ (List.mem_append_left _ (List.mem_of_getElem? (i := 35) rfl))))))
theorem wS_T_read : Cond.selects "TickLines" yT_read yT_read ∈ tkW := (List.mem_append_right _ (List.mem_append_right _ (List.mem_append_right _ (List.mem_append_right _ (List.mem_append_left _ (List.mem_of_getElem? (i := 36) rfl))))))
theorem wC_T_read : Cond.code yT_read cT_read 3 (some .int) ∈ tkW := (List.mem_append_right _ (List.mem_append_right _ (List.mem_append_right _ (List.mem_append_right _ (List.mem_append_left _ (List.mem_of_getElem? (i := 37) rfl))))))
theorem wM_T_62 : Cond.methodLink "TickLines" 62 yN_giveByte ∈ tkW := (List.mem_append_right _ (List.mem_append_right _ (List.mem_append_right _ (List.mem_append_right _ (List.mem_append_left _ (List.mem_of_getElem? (i := 38) rfl))))))
theorem wI_N_giveByte : Cond.instanceMethod yN_giveByte ∈ tkW := (List.mem_append_right _ (List.mem_append_right _ (List.mem_append_right _ (List.mem_append_right _ (List.mem_append_left _ (List.mem_of_getElem? (i := 39) rfl))))))
theorem wS_N_giveByte : Cond.selects "TickLines$Counter" yN_giveByte yN_giveByte ∈ tkW := (List.mem_append_right _ (List.mem_append_right _ (List.mem_append_right _ (List.mem_append_right _ (List.mem_append_left _ (List.mem_of_getElem? (i := 40) rfl))))))
theorem wC_N_giveByte : Cond.code yN_giveByte cN_giveByte 3 (some .int) ∈ tkW := (List.mem_append_right _ (List.mem_append_right _ (List.mem_append_right _ (List.mem_append_right _ (List.mem_append_left _ (List.mem_of_getElem? (i := 41) rfl))))))
theorem wM_T_66 : Cond.methodLink "TickLines" 66 yC_giveSideZero ∈ tkW := (List.mem_append_right _ (List.mem_append_right _ (List.mem_append_right _ (List.mem_append_right _ (List.mem_append_left _ (List.mem_of_getElem? (i := 42) rfl))))))
theorem wI_C_giveSideZero : Cond.instanceMethod yC_giveSideZero ∈ tkW := (List.mem_append_right _ (List.mem_append_right _ (List.mem_append_right _ (List.mem_append_right _ (List.mem_append_left _ (List.mem_of_getElem? (i := 43) rfl))))))
theorem wS_C_giveSideZero : Cond.selects "TickLines$Controller" yC_giveSideZero yC_giveSideZero ∈ tkW := (List.mem_append_right _ (List.mem_append_right _ (List.mem_append_right _ (List.mem_append_right _ (List.mem_append_left _ (List.mem_of_getElem? (i := 44) rfl))))))
theorem wC_C_giveSideZero : Cond.code yC_giveSideZero cC_giveSideZero 2 (some .int) ∈ tkW := (List.mem_append_right _ (List.mem_append_right _ (List.mem_append_right _ (List.mem_append_right _ (List.mem_append_left _ (List.mem_of_getElem? (i := 45) rfl))))))
theorem wM_C_87 : Cond.methodLink "TickLines$Controller" 87 yC_serveChosen ∈ tkW := (List.mem_append_right _ (List.mem_append_right _ (List.mem_append_right _ (List.mem_append_right _ (List.mem_append_left _ (List.mem_of_getElem? (i := 46) rfl))))))
theorem wI_C_serveChosen : Cond.instanceMethod yC_serveChosen ∈ tkW := (List.mem_append_right _ (List.mem_append_right _ (List.mem_append_right _ (List.mem_append_right _ (List.mem_append_left _ (List.mem_of_getElem? (i := 47) rfl))))))
theorem wS_C_serveChosen : Cond.selects "TickLines$Controller" yC_serveChosen yC_serveChosen ∈ tkW := (List.mem_append_right _ (List.mem_append_right _ (List.mem_append_right _ (List.mem_append_right _ (List.mem_append_left _ (List.mem_of_getElem? (i := 48) rfl))))))
theorem wC_C_serveChosen : Cond.code yC_serveChosen cC_serveChosen 2 (some .int) ∈ tkW := (List.mem_append_right _ (List.mem_append_right _ (List.mem_append_right _ (List.mem_append_right _ (List.mem_append_left _ (List.mem_of_getElem? (i := 49) rfl))))))
theorem wM_C_46 : Cond.methodLink "TickLines$Controller" 46 yC_chosenLevel ∈ tkW := (List.mem_append_right _ (List.mem_append_right _ (List.mem_append_right _ (List.mem_append_right _ (List.mem_append_left _ (List.mem_of_getElem? (i := 50) rfl))))))
theorem wM_C_49 : Cond.methodLink "TickLines$Controller" 49 yC_serve ∈ tkW := (List.mem_append_right _ (List.mem_append_right _ (List.mem_append_right _ (List.mem_append_right _ (List.mem_append_left _ (List.mem_of_getElem? (i := 51) rfl))))))
theorem wI_C_serve : Cond.instanceMethod yC_serve ∈ tkW := (List.mem_append_right _ (List.mem_append_right _ (List.mem_append_right _ (List.mem_append_right _ (List.mem_append_left _ (List.mem_of_getElem? (i := 52) rfl))))))
theorem wC_C_serve : Cond.code yC_serve cC_serve 2 none ∈ tkW := (List.mem_append_right _ (List.mem_append_right _ (List.mem_append_right _ (List.mem_append_right _ (List.mem_append_left _ (List.mem_of_getElem? (i := 53) rfl))))))
theorem wI_T_tick : Cond.instanceMethod yT_tick ∈ tkW := (List.mem_append_right _ (List.mem_append_right _ (List.mem_append_right _ (List.mem_append_right _ (List.mem_append_left _ (List.mem_of_getElem? (i := 54) rfl))))))
theorem wS_T_tick : Cond.selects "TickLines" yT_tick yT_tick ∈ tkW := (List.mem_append_right _ (List.mem_append_right _ (List.mem_append_right _ (List.mem_append_right _ (List.mem_append_left _ (List.mem_of_getElem? (i := 55) rfl))))))
theorem wC_T_tick : Cond.code yT_tick cT_tick 6 (some .int) ∈ tkW := (List.mem_append_right _ (List.mem_append_right _ (List.mem_append_right _ (List.mem_append_right _ (List.mem_append_left _ (List.mem_of_getElem? (i := 56) rfl))))))
theorem wM_T_90 : Cond.methodLink "TickLines" 90 yN_step ∈ tkW := (List.mem_append_right _ (List.mem_append_right _ (List.mem_append_right _ (List.mem_append_right _ (List.mem_append_left _ (List.mem_of_getElem? (i := 57) rfl))))))
theorem wI_N_step : Cond.instanceMethod yN_step ∈ tkW := (List.mem_append_right _ (List.mem_append_right _ (List.mem_append_right _ (List.mem_append_right _ (List.mem_append_left _ (List.mem_of_getElem? (i := 58) rfl))))))
theorem wS_N_step : Cond.selects "TickLines$Counter" yN_step yN_step ∈ tkW := (List.mem_append_right _ (List.mem_append_right _ (List.mem_append_right _ (List.mem_append_right _ (List.mem_append_left _ (List.mem_of_getElem? (i := 59) rfl))))))
theorem wC_N_step : Cond.code yN_step cN_step 1 none ∈ tkW := (List.mem_append_right _ (List.mem_append_right _ (List.mem_append_right _ (List.mem_append_right _ (List.mem_append_right _ (List.mem_append_left _ (List.mem_of_getElem? (i := 0) rfl)))))))
theorem wM_N_76 : Cond.methodLink "TickLines$Counter" 76 yN_standsBetweenBytes ∈ tkW := (List.mem_append_right _ (List.mem_append_right _ (List.mem_append_right _ (List.mem_append_right _ (List.mem_append_right _ (List.mem_append_left _ (List.mem_of_getElem? (i := 1) rfl)))))))
theorem wI_N_standsBetweenBytes : Cond.instanceMethod yN_standsBetweenBytes ∈ tkW := (List.mem_append_right _ (List.mem_append_right _ (List.mem_append_right _ (List.mem_append_right _ (List.mem_append_right _ (List.mem_append_left _ (List.mem_of_getElem? (i := 2) rfl)))))))
theorem wC_N_standsBetweenBytes : Cond.code yN_standsBetweenBytes cN_standsBetweenBytes 1 (some .boolean) ∈ tkW := (List.mem_append_right _ (List.mem_append_right _ (List.mem_append_right _ (List.mem_append_right _ (List.mem_append_right _ (List.mem_append_left _ (List.mem_of_getElem? (i := 3) rfl)))))))
theorem wM_N_79 : Cond.methodLink "TickLines$Counter" 79 yN_load ∈ tkW := (List.mem_append_right _ (List.mem_append_right _ (List.mem_append_right _ (List.mem_append_right _ (List.mem_append_right _ (List.mem_append_left _ (List.mem_of_getElem? (i := 4) rfl)))))))
theorem wI_N_load : Cond.instanceMethod yN_load ∈ tkW := (List.mem_append_right _ (List.mem_append_right _ (List.mem_append_right _ (List.mem_append_right _ (List.mem_append_right _ (List.mem_append_left _ (List.mem_of_getElem? (i := 5) rfl)))))))
theorem wC_N_load : Cond.code yN_load cN_load 1 none ∈ tkW := (List.mem_append_right _ (List.mem_append_right _ (List.mem_append_right _ (List.mem_append_right _ (List.mem_append_right _ (List.mem_append_left _ (List.mem_of_getElem? (i := 6) rfl)))))))
theorem wM_N_89 : Cond.methodLink "TickLines$Counter" 89 yN_partTicks ∈ tkW := (List.mem_append_right _ (List.mem_append_right _ (List.mem_append_right _ (List.mem_append_right _ (List.mem_append_right _ (List.mem_append_left _ (List.mem_of_getElem? (i := 7) rfl)))))))
theorem wI_N_partTicks : Cond.instanceMethod yN_partTicks ∈ tkW := (List.mem_append_right _ (List.mem_append_right _ (List.mem_append_right _ (List.mem_append_right _ (List.mem_append_right _ (List.mem_append_left _ (List.mem_of_getElem? (i := 8) rfl)))))))
theorem wC_N_partTicks : Cond.code yN_partTicks cN_partTicks 1 (some .int) ∈ tkW := (List.mem_append_right _ (List.mem_append_right _ (List.mem_append_right _ (List.mem_append_right _ (List.mem_append_right _ (List.mem_append_left _ (List.mem_of_getElem? (i := 9) rfl)))))))
theorem wM_N_93 : Cond.methodLink "TickLines$Counter" 93 yN_setCount ∈ tkW := (List.mem_append_right _ (List.mem_append_right _ (List.mem_append_right _ (List.mem_append_right _ (List.mem_append_right _ (List.mem_append_left _ (List.mem_of_getElem? (i := 10) rfl)))))))
theorem wI_N_setCount : Cond.instanceMethod yN_setCount ∈ tkW := (List.mem_append_right _ (List.mem_append_right _ (List.mem_append_right _ (List.mem_append_right _ (List.mem_append_right _ (List.mem_append_left _ (List.mem_of_getElem? (i := 11) rfl)))))))
theorem wC_N_setCount : Cond.code yN_setCount cN_setCount 2 none ∈ tkW := (List.mem_append_right _ (List.mem_append_right _ (List.mem_append_right _ (List.mem_append_right _ (List.mem_append_right _ (List.mem_append_left _ (List.mem_of_getElem? (i := 12) rfl)))))))
theorem wK_N_96 : Cond.constant "TickLines$Counter" 96 65535 ∈ tkW := (List.mem_append_right _ (List.mem_append_right _ (List.mem_append_right _ (List.mem_append_right _ (List.mem_append_right _ (List.mem_append_left _ (List.mem_of_getElem? (i := 13) rfl)))))))
theorem wM_N_82 : Cond.methodLink "TickLines$Counter" 82 yN_gateHoldsBack ∈ tkW := (List.mem_append_right _ (List.mem_append_right _ (List.mem_append_right _ (List.mem_append_right _ (List.mem_append_right _ (List.mem_append_left _ (List.mem_of_getElem? (i := 14) rfl)))))))
theorem wI_N_gateHoldsBack : Cond.instanceMethod yN_gateHoldsBack ∈ tkW := (List.mem_append_right _ (List.mem_append_right _ (List.mem_append_right _ (List.mem_append_right _ (List.mem_append_right _ (List.mem_append_left _ (List.mem_of_getElem? (i := 15) rfl)))))))
theorem wC_N_gateHoldsBack : Cond.code yN_gateHoldsBack cN_gateHoldsBack 1 (some .boolean) ∈ tkW := (List.mem_append_right _ (List.mem_append_right _ (List.mem_append_right _ (List.mem_append_right _ (List.mem_append_right _ (List.mem_append_left _ (List.mem_of_getElem? (i := 16) rfl)))))))
theorem wM_N_85 : Cond.methodLink "TickLines$Counter" 85 yN_countDown ∈ tkW := (List.mem_append_right _ (List.mem_append_right _ (List.mem_append_right _ (List.mem_append_right _ (List.mem_append_right _ (List.mem_append_left _ (List.mem_of_getElem? (i := 17) rfl)))))))
theorem wI_N_countDown : Cond.instanceMethod yN_countDown ∈ tkW := (List.mem_append_right _ (List.mem_append_right _ (List.mem_append_right _ (List.mem_append_right _ (List.mem_append_right _ (List.mem_append_left _ (List.mem_of_getElem? (i := 18) rfl)))))))
theorem wC_N_countDown : Cond.code yN_countDown cN_countDown 1 none ∈ tkW := (List.mem_append_right _ (List.mem_append_right _ (List.mem_append_right _ (List.mem_append_right _ (List.mem_append_right _ (List.mem_append_left _ (List.mem_of_getElem? (i := 19) rfl)))))))
theorem wM_N_97 : Cond.methodLink "TickLines$Counter" 97 yN_stepRate ∈ tkW := (List.mem_append_right _ (List.mem_append_right _ (List.mem_append_right _ (List.mem_append_right _ (List.mem_append_right _ (List.mem_append_left _ (List.mem_of_getElem? (i := 20) rfl)))))))
theorem wI_N_stepRate : Cond.instanceMethod yN_stepRate ∈ tkW := (List.mem_append_right _ (List.mem_append_right _ (List.mem_append_right _ (List.mem_append_right _ (List.mem_append_right _ (List.mem_append_left _ (List.mem_of_getElem? (i := 21) rfl)))))))
theorem wC_N_stepRate : Cond.code yN_stepRate cN_stepRate 1 none ∈ tkW := (List.mem_append_right _ (List.mem_append_right _ (List.mem_append_right _ (List.mem_append_right _ (List.mem_append_right _ (List.mem_append_left _ (List.mem_of_getElem? (i := 22) rfl)))))))
theorem wM_N_109 : Cond.methodLink "TickLines$Counter" 109 yN_lessen ∈ tkW := (List.mem_append_right _ (List.mem_append_right _ (List.mem_append_right _ (List.mem_append_right _ (List.mem_append_right _ (List.mem_append_left _ (List.mem_of_getElem? (i := 23) rfl)))))))
theorem wI_N_lessen : Cond.instanceMethod yN_lessen ∈ tkW := (List.mem_append_right _ (List.mem_append_right _ (List.mem_append_right _ (List.mem_append_right _ (List.mem_append_right _ (List.mem_append_left _ (List.mem_of_getElem? (i := 24) rfl)))))))
theorem wC_N_lessen : Cond.code yN_lessen cN_lessen 2 none ∈ tkW := (List.mem_append_right _ (List.mem_append_right _ (List.mem_append_right _ (List.mem_append_right _ (List.mem_append_right _ (List.mem_append_left _ (List.mem_of_getElem? (i := 25) rfl)))))))
theorem wM_N_100 : Cond.methodLink "TickLines$Counter" 100 yN_stepSquare ∈ tkW := (List.mem_append_right _ (List.mem_append_right _ (List.mem_append_right _ (List.mem_append_right _ (List.mem_append_right _ (List.mem_append_left _ (List.mem_of_getElem? (i := 26) rfl)))))))
theorem wI_N_stepSquare : Cond.instanceMethod yN_stepSquare ∈ tkW := (List.mem_append_right _ (List.mem_append_right _ (List.mem_append_right _ (List.mem_append_right _ (List.mem_append_right _ (List.mem_append_left _ (List.mem_of_getElem? (i := 27) rfl)))))))
theorem wC_N_stepSquare : Cond.code yN_stepSquare cN_stepSquare 1 none ∈ tkW := (List.mem_append_right _ (List.mem_append_right _ (List.mem_append_right _ (List.mem_append_right _ (List.mem_append_right _ (List.mem_append_left _ (List.mem_of_getElem? (i := 28) rfl)))))))
theorem wM_N_103 : Cond.methodLink "TickLines$Counter" 103 yN_stepStrobe ∈ tkW := (List.mem_append_right _ (List.mem_append_right _ (List.mem_append_right _ (List.mem_append_right _ (List.mem_append_right _ (List.mem_append_left _ (List.mem_of_getElem? (i := 29) rfl)))))))
theorem wI_N_stepStrobe : Cond.instanceMethod yN_stepStrobe ∈ tkW := (List.mem_append_right _ (List.mem_append_right _ (List.mem_append_right _ (List.mem_append_right _ (List.mem_append_right _ (List.mem_append_left _ (List.mem_of_getElem? (i := 30) rfl)))))))
theorem wC_N_stepStrobe : Cond.code yN_stepStrobe cN_stepStrobe 1 none ∈ tkW := (List.mem_append_right _ (List.mem_append_right _ (List.mem_append_right _ (List.mem_append_right _ (List.mem_append_right _ (List.mem_append_left _ (List.mem_of_getElem? (i := 31) rfl)))))))
theorem wM_N_106 : Cond.methodLink "TickLines$Counter" 106 yN_stepOnce ∈ tkW := (List.mem_append_right _ (List.mem_append_right _ (List.mem_append_right _ (List.mem_append_right _ (List.mem_append_right _ (List.mem_append_left _ (List.mem_of_getElem? (i := 32) rfl)))))))
theorem wI_N_stepOnce : Cond.instanceMethod yN_stepOnce ∈ tkW := (List.mem_append_right _ (List.mem_append_right _ (List.mem_append_right _ (List.mem_append_right _ (List.mem_append_right _ (List.mem_append_left _ (List.mem_of_getElem? (i := 33) rfl)))))))
theorem wC_N_stepOnce : Cond.code yN_stepOnce cN_stepOnce 1 none ∈ tkW := (List.mem_append_right _ (List.mem_append_right _ (List.mem_append_right _ (List.mem_append_right _ (List.mem_append_right _ (List.mem_append_left _ (List.mem_of_getElem? (i := 34) rfl)))))))
theorem wI_T_acknowledge : Cond.instanceMethod yT_acknowledge ∈ tkW := (List.mem_append_right _ (List.mem_append_right _ (List.mem_append_right _ (List.mem_append_right _ (List.mem_append_right _ (List.mem_append_left _ (List.mem_of_getElem? (i := 35) rfl)))))))
theorem wS_T_acknowledge : Cond.selects "TickLines" yT_acknowledge yT_acknowledge ∈ tkW := (List.mem_append_right _ (List.mem_append_right _ (List.mem_append_right _ (List.mem_append_right _ (List.mem_append_right _ (List.mem_append_left _ (List.mem_of_getElem? (i := 36) rfl)))))))
theorem wC_T_acknowledge : Cond.code yT_acknowledge cT_acknowledge 3 (some .int) ∈ tkW := (List.mem_append_right _ (List.mem_append_right _ (List.mem_append_right _ (List.mem_append_right _ (List.mem_append_right _ (List.mem_append_left _ (List.mem_of_getElem? (i := 37) rfl)))))))
theorem wM_T_99 : Cond.methodLink "TickLines" 99 yC_serveChosen ∈ tkW := (List.mem_append_right _ (List.mem_append_right _ (List.mem_append_right _ (List.mem_append_right _ (List.mem_append_right _ (List.mem_append_left _ (List.mem_of_getElem? (i := 38) rfl)))))))
theorem wM_T_105 : Cond.methodLink "TickLines" 105 yC_vectorOf ∈ tkW := (List.mem_append_right _ (List.mem_append_right _ (List.mem_append_right _ (List.mem_append_right _ (List.mem_append_right _ (List.mem_append_left _ (List.mem_of_getElem? (i := 39) rfl)))))))
theorem wI_C_vectorOf : Cond.instanceMethod yC_vectorOf ∈ tkW := (List.mem_append_right _ (List.mem_append_right _ (List.mem_append_right _ (List.mem_append_right _ (List.mem_append_right _ (List.mem_append_left _ (List.mem_of_getElem? (i := 40) rfl)))))))
theorem wS_C_vectorOf : Cond.selects "TickLines$Controller" yC_vectorOf yC_vectorOf ∈ tkW := (List.mem_append_right _ (List.mem_append_right _ (List.mem_append_right _ (List.mem_append_right _ (List.mem_append_right _ (List.mem_append_left _ (List.mem_of_getElem? (i := 41) rfl)))))))
theorem wC_C_vectorOf : Cond.code yC_vectorOf cC_vectorOf 2 (some .int) ∈ tkW := (List.mem_append_right _ (List.mem_append_right _ (List.mem_append_right _ (List.mem_append_right _ (List.mem_append_right _ (List.mem_append_left _ (List.mem_of_getElem? (i := 42) rfl)))))))
theorem tkW_g0 : ∀ w ∈ tkW_0, goodWord w = true := by decide +kernel
theorem tkW_g1 : ∀ w ∈ tkW_1, goodWord w = true := by decide +kernel
theorem tkW_g2 : ∀ w ∈ tkW_2, goodWord w = true := by decide +kernel
theorem tkW_g3 : ∀ w ∈ tkW_3, goodWord w = true := by decide +kernel
theorem tkW_g4 : ∀ w ∈ tkW_4, goodWord w = true := by decide +kernel
theorem tkW_g5 : ∀ w ∈ tkW_5, goodWord w = true := by decide +kernel
theorem tkW_gx : ∀ w ∈ tkW_x, goodWord w = true := fun w h => (List.mem_append.mp h).elim (fun h => (List.mem_filter.mp h).2) (fun h => (List.mem_filter.mp h).2)
theorem tkW_good : ∀ w ∈ tkW, goodWord w = true := fun w h => (List.mem_append.mp h).elim (fun h => tkW_g0 w h) (fun h => (List.mem_append.mp h).elim (fun h => tkW_g1 w h) (fun h => (List.mem_append.mp h).elim (fun h => tkW_g2 w h) (fun h => (List.mem_append.mp h).elim (fun h => tkW_g3 w h) (fun h => (List.mem_append.mp h).elim (fun h => tkW_g4 w h) (fun h => (List.mem_append.mp h).elim (fun h => tkW_g5 w h) (fun h => tkW_gx w h))))))
def tkWM_0 : List Cond := [.selects "TickLinesModel" yM_control yM_control, .selects "TickLinesModel" yM_latch yM_latch, .selects "TickLinesModel" yM_latchStatus yM_latchStatus, .selects "TickLinesModel" yM_writeCounter yM_writeCounter, .selects "TickLinesModel" yM_writeFirst yM_writeFirst, .selects "TickLinesModel" yM_begin yM_begin, .selects "TickLinesModel" yM_rule yM_rule, .selects "TickLinesModel" yM_firstHeld yM_firstHeld, .selects "TickLinesModel" yM_holds yM_holds, .selects "TickLinesModel" yM_writeSecond yM_writeSecond, .selects "TickLinesModel" yM_follow yM_follow, .selects "TickLinesModel" yM_set yM_set, .selects "TickLinesModel" yM_choice yM_choice, .selects "TickLinesModel" yM_requests yM_requests, .selects "TickLinesModel" yM_readCounter yM_readCounter, .selects "TickLinesModel" yM_readFirst yM_readFirst, .selects "TickLinesModel" yM_serve yM_serve, .selects "TickLinesModel" yM_tickOne yM_tickOne, .selects "TickLinesModel" yM_put yM_put, .selects "TickLinesModel" yM_step yM_step, .selects "TickLinesModel" yM_turn yM_turn, .initialized "TickLinesModel", .instantiable "TickLinesModel" 33, .instanceMethod yM_init, .code yM_init cM_init 1 none, .methodLink "TickLinesModel" 1 objectInit, .fieldLink "TickLinesModel" 107 "TickLinesModel" "thrown" "I", .fieldLink "TickLinesModel" 7 "TickLinesModel" "lines" "[I", .fieldLink "TickLinesModel" 13 "TickLinesModel" "latches" "[I", .fieldLink "TickLinesModel" 16 "TickLinesModel" "mask" "[I", .fieldLink "TickLinesModel" 19 "TickLinesModel" "service" "[I", .fieldLink "TickLinesModel" 22 "TickLinesModel" "base" "[I", .fieldLink "TickLinesModel" 25 "TickLinesModel" "lowest" "[I", .fieldLink "TickLinesModel" 28 "TickLinesModel" "ready" "[Z", .fieldLink "TickLinesModel" 32 "TickLinesModel" "level" "[Z", .fieldLink "TickLinesModel" 35 "TickLinesModel" "single" "[Z", .fieldLink "TickLinesModel" 38 "TickLinesModel" "fourth" "[Z", .fieldLink "TickLinesModel" 41 "TickLinesModel" "auto" "[Z", .fieldLink "TickLinesModel" 44 "TickLinesModel" "nested" "[Z", .fieldLink "TickLinesModel" 47 "TickLinesModel" "special" "[Z", .fieldLink "TickLinesModel" 50 "TickLinesModel" "turns" "[Z", .fieldLink "TickLinesModel" 53 "TickLinesModel" "poll" "[Z", .fieldLink "TickLinesModel" 56 "TickLinesModel" "showsService" "[Z", .fieldLink "TickLinesModel" 59 "TickLinesModel" "stage" "[I", .fieldLink "TickLinesModel" 62 "TickLinesModel" "gate" "[Z", .fieldLink "TickLinesModel" 65 "TickLinesModel" "output" "[Z", .fieldLink "TickLinesModel" 68 "TickLinesModel" "mode" "[I", .fieldLink "TickLinesModel" 71 "TickLinesModel" "access" "[I", .fieldLink "TickLinesModel" 74 "TickLinesModel" "reload" "[I", .fieldLink "TickLinesModel" 77 "TickLinesModel" "count" "[I", .fieldLink "TickLinesModel" 80 "TickLinesModel" "runs" "[Z", .fieldLink "TickLinesModel" 83 "TickLinesModel" "load" "[Z", .fieldLink "TickLinesModel" 86 "TickLinesModel" "stands" "[Z", .fieldLink "TickLinesModel" 89 "TickLinesModel" "fresh" "[Z", .fieldLink "TickLinesModel" 92 "TickLinesModel" "highNext" "[Z", .fieldLink "TickLinesModel" 95 "TickLinesModel" "low" "[I", .fieldLink "TickLinesModel" 98 "TickLinesModel" "readHigh" "[Z", .fieldLink "TickLinesModel" 101 "TickLinesModel" "latched" "[I", .fieldLink "TickLinesModel" 104 "TickLinesModel" "status" "[I", .lays "TickLinesModel" "TickLinesModel" "thrown" "I"]
def tkWM_1 : List Cond := [.laysFinal "TickLinesModel" "TickLinesModel" "lines" "[I", .laysFinal "TickLinesModel" "TickLinesModel" "latches" "[I", .laysFinal "TickLinesModel" "TickLinesModel" "mask" "[I", .laysFinal "TickLinesModel" "TickLinesModel" "service" "[I", .laysFinal "TickLinesModel" "TickLinesModel" "base" "[I", .laysFinal "TickLinesModel" "TickLinesModel" "lowest" "[I", .laysFinal "TickLinesModel" "TickLinesModel" "ready" "[Z", .laysFinal "TickLinesModel" "TickLinesModel" "level" "[Z", .laysFinal "TickLinesModel" "TickLinesModel" "single" "[Z", .laysFinal "TickLinesModel" "TickLinesModel" "fourth" "[Z", .laysFinal "TickLinesModel" "TickLinesModel" "auto" "[Z", .laysFinal "TickLinesModel" "TickLinesModel" "nested" "[Z", .laysFinal "TickLinesModel" "TickLinesModel" "special" "[Z", .laysFinal "TickLinesModel" "TickLinesModel" "turns" "[Z", .laysFinal "TickLinesModel" "TickLinesModel" "poll" "[Z", .laysFinal "TickLinesModel" "TickLinesModel" "showsService" "[Z", .laysFinal "TickLinesModel" "TickLinesModel" "stage" "[I", .laysFinal "TickLinesModel" "TickLinesModel" "gate" "[Z", .laysFinal "TickLinesModel" "TickLinesModel" "output" "[Z", .laysFinal "TickLinesModel" "TickLinesModel" "mode" "[I", .laysFinal "TickLinesModel" "TickLinesModel" "access" "[I", .laysFinal "TickLinesModel" "TickLinesModel" "reload" "[I", .laysFinal "TickLinesModel" "TickLinesModel" "count" "[I", .laysFinal "TickLinesModel" "TickLinesModel" "runs" "[Z", .laysFinal "TickLinesModel" "TickLinesModel" "load" "[Z", .laysFinal "TickLinesModel" "TickLinesModel" "stands" "[Z", .laysFinal "TickLinesModel" "TickLinesModel" "fresh" "[Z", .laysFinal "TickLinesModel" "TickLinesModel" "highNext" "[Z", .laysFinal "TickLinesModel" "TickLinesModel" "low" "[I", .laysFinal "TickLinesModel" "TickLinesModel" "readHigh" "[Z", .laysFinal "TickLinesModel" "TickLinesModel" "latched" "[I", .laysFinal "TickLinesModel" "TickLinesModel" "status" "[I", .arrayClass .int, .arrayClass .boolean, .instanceMethod yM_thrown, .selects "TickLinesModel" yM_thrown yM_thrown, .code yM_thrown cM_thrown 1 (some .int), .instanceMethod yM_write, .selects "TickLinesModel" yM_write yM_write, .code yM_write cM_write 4 none, .methodLink "TickLinesModel" 157 yM_control, .instanceMethod yM_control, .code yM_control cM_control 6 none, .methodLink "TickLinesModel" 139 yM_latch, .instanceMethod yM_latch, .code yM_latch cM_latch 2 none, .methodLink "TickLinesModel" 143 yM_latchStatus, .instanceMethod yM_latchStatus, .code yM_latchStatus cM_latchStatus 3 none, .methodLink "TickLinesModel" 160 yM_writeCounter, .instanceMethod yM_writeCounter, .code yM_writeCounter cM_writeCounter 6 none, .constant "TickLinesModel" 146 65536, .methodLink "TickLinesModel" 163 yM_writeFirst, .instanceMethod yM_writeFirst, .code yM_writeFirst cM_writeFirst 3 none, .methodLink "TickLinesModel" 129 yM_begin, .instanceMethod yM_begin, .code yM_begin cM_begin 3 none, .methodLink "TickLinesModel" 133 yM_rule]
def tkWM_2 : List Cond := [.instanceMethod yM_rule, .code yM_rule cM_rule 6 none, .methodLink "TickLinesModel" 126 yM_firstHeld, .instanceMethod yM_firstHeld, .code yM_firstHeld cM_firstHeld 4 (some .int), .methodLink "TickLinesModel" 111 yM_holds, .instanceMethod yM_holds, .code yM_holds cM_holds 3 (some .boolean), .methodLink "TickLinesModel" 166 yM_writeSecond, .instanceMethod yM_writeSecond, .code yM_writeSecond cM_writeSecond 4 none, .methodLink "TickLinesModel" 169 yM_follow, .instanceMethod yM_follow, .code yM_follow cM_follow 1 none, .methodLink "TickLinesModel" 119 yM_set, .instanceMethod yM_set, .code yM_set cM_set 5 none, .methodLink "TickLinesModel" 123 yM_choice, .instanceMethod yM_choice, .code yM_choice cM_choice 6 (some .int), .methodLink "TickLinesModel" 115 yM_requests, .instanceMethod yM_requests, .code yM_requests cM_requests 2 (some .int), .instanceMethod yM_read, .selects "TickLinesModel" yM_read yM_read, .code yM_read cM_read 3 (some .int), .methodLink "TickLinesModel" 172 yM_readCounter, .instanceMethod yM_readCounter, .code yM_readCounter cM_readCounter 5 (some .int), .methodLink "TickLinesModel" 175 yM_readFirst, .instanceMethod yM_readFirst, .code yM_readFirst cM_readFirst 3 (some .int), .methodLink "TickLinesModel" 136 yM_serve, .instanceMethod yM_serve, .code yM_serve cM_serve 3 none, .instanceMethod yM_line, .selects "TickLinesModel" yM_line yM_line, .code yM_line cM_line 4 (some .boolean), .instanceMethod yM_gate, .selects "TickLinesModel" yM_gate yM_gate, .code yM_gate cM_gate 5 (some .boolean), .instanceMethod yM_tick, .selects "TickLinesModel" yM_tick yM_tick, .code yM_tick cM_tick 6 (some .int), .methodLink "TickLinesModel" 178 yM_tickOne, .instanceMethod yM_tickOne, .code yM_tickOne cM_tickOne 3 none, .methodLink "TickLinesModel" 148 yM_put, .instanceMethod yM_put, .code yM_put cM_put 3 none, .constant "TickLinesModel" 147 65535, .methodLink "TickLinesModel" 154 yM_step, .instanceMethod yM_step, .code yM_step cM_step 3 none, .methodLink "TickLinesModel" 151 yM_turn, .instanceMethod yM_turn, .code yM_turn cM_turn 3 none, .instanceMethod yM_acknowledge, .selects "TickLinesModel" yM_acknowledge yM_acknowledge, .code yM_acknowledge cM_acknowledge 4 (some .int)]
def tkWM_3 : List Cond := [.instanceMethod yM_chosen, .selects "TickLinesModel" yM_chosen yM_chosen, .code yM_chosen cM_chosen 2 (some .int), .instanceMethod yM_about, .selects "TickLinesModel" yM_about yM_about, .code yM_about cM_about 3 (some .int), .instanceMethod yM_counter, .selects "TickLinesModel" yM_counter yM_counter, .code yM_counter cM_counter 3 (some .int), .code objectInit ⟨#[0xb1]⟩ 1 none, .instanceMethod objectInit]
def tkWM : List Cond := tkWM_0 ++ (tkWM_1 ++ (tkWM_2 ++ (tkWM_3)))
theorem wS_M_control : Cond.selects "TickLinesModel" yM_control yM_control ∈ tkWM := (List.mem_append_left _ (List.mem_of_getElem? (i := 0) rfl))
theorem wS_M_latch : Cond.selects "TickLinesModel" yM_latch yM_latch ∈ tkWM := (List.mem_append_left _ (List.mem_of_getElem? (i := 1) rfl))
theorem wS_M_latchStatus : Cond.selects "TickLinesModel" yM_latchStatus yM_latchStatus ∈ tkWM := (List.mem_append_left _ (List.mem_of_getElem? (i := 2) rfl))
theorem wS_M_writeCounter : Cond.selects "TickLinesModel" yM_writeCounter yM_writeCounter ∈ tkWM := (List.mem_append_left _ (List.mem_of_getElem? (i := 3) rfl))
theorem wS_M_writeFirst : Cond.selects "TickLinesModel" yM_writeFirst yM_writeFirst ∈ tkWM := (List.mem_append_left _ (List.mem_of_getElem? (i := 4) rfl))
theorem wS_M_begin : Cond.selects "TickLinesModel" yM_begin yM_begin ∈ tkWM := (List.mem_append_left _ (List.mem_of_getElem? (i := 5) rfl))
theorem wS_M_rule : Cond.selects "TickLinesModel" yM_rule yM_rule ∈ tkWM := (List.mem_append_left _ (List.mem_of_getElem? (i := 6) rfl))
theorem wS_M_firstHeld : Cond.selects "TickLinesModel" yM_firstHeld yM_firstHeld ∈ tkWM := (List.mem_append_left _ (List.mem_of_getElem? (i := 7) rfl))
theorem wS_M_holds : Cond.selects "TickLinesModel" yM_holds yM_holds ∈ tkWM := (List.mem_append_left _ (List.mem_of_getElem? (i := 8) rfl))
theorem wS_M_writeSecond : Cond.selects "TickLinesModel" yM_writeSecond yM_writeSecond ∈ tkWM := (List.mem_append_left _ (List.mem_of_getElem? (i := 9) rfl))
theorem wS_M_follow : Cond.selects "TickLinesModel" yM_follow yM_follow ∈ tkWM := (List.mem_append_left _ (List.mem_of_getElem? (i := 10) rfl))
theorem wS_M_set : Cond.selects "TickLinesModel" yM_set yM_set ∈ tkWM := (List.mem_append_left _ (List.mem_of_getElem? (i := 11) rfl))
theorem wS_M_choice : Cond.selects "TickLinesModel" yM_choice yM_choice ∈ tkWM := (List.mem_append_left _ (List.mem_of_getElem? (i := 12) rfl))
theorem wS_M_requests : Cond.selects "TickLinesModel" yM_requests yM_requests ∈ tkWM := (List.mem_append_left _ (List.mem_of_getElem? (i := 13) rfl))
theorem wS_M_readCounter : Cond.selects "TickLinesModel" yM_readCounter yM_readCounter ∈ tkWM := (List.mem_append_left _ (List.mem_of_getElem? (i := 14) rfl))
theorem wS_M_readFirst : Cond.selects "TickLinesModel" yM_readFirst yM_readFirst ∈ tkWM := (List.mem_append_left _ (List.mem_of_getElem? (i := 15) rfl))
theorem wS_M_serve : Cond.selects "TickLinesModel" yM_serve yM_serve ∈ tkWM := (List.mem_append_left _ (List.mem_of_getElem? (i := 16) rfl))
theorem wS_M_tickOne : Cond.selects "TickLinesModel" yM_tickOne yM_tickOne ∈ tkWM := (List.mem_append_left _ (List.mem_of_getElem? (i := 17) rfl))
theorem wS_M_put : Cond.selects "TickLinesModel" yM_put yM_put ∈ tkWM := (List.mem_append_left _ (List.mem_of_getElem? (i := 18) rfl))
theorem wS_M_step : Cond.selects "TickLinesModel" yM_step yM_step ∈ tkWM := (List.mem_append_left _ (List.mem_of_getElem? (i := 19) rfl))
theorem wS_M_turn : Cond.selects "TickLinesModel" yM_turn yM_turn ∈ tkWM := (List.mem_append_left _ (List.mem_of_getElem? (i := 20) rfl))
theorem wZ_M : Cond.initialized "TickLinesModel" ∈ tkWM := (List.mem_append_left _ (List.mem_of_getElem? (i := 21) rfl))
theorem wN_M : Cond.instantiable "TickLinesModel" 33 ∈ tkWM := (List.mem_append_left _ (List.mem_of_getElem? (i := 22) rfl))
theorem wI_M_init : Cond.instanceMethod yM_init ∈ tkWM := (List.mem_append_left _ (List.mem_of_getElem? (i := 23) rfl))
theorem wC_M_init : Cond.code yM_init cM_init 1 none ∈ tkWM := (List.mem_append_left _ (List.mem_of_getElem? (i := 24) rfl))
theorem wM_M_1 : Cond.methodLink "TickLinesModel" 1 objectInit ∈ tkWM := (List.mem_append_left _ (List.mem_of_getElem? (i := 25) rfl))
theorem wF_M_107 : Cond.fieldLink "TickLinesModel" 107 "TickLinesModel" "thrown" "I" ∈ tkWM := (List.mem_append_left _ (List.mem_of_getElem? (i := 26) rfl))
theorem wF_M_7 : Cond.fieldLink "TickLinesModel" 7 "TickLinesModel" "lines" "[I" ∈ tkWM := (List.mem_append_left _ (List.mem_of_getElem? (i := 27) rfl))
theorem wF_M_13 : Cond.fieldLink "TickLinesModel" 13 "TickLinesModel" "latches" "[I" ∈ tkWM := (List.mem_append_left _ (List.mem_of_getElem? (i := 28) rfl))
theorem wF_M_16 : Cond.fieldLink "TickLinesModel" 16 "TickLinesModel" "mask" "[I" ∈ tkWM := (List.mem_append_left _ (List.mem_of_getElem? (i := 29) rfl))
theorem wF_M_19 : Cond.fieldLink "TickLinesModel" 19 "TickLinesModel" "service" "[I" ∈ tkWM := (List.mem_append_left _ (List.mem_of_getElem? (i := 30) rfl))
theorem wF_M_22 : Cond.fieldLink "TickLinesModel" 22 "TickLinesModel" "base" "[I" ∈ tkWM := (List.mem_append_left _ (List.mem_of_getElem? (i := 31) rfl))
theorem wF_M_25 : Cond.fieldLink "TickLinesModel" 25 "TickLinesModel" "lowest" "[I" ∈ tkWM := (List.mem_append_left _ (List.mem_of_getElem? (i := 32) rfl))
theorem wF_M_28 : Cond.fieldLink "TickLinesModel" 28 "TickLinesModel" "ready" "[Z" ∈ tkWM := (List.mem_append_left _ (List.mem_of_getElem? (i := 33) rfl))
theorem wF_M_32 : Cond.fieldLink "TickLinesModel" 32 "TickLinesModel" "level" "[Z" ∈ tkWM := (List.mem_append_left _ (List.mem_of_getElem? (i := 34) rfl))
theorem wF_M_35 : Cond.fieldLink "TickLinesModel" 35 "TickLinesModel" "single" "[Z" ∈ tkWM := (List.mem_append_left _ (List.mem_of_getElem? (i := 35) rfl))
theorem wF_M_38 : Cond.fieldLink "TickLinesModel" 38 "TickLinesModel" "fourth" "[Z" ∈ tkWM := (List.mem_append_left _ (List.mem_of_getElem? (i := 36) rfl))
theorem wF_M_41 : Cond.fieldLink "TickLinesModel" 41 "TickLinesModel" "auto" "[Z" ∈ tkWM := (List.mem_append_left _ (List.mem_of_getElem? (i := 37) rfl))
theorem wF_M_44 : Cond.fieldLink "TickLinesModel" 44 "TickLinesModel" "nested" "[Z" ∈ tkWM := (List.mem_append_left _ (List.mem_of_getElem? (i := 38) rfl))
theorem wF_M_47 : Cond.fieldLink "TickLinesModel" 47 "TickLinesModel" "special" "[Z" ∈ tkWM := (List.mem_append_left _ (List.mem_of_getElem? (i := 39) rfl))
theorem wF_M_50 : Cond.fieldLink "TickLinesModel" 50 "TickLinesModel" "turns" "[Z" ∈ tkWM := (List.mem_append_left _ (List.mem_of_getElem? (i := 40) rfl))
theorem wF_M_53 : Cond.fieldLink "TickLinesModel" 53 "TickLinesModel" "poll" "[Z" ∈ tkWM := (List.mem_append_left _ (List.mem_of_getElem? (i := 41) rfl))
theorem wF_M_56 : Cond.fieldLink "TickLinesModel" 56 "TickLinesModel" "showsService" "[Z" ∈ tkWM := (List.mem_append_left _ (List.mem_of_getElem? (i := 42) rfl))
theorem wF_M_59 : Cond.fieldLink "TickLinesModel" 59 "TickLinesModel" "stage" "[I" ∈ tkWM := (List.mem_append_left _ (List.mem_of_getElem? (i := 43) rfl))
theorem wF_M_62 : Cond.fieldLink "TickLinesModel" 62 "TickLinesModel" "gate" "[Z" ∈ tkWM := (List.mem_append_left _ (List.mem_of_getElem? (i := 44) rfl))
theorem wF_M_65 : Cond.fieldLink "TickLinesModel" 65 "TickLinesModel" "output" "[Z" ∈ tkWM := (List.mem_append_left _ (List.mem_of_getElem? (i := 45) rfl))
theorem wF_M_68 : Cond.fieldLink "TickLinesModel" 68 "TickLinesModel" "mode" "[I" ∈ tkWM := (List.mem_append_left _ (List.mem_of_getElem? (i := 46) rfl))
theorem wF_M_71 : Cond.fieldLink "TickLinesModel" 71 "TickLinesModel" "access" "[I" ∈ tkWM := (List.mem_append_left _ (List.mem_of_getElem? (i := 47) rfl))
theorem wF_M_74 : Cond.fieldLink "TickLinesModel" 74 "TickLinesModel" "reload" "[I" ∈ tkWM := (List.mem_append_left _ (List.mem_of_getElem? (i := 48) rfl))
theorem wF_M_77 : Cond.fieldLink "TickLinesModel" 77 "TickLinesModel" "count" "[I" ∈ tkWM := (List.mem_append_left _ (List.mem_of_getElem? (i := 49) rfl))
theorem wF_M_80 : Cond.fieldLink "TickLinesModel" 80 "TickLinesModel" "runs" "[Z" ∈ tkWM := (List.mem_append_left _ (List.mem_of_getElem? (i := 50) rfl))
theorem wF_M_83 : Cond.fieldLink "TickLinesModel" 83 "TickLinesModel" "load" "[Z" ∈ tkWM := (List.mem_append_left _ (List.mem_of_getElem? (i := 51) rfl))
theorem wF_M_86 : Cond.fieldLink "TickLinesModel" 86 "TickLinesModel" "stands" "[Z" ∈ tkWM := (List.mem_append_left _ (List.mem_of_getElem? (i := 52) rfl))
theorem wF_M_89 : Cond.fieldLink "TickLinesModel" 89 "TickLinesModel" "fresh" "[Z" ∈ tkWM := (List.mem_append_left _ (List.mem_of_getElem? (i := 53) rfl))
theorem wF_M_92 : Cond.fieldLink "TickLinesModel" 92 "TickLinesModel" "highNext" "[Z" ∈ tkWM := (List.mem_append_left _ (List.mem_of_getElem? (i := 54) rfl))
theorem wF_M_95 : Cond.fieldLink "TickLinesModel" 95 "TickLinesModel" "low" "[I" ∈ tkWM := (List.mem_append_left _ (List.mem_of_getElem? (i := 55) rfl))
theorem wF_M_98 : Cond.fieldLink "TickLinesModel" 98 "TickLinesModel" "readHigh" "[Z" ∈ tkWM := (List.mem_append_left _ (List.mem_of_getElem? (i := 56) rfl))
theorem wF_M_101 : Cond.fieldLink "TickLinesModel" 101 "TickLinesModel" "latched" "[I" ∈ tkWM := (List.mem_append_left _ (List.mem_of_getElem? (i := 57) rfl))
theorem wF_M_104 : Cond.fieldLink "TickLinesModel" 104 "TickLinesModel" "status" "[I" ∈ tkWM := (List.mem_append_left _ (List.mem_of_getElem? (i := 58) rfl))
theorem wY_M_thrown : Cond.lays "TickLinesModel" "TickLinesModel" "thrown" "I" ∈ tkWM := (List.mem_append_left _ (List.mem_of_getElem? (i := 59) rfl))
theorem wY_M_lines : Cond.laysFinal "TickLinesModel" "TickLinesModel" "lines" "[I" ∈ tkWM := (List.mem_append_right _ (List.mem_append_left _ (List.mem_of_getElem? (i := 0) rfl)))
theorem wY_M_latches : Cond.laysFinal "TickLinesModel" "TickLinesModel" "latches" "[I" ∈ tkWM := (List.mem_append_right _ (List.mem_append_left _ (List.mem_of_getElem? (i := 1) rfl)))
theorem wY_M_mask : Cond.laysFinal "TickLinesModel" "TickLinesModel" "mask" "[I" ∈ tkWM := (List.mem_append_right _ (List.mem_append_left _ (List.mem_of_getElem? (i := 2) rfl)))
theorem wY_M_service : Cond.laysFinal "TickLinesModel" "TickLinesModel" "service" "[I" ∈ tkWM := (List.mem_append_right _ (List.mem_append_left _ (List.mem_of_getElem? (i := 3) rfl)))
theorem wY_M_base : Cond.laysFinal "TickLinesModel" "TickLinesModel" "base" "[I" ∈ tkWM := (List.mem_append_right _ (List.mem_append_left _ (List.mem_of_getElem? (i := 4) rfl)))
theorem wY_M_lowest : Cond.laysFinal "TickLinesModel" "TickLinesModel" "lowest" "[I" ∈ tkWM := (List.mem_append_right _ (List.mem_append_left _ (List.mem_of_getElem? (i := 5) rfl)))
theorem wY_M_ready : Cond.laysFinal "TickLinesModel" "TickLinesModel" "ready" "[Z" ∈ tkWM := (List.mem_append_right _ (List.mem_append_left _ (List.mem_of_getElem? (i := 6) rfl)))
theorem wY_M_level : Cond.laysFinal "TickLinesModel" "TickLinesModel" "level" "[Z" ∈ tkWM := (List.mem_append_right _ (List.mem_append_left _ (List.mem_of_getElem? (i := 7) rfl)))
theorem wY_M_single : Cond.laysFinal "TickLinesModel" "TickLinesModel" "single" "[Z" ∈ tkWM := (List.mem_append_right _ (List.mem_append_left _ (List.mem_of_getElem? (i := 8) rfl)))
theorem wY_M_fourth : Cond.laysFinal "TickLinesModel" "TickLinesModel" "fourth" "[Z" ∈ tkWM := (List.mem_append_right _ (List.mem_append_left _ (List.mem_of_getElem? (i := 9) rfl)))
theorem wY_M_auto : Cond.laysFinal "TickLinesModel" "TickLinesModel" "auto" "[Z" ∈ tkWM := (List.mem_append_right _ (List.mem_append_left _ (List.mem_of_getElem? (i := 10) rfl)))
theorem wY_M_nested : Cond.laysFinal "TickLinesModel" "TickLinesModel" "nested" "[Z" ∈ tkWM := (List.mem_append_right _ (List.mem_append_left _ (List.mem_of_getElem? (i := 11) rfl)))
theorem wY_M_special : Cond.laysFinal "TickLinesModel" "TickLinesModel" "special" "[Z" ∈ tkWM := (List.mem_append_right _ (List.mem_append_left _ (List.mem_of_getElem? (i := 12) rfl)))
theorem wY_M_turns : Cond.laysFinal "TickLinesModel" "TickLinesModel" "turns" "[Z" ∈ tkWM := (List.mem_append_right _ (List.mem_append_left _ (List.mem_of_getElem? (i := 13) rfl)))
theorem wY_M_poll : Cond.laysFinal "TickLinesModel" "TickLinesModel" "poll" "[Z" ∈ tkWM := (List.mem_append_right _ (List.mem_append_left _ (List.mem_of_getElem? (i := 14) rfl)))
theorem wY_M_showsService : Cond.laysFinal "TickLinesModel" "TickLinesModel" "showsService" "[Z" ∈ tkWM := (List.mem_append_right _ (List.mem_append_left _ (List.mem_of_getElem? (i := 15) rfl)))
theorem wY_M_stage : Cond.laysFinal "TickLinesModel" "TickLinesModel" "stage" "[I" ∈ tkWM := (List.mem_append_right _ (List.mem_append_left _ (List.mem_of_getElem? (i := 16) rfl)))
theorem wY_M_gate : Cond.laysFinal "TickLinesModel" "TickLinesModel" "gate" "[Z" ∈ tkWM := (List.mem_append_right _ (List.mem_append_left _ (List.mem_of_getElem? (i := 17) rfl)))
theorem wY_M_output : Cond.laysFinal "TickLinesModel" "TickLinesModel" "output" "[Z" ∈ tkWM := (List.mem_append_right _ (List.mem_append_left _ (List.mem_of_getElem? (i := 18) rfl)))
theorem wY_M_mode : Cond.laysFinal "TickLinesModel" "TickLinesModel" "mode" "[I" ∈ tkWM := (List.mem_append_right _ (List.mem_append_left _ (List.mem_of_getElem? (i := 19) rfl)))
theorem wY_M_access : Cond.laysFinal "TickLinesModel" "TickLinesModel" "access" "[I" ∈ tkWM := (List.mem_append_right _ (List.mem_append_left _ (List.mem_of_getElem? (i := 20) rfl)))
theorem wY_M_reload : Cond.laysFinal "TickLinesModel" "TickLinesModel" "reload" "[I" ∈ tkWM := (List.mem_append_right _ (List.mem_append_left _ (List.mem_of_getElem? (i := 21) rfl)))
theorem wY_M_count : Cond.laysFinal "TickLinesModel" "TickLinesModel" "count" "[I" ∈ tkWM := (List.mem_append_right _ (List.mem_append_left _ (List.mem_of_getElem? (i := 22) rfl)))
theorem wY_M_runs : Cond.laysFinal "TickLinesModel" "TickLinesModel" "runs" "[Z" ∈ tkWM := (List.mem_append_right _ (List.mem_append_left _ (List.mem_of_getElem? (i := 23) rfl)))
theorem wY_M_load : Cond.laysFinal "TickLinesModel" "TickLinesModel" "load" "[Z" ∈ tkWM := (List.mem_append_right _ (List.mem_append_left _ (List.mem_of_getElem? (i := 24) rfl)))
theorem wY_M_stands : Cond.laysFinal "TickLinesModel" "TickLinesModel" "stands" "[Z" ∈ tkWM := (List.mem_append_right _ (List.mem_append_left _ (List.mem_of_getElem? (i := 25) rfl)))
theorem wY_M_fresh : Cond.laysFinal "TickLinesModel" "TickLinesModel" "fresh" "[Z" ∈ tkWM := (List.mem_append_right _ (List.mem_append_left _ (List.mem_of_getElem? (i := 26) rfl)))
theorem wY_M_highNext : Cond.laysFinal "TickLinesModel" "TickLinesModel" "highNext" "[Z" ∈ tkWM := (List.mem_append_right _ (List.mem_append_left _ (List.mem_of_getElem? (i := 27) rfl)))
theorem wY_M_low : Cond.laysFinal "TickLinesModel" "TickLinesModel" "low" "[I" ∈ tkWM := (List.mem_append_right _ (List.mem_append_left _ (List.mem_of_getElem? (i := 28) rfl)))
theorem wY_M_readHigh : Cond.laysFinal "TickLinesModel" "TickLinesModel" "readHigh" "[Z" ∈ tkWM := (List.mem_append_right _ (List.mem_append_left _ (List.mem_of_getElem? (i := 29) rfl)))
theorem wY_M_latched : Cond.laysFinal "TickLinesModel" "TickLinesModel" "latched" "[I" ∈ tkWM := (List.mem_append_right _ (List.mem_append_left _ (List.mem_of_getElem? (i := 30) rfl)))
theorem wY_M_status : Cond.laysFinal "TickLinesModel" "TickLinesModel" "status" "[I" ∈ tkWM := (List.mem_append_right _ (List.mem_append_left _ (List.mem_of_getElem? (i := 31) rfl)))
theorem wA_int : Cond.arrayClass .int ∈ tkWM := (List.mem_append_right _ (List.mem_append_left _ (List.mem_of_getElem? (i := 32) rfl)))
theorem wA_boolean : Cond.arrayClass .boolean ∈ tkWM := (List.mem_append_right _ (List.mem_append_left _ (List.mem_of_getElem? (i := 33) rfl)))
theorem wI_M_thrown : Cond.instanceMethod yM_thrown ∈ tkWM := (List.mem_append_right _ (List.mem_append_left _ (List.mem_of_getElem? (i := 34) rfl)))
theorem wS_M_thrown : Cond.selects "TickLinesModel" yM_thrown yM_thrown ∈ tkWM := (List.mem_append_right _ (List.mem_append_left _ (List.mem_of_getElem? (i := 35) rfl)))
theorem wC_M_thrown : Cond.code yM_thrown cM_thrown 1 (some .int) ∈ tkWM := (List.mem_append_right _ (List.mem_append_left _ (List.mem_of_getElem? (i := 36) rfl)))
theorem wI_M_write : Cond.instanceMethod yM_write ∈ tkWM := (List.mem_append_right _ (List.mem_append_left _ (List.mem_of_getElem? (i := 37) rfl)))
theorem wS_M_write : Cond.selects "TickLinesModel" yM_write yM_write ∈ tkWM := (List.mem_append_right _ (List.mem_append_left _ (List.mem_of_getElem? (i := 38) rfl)))
theorem wC_M_write : Cond.code yM_write cM_write 4 none ∈ tkWM := (List.mem_append_right _ (List.mem_append_left _ (List.mem_of_getElem? (i := 39) rfl)))
theorem wM_M_157 : Cond.methodLink "TickLinesModel" 157 yM_control ∈ tkWM := (List.mem_append_right _ (List.mem_append_left _ (List.mem_of_getElem? (i := 40) rfl)))
theorem wI_M_control : Cond.instanceMethod yM_control ∈ tkWM := (List.mem_append_right _ (List.mem_append_left _ (List.mem_of_getElem? (i := 41) rfl)))
theorem wC_M_control : Cond.code yM_control cM_control 6 none ∈ tkWM := (List.mem_append_right _ (List.mem_append_left _ (List.mem_of_getElem? (i := 42) rfl)))
theorem wM_M_139 : Cond.methodLink "TickLinesModel" 139 yM_latch ∈ tkWM := (List.mem_append_right _ (List.mem_append_left _ (List.mem_of_getElem? (i := 43) rfl)))
theorem wI_M_latch : Cond.instanceMethod yM_latch ∈ tkWM := (List.mem_append_right _ (List.mem_append_left _ (List.mem_of_getElem? (i := 44) rfl)))
theorem wC_M_latch : Cond.code yM_latch cM_latch 2 none ∈ tkWM := (List.mem_append_right _ (List.mem_append_left _ (List.mem_of_getElem? (i := 45) rfl)))
theorem wM_M_143 : Cond.methodLink "TickLinesModel" 143 yM_latchStatus ∈ tkWM := (List.mem_append_right _ (List.mem_append_left _ (List.mem_of_getElem? (i := 46) rfl)))
theorem wI_M_latchStatus : Cond.instanceMethod yM_latchStatus ∈ tkWM := (List.mem_append_right _ (List.mem_append_left _ (List.mem_of_getElem? (i := 47) rfl)))
theorem wC_M_latchStatus : Cond.code yM_latchStatus cM_latchStatus 3 none ∈ tkWM := (List.mem_append_right _ (List.mem_append_left _ (List.mem_of_getElem? (i := 48) rfl)))
theorem wM_M_160 : Cond.methodLink "TickLinesModel" 160 yM_writeCounter ∈ tkWM := (List.mem_append_right _ (List.mem_append_left _ (List.mem_of_getElem? (i := 49) rfl)))
theorem wI_M_writeCounter : Cond.instanceMethod yM_writeCounter ∈ tkWM := (List.mem_append_right _ (List.mem_append_left _ (List.mem_of_getElem? (i := 50) rfl)))
theorem wC_M_writeCounter : Cond.code yM_writeCounter cM_writeCounter 6 none ∈ tkWM := (List.mem_append_right _ (List.mem_append_left _ (List.mem_of_getElem? (i := 51) rfl)))
theorem wK_M_146 : Cond.constant "TickLinesModel" 146 65536 ∈ tkWM := (List.mem_append_right _ (List.mem_append_left _ (List.mem_of_getElem? (i := 52) rfl)))
theorem wM_M_163 : Cond.methodLink "TickLinesModel" 163 yM_writeFirst ∈ tkWM := (List.mem_append_right _ (List.mem_append_left _ (List.mem_of_getElem? (i := 53) rfl)))
theorem wI_M_writeFirst : Cond.instanceMethod yM_writeFirst ∈ tkWM := (List.mem_append_right _ (List.mem_append_left _ (List.mem_of_getElem? (i := 54) rfl)))
theorem wC_M_writeFirst : Cond.code yM_writeFirst cM_writeFirst 3 none ∈ tkWM := (List.mem_append_right _ (List.mem_append_left _ (List.mem_of_getElem? (i := 55) rfl)))
theorem wM_M_129 : Cond.methodLink "TickLinesModel" 129 yM_begin ∈ tkWM := (List.mem_append_right _ (List.mem_append_left _ (List.mem_of_getElem? (i := 56) rfl)))
theorem wI_M_begin : Cond.instanceMethod yM_begin ∈ tkWM := (List.mem_append_right _ (List.mem_append_left _ (List.mem_of_getElem? (i := 57) rfl)))
theorem wC_M_begin : Cond.code yM_begin cM_begin 3 none ∈ tkWM := (List.mem_append_right _ (List.mem_append_left _ (List.mem_of_getElem? (i := 58) rfl)))
theorem wM_M_133 : Cond.methodLink "TickLinesModel" 133 yM_rule ∈ tkWM := (List.mem_append_right _ (List.mem_append_left _ (List.mem_of_getElem? (i := 59) rfl)))
theorem wI_M_rule : Cond.instanceMethod yM_rule ∈ tkWM := (List.mem_append_right _ (List.mem_append_right _ (List.mem_append_left _ (List.mem_of_getElem? (i := 0) rfl))))
theorem wC_M_rule : Cond.code yM_rule cM_rule 6 none ∈ tkWM := (List.mem_append_right _ (List.mem_append_right _ (List.mem_append_left _ (List.mem_of_getElem? (i := 1) rfl))))
theorem wM_M_126 : Cond.methodLink "TickLinesModel" 126 yM_firstHeld ∈ tkWM := (List.mem_append_right _ (List.mem_append_right _ (List.mem_append_left _ (List.mem_of_getElem? (i := 2) rfl))))
theorem wI_M_firstHeld : Cond.instanceMethod yM_firstHeld ∈ tkWM := (List.mem_append_right _ (List.mem_append_right _ (List.mem_append_left _ (List.mem_of_getElem? (i := 3) rfl))))
theorem wC_M_firstHeld : Cond.code yM_firstHeld cM_firstHeld 4 (some .int) ∈ tkWM := (List.mem_append_right _ (List.mem_append_right _ (List.mem_append_left _ (List.mem_of_getElem? (i := 4) rfl))))
theorem wM_M_111 : Cond.methodLink "TickLinesModel" 111 yM_holds ∈ tkWM := (List.mem_append_right _ (List.mem_append_right _ (List.mem_append_left _ (List.mem_of_getElem? (i := 5) rfl))))
theorem wI_M_holds : Cond.instanceMethod yM_holds ∈ tkWM := (List.mem_append_right _ (List.mem_append_right _ (List.mem_append_left _ (List.mem_of_getElem? (i := 6) rfl))))
theorem wC_M_holds : Cond.code yM_holds cM_holds 3 (some .boolean) ∈ tkWM := (List.mem_append_right _ (List.mem_append_right _ (List.mem_append_left _ (List.mem_of_getElem? (i := 7) rfl))))
theorem wM_M_166 : Cond.methodLink "TickLinesModel" 166 yM_writeSecond ∈ tkWM := (List.mem_append_right _ (List.mem_append_right _ (List.mem_append_left _ (List.mem_of_getElem? (i := 8) rfl))))
theorem wI_M_writeSecond : Cond.instanceMethod yM_writeSecond ∈ tkWM := (List.mem_append_right _ (List.mem_append_right _ (List.mem_append_left _ (List.mem_of_getElem? (i := 9) rfl))))
theorem wC_M_writeSecond : Cond.code yM_writeSecond cM_writeSecond 4 none ∈ tkWM := (List.mem_append_right _ (List.mem_append_right _ (List.mem_append_left _ (List.mem_of_getElem? (i := 10) rfl))))
theorem wM_M_169 : Cond.methodLink "TickLinesModel" 169 yM_follow ∈ tkWM := (List.mem_append_right _ (List.mem_append_right _ (List.mem_append_left _ (List.mem_of_getElem? (i := 11) rfl))))
theorem wI_M_follow : Cond.instanceMethod yM_follow ∈ tkWM := (List.mem_append_right _ (List.mem_append_right _ (List.mem_append_left _ (List.mem_of_getElem? (i := 12) rfl))))
theorem wC_M_follow : Cond.code yM_follow cM_follow 1 none ∈ tkWM := (List.mem_append_right _ (List.mem_append_right _ (List.mem_append_left _ (List.mem_of_getElem? (i := 13) rfl))))
theorem wM_M_119 : Cond.methodLink "TickLinesModel" 119 yM_set ∈ tkWM := (List.mem_append_right _ (List.mem_append_right _ (List.mem_append_left _ (List.mem_of_getElem? (i := 14) rfl))))
theorem wI_M_set : Cond.instanceMethod yM_set ∈ tkWM := (List.mem_append_right _ (List.mem_append_right _ (List.mem_append_left _ (List.mem_of_getElem? (i := 15) rfl))))
theorem wC_M_set : Cond.code yM_set cM_set 5 none ∈ tkWM := (List.mem_append_right _ (List.mem_append_right _ (List.mem_append_left _ (List.mem_of_getElem? (i := 16) rfl))))
theorem wM_M_123 : Cond.methodLink "TickLinesModel" 123 yM_choice ∈ tkWM := (List.mem_append_right _ (List.mem_append_right _ (List.mem_append_left _ (List.mem_of_getElem? (i := 17) rfl))))
theorem wI_M_choice : Cond.instanceMethod yM_choice ∈ tkWM := (List.mem_append_right _ (List.mem_append_right _ (List.mem_append_left _ (List.mem_of_getElem? (i := 18) rfl))))
theorem wC_M_choice : Cond.code yM_choice cM_choice 6 (some .int) ∈ tkWM := (List.mem_append_right _ (List.mem_append_right _ (List.mem_append_left _ (List.mem_of_getElem? (i := 19) rfl))))
theorem wM_M_115 : Cond.methodLink "TickLinesModel" 115 yM_requests ∈ tkWM := (List.mem_append_right _ (List.mem_append_right _ (List.mem_append_left _ (List.mem_of_getElem? (i := 20) rfl))))
theorem wI_M_requests : Cond.instanceMethod yM_requests ∈ tkWM := (List.mem_append_right _ (List.mem_append_right _ (List.mem_append_left _ (List.mem_of_getElem? (i := 21) rfl))))
theorem wC_M_requests : Cond.code yM_requests cM_requests 2 (some .int) ∈ tkWM := (List.mem_append_right _ (List.mem_append_right _ (List.mem_append_left _ (List.mem_of_getElem? (i := 22) rfl))))
theorem wI_M_read : Cond.instanceMethod yM_read ∈ tkWM := (List.mem_append_right _ (List.mem_append_right _ (List.mem_append_left _ (List.mem_of_getElem? (i := 23) rfl))))
theorem wS_M_read : Cond.selects "TickLinesModel" yM_read yM_read ∈ tkWM := (List.mem_append_right _ (List.mem_append_right _ (List.mem_append_left _ (List.mem_of_getElem? (i := 24) rfl))))
theorem wC_M_read : Cond.code yM_read cM_read 3 (some .int) ∈ tkWM := (List.mem_append_right _ (List.mem_append_right _ (List.mem_append_left _ (List.mem_of_getElem? (i := 25) rfl))))
theorem wM_M_172 : Cond.methodLink "TickLinesModel" 172 yM_readCounter ∈ tkWM := (List.mem_append_right _ (List.mem_append_right _ (List.mem_append_left _ (List.mem_of_getElem? (i := 26) rfl))))
theorem wI_M_readCounter : Cond.instanceMethod yM_readCounter ∈ tkWM := (List.mem_append_right _ (List.mem_append_right _ (List.mem_append_left _ (List.mem_of_getElem? (i := 27) rfl))))
theorem wC_M_readCounter : Cond.code yM_readCounter cM_readCounter 5 (some .int) ∈ tkWM := (List.mem_append_right _ (List.mem_append_right _ (List.mem_append_left _ (List.mem_of_getElem? (i := 28) rfl))))
theorem wM_M_175 : Cond.methodLink "TickLinesModel" 175 yM_readFirst ∈ tkWM := (List.mem_append_right _ (List.mem_append_right _ (List.mem_append_left _ (List.mem_of_getElem? (i := 29) rfl))))
theorem wI_M_readFirst : Cond.instanceMethod yM_readFirst ∈ tkWM := (List.mem_append_right _ (List.mem_append_right _ (List.mem_append_left _ (List.mem_of_getElem? (i := 30) rfl))))
theorem wC_M_readFirst : Cond.code yM_readFirst cM_readFirst 3 (some .int) ∈ tkWM := (List.mem_append_right _ (List.mem_append_right _ (List.mem_append_left _ (List.mem_of_getElem? (i := 31) rfl))))
theorem wM_M_136 : Cond.methodLink "TickLinesModel" 136 yM_serve ∈ tkWM := (List.mem_append_right _ (List.mem_append_right _ (List.mem_append_left _ (List.mem_of_getElem? (i := 32) rfl))))
theorem wI_M_serve : Cond.instanceMethod yM_serve ∈ tkWM := (List.mem_append_right _ (List.mem_append_right _ (List.mem_append_left _ (List.mem_of_getElem? (i := 33) rfl))))
theorem wC_M_serve : Cond.code yM_serve cM_serve 3 none ∈ tkWM := (List.mem_append_right _ (List.mem_append_right _ (List.mem_append_left _ (List.mem_of_getElem? (i := 34) rfl))))
theorem wI_M_line : Cond.instanceMethod yM_line ∈ tkWM := (List.mem_append_right _ (List.mem_append_right _ (List.mem_append_left _ (List.mem_of_getElem? (i := 35) rfl))))
theorem wS_M_line : Cond.selects "TickLinesModel" yM_line yM_line ∈ tkWM := (List.mem_append_right _ (List.mem_append_right _ (List.mem_append_left _ (List.mem_of_getElem? (i := 36) rfl))))
theorem wC_M_line : Cond.code yM_line cM_line 4 (some .boolean) ∈ tkWM := (List.mem_append_right _ (List.mem_append_right _ (List.mem_append_left _ (List.mem_of_getElem? (i := 37) rfl))))
theorem wI_M_gate : Cond.instanceMethod yM_gate ∈ tkWM := (List.mem_append_right _ (List.mem_append_right _ (List.mem_append_left _ (List.mem_of_getElem? (i := 38) rfl))))
theorem wS_M_gate : Cond.selects "TickLinesModel" yM_gate yM_gate ∈ tkWM := (List.mem_append_right _ (List.mem_append_right _ (List.mem_append_left _ (List.mem_of_getElem? (i := 39) rfl))))
theorem wC_M_gate : Cond.code yM_gate cM_gate 5 (some .boolean) ∈ tkWM := (List.mem_append_right _ (List.mem_append_right _ (List.mem_append_left _ (List.mem_of_getElem? (i := 40) rfl))))
theorem wI_M_tick : Cond.instanceMethod yM_tick ∈ tkWM := (List.mem_append_right _ (List.mem_append_right _ (List.mem_append_left _ (List.mem_of_getElem? (i := 41) rfl))))
theorem wS_M_tick : Cond.selects "TickLinesModel" yM_tick yM_tick ∈ tkWM := (List.mem_append_right _ (List.mem_append_right _ (List.mem_append_left _ (List.mem_of_getElem? (i := 42) rfl))))
theorem wC_M_tick : Cond.code yM_tick cM_tick 6 (some .int) ∈ tkWM := (List.mem_append_right _ (List.mem_append_right _ (List.mem_append_left _ (List.mem_of_getElem? (i := 43) rfl))))
theorem wM_M_178 : Cond.methodLink "TickLinesModel" 178 yM_tickOne ∈ tkWM := (List.mem_append_right _ (List.mem_append_right _ (List.mem_append_left _ (List.mem_of_getElem? (i := 44) rfl))))
theorem wI_M_tickOne : Cond.instanceMethod yM_tickOne ∈ tkWM := (List.mem_append_right _ (List.mem_append_right _ (List.mem_append_left _ (List.mem_of_getElem? (i := 45) rfl))))
theorem wC_M_tickOne : Cond.code yM_tickOne cM_tickOne 3 none ∈ tkWM := (List.mem_append_right _ (List.mem_append_right _ (List.mem_append_left _ (List.mem_of_getElem? (i := 46) rfl))))
theorem wM_M_148 : Cond.methodLink "TickLinesModel" 148 yM_put ∈ tkWM := (List.mem_append_right _ (List.mem_append_right _ (List.mem_append_left _ (List.mem_of_getElem? (i := 47) rfl))))
theorem wI_M_put : Cond.instanceMethod yM_put ∈ tkWM := (List.mem_append_right _ (List.mem_append_right _ (List.mem_append_left _ (List.mem_of_getElem? (i := 48) rfl))))
theorem wC_M_put : Cond.code yM_put cM_put 3 none ∈ tkWM := (List.mem_append_right _ (List.mem_append_right _ (List.mem_append_left _ (List.mem_of_getElem? (i := 49) rfl))))
theorem wK_M_147 : Cond.constant "TickLinesModel" 147 65535 ∈ tkWM := (List.mem_append_right _ (List.mem_append_right _ (List.mem_append_left _ (List.mem_of_getElem? (i := 50) rfl))))
theorem wM_M_154 : Cond.methodLink "TickLinesModel" 154 yM_step ∈ tkWM := (List.mem_append_right _ (List.mem_append_right _ (List.mem_append_left _ (List.mem_of_getElem? (i := 51) rfl))))
theorem wI_M_step : Cond.instanceMethod yM_step ∈ tkWM := (List.mem_append_right _ (List.mem_append_right _ (List.mem_append_left _ (List.mem_of_getElem? (i := 52) rfl))))
theorem wC_M_step : Cond.code yM_step cM_step 3 none ∈ tkWM := (List.mem_append_right _ (List.mem_append_right _ (List.mem_append_left _ (List.mem_of_getElem? (i := 53) rfl))))
theorem wM_M_151 : Cond.methodLink "TickLinesModel" 151 yM_turn ∈ tkWM := (List.mem_append_right _ (List.mem_append_right _ (List.mem_append_left _ (List.mem_of_getElem? (i := 54) rfl))))
theorem wI_M_turn : Cond.instanceMethod yM_turn ∈ tkWM := (List.mem_append_right _ (List.mem_append_right _ (List.mem_append_left _ (List.mem_of_getElem? (i := 55) rfl))))
theorem wC_M_turn : Cond.code yM_turn cM_turn 3 none ∈ tkWM := (List.mem_append_right _ (List.mem_append_right _ (List.mem_append_left _ (List.mem_of_getElem? (i := 56) rfl))))
theorem wI_M_acknowledge : Cond.instanceMethod yM_acknowledge ∈ tkWM := (List.mem_append_right _ (List.mem_append_right _ (List.mem_append_left _ (List.mem_of_getElem? (i := 57) rfl))))
theorem wS_M_acknowledge : Cond.selects "TickLinesModel" yM_acknowledge yM_acknowledge ∈ tkWM := (List.mem_append_right _ (List.mem_append_right _ (List.mem_append_left _ (List.mem_of_getElem? (i := 58) rfl))))
theorem wC_M_acknowledge : Cond.code yM_acknowledge cM_acknowledge 4 (some .int) ∈ tkWM := (List.mem_append_right _ (List.mem_append_right _ (List.mem_append_left _ (List.mem_of_getElem? (i := 59) rfl))))
theorem wI_M_chosen : Cond.instanceMethod yM_chosen ∈ tkWM := (List.mem_append_right _ (List.mem_append_right _ (List.mem_append_right _ (List.mem_of_getElem? (i := 0) rfl))))
theorem wS_M_chosen : Cond.selects "TickLinesModel" yM_chosen yM_chosen ∈ tkWM := (List.mem_append_right _ (List.mem_append_right _ (List.mem_append_right _ (List.mem_of_getElem? (i := 1) rfl))))
theorem wC_M_chosen : Cond.code yM_chosen cM_chosen 2 (some .int) ∈ tkWM := (List.mem_append_right _ (List.mem_append_right _ (List.mem_append_right _ (List.mem_of_getElem? (i := 2) rfl))))
theorem wI_M_about : Cond.instanceMethod yM_about ∈ tkWM := (List.mem_append_right _ (List.mem_append_right _ (List.mem_append_right _ (List.mem_of_getElem? (i := 3) rfl))))
theorem wS_M_about : Cond.selects "TickLinesModel" yM_about yM_about ∈ tkWM := (List.mem_append_right _ (List.mem_append_right _ (List.mem_append_right _ (List.mem_of_getElem? (i := 4) rfl))))
theorem wC_M_about : Cond.code yM_about cM_about 3 (some .int) ∈ tkWM := (List.mem_append_right _ (List.mem_append_right _ (List.mem_append_right _ (List.mem_of_getElem? (i := 5) rfl))))
theorem wI_M_counter : Cond.instanceMethod yM_counter ∈ tkWM := (List.mem_append_right _ (List.mem_append_right _ (List.mem_append_right _ (List.mem_of_getElem? (i := 6) rfl))))
theorem wS_M_counter : Cond.selects "TickLinesModel" yM_counter yM_counter ∈ tkWM := (List.mem_append_right _ (List.mem_append_right _ (List.mem_append_right _ (List.mem_of_getElem? (i := 7) rfl))))
theorem wC_M_counter : Cond.code yM_counter cM_counter 3 (some .int) ∈ tkWM := (List.mem_append_right _ (List.mem_append_right _ (List.mem_append_right _ (List.mem_of_getElem? (i := 8) rfl))))
theorem wC_objM : Cond.code objectInit ⟨#[0xb1]⟩ 1 none ∈ tkWM := (List.mem_append_right _ (List.mem_append_right _ (List.mem_append_right _ (List.mem_of_getElem? (i := 9) rfl))))
theorem wI_objM : Cond.instanceMethod objectInit ∈ tkWM := (List.mem_append_right _ (List.mem_append_right _ (List.mem_append_right _ (List.mem_of_getElem? (i := 10) rfl))))
theorem tkWM_g0 : ∀ w ∈ tkWM_0, goodWord w = true := by decide +kernel
theorem tkWM_g1 : ∀ w ∈ tkWM_1, goodWord w = true := by decide +kernel
theorem tkWM_g2 : ∀ w ∈ tkWM_2, goodWord w = true := by decide +kernel
theorem tkWM_g3 : ∀ w ∈ tkWM_3, goodWord w = true := by decide +kernel
theorem tkWM_good : ∀ w ∈ tkWM, goodWord w = true := fun w h => (List.mem_append.mp h).elim (fun h => tkWM_g0 w h) (fun h => (List.mem_append.mp h).elim (fun h => tkWM_g1 w h) (fun h => (List.mem_append.mp h).elim (fun h => tkWM_g2 w h) (fun h => tkWM_g3 w h)))
set_option maxRecDepth 20000 in
theorem inC : ∀ w ∈ u_ws RC TC 18, w ∈ tkW := by decide +kernel
set_option maxRecDepth 20000 in
theorem inN : ∀ w ∈ u_ws RN TN 14, w ∈ tkW := by decide +kernel
set_option maxRecDepth 20000 in
theorem inT : ∀ w ∈ u_ws RT TT 3, w ∈ tkW := by decide +kernel
set_option maxRecDepth 20000 in
theorem inM : ∀ w ∈ u_ws RM TM 33, w ∈ tkWM := by decide +kernel
abbrev wsN_init : List Cond := .code yN_init cN_init 1 none :: tkW
abbrev wsN_hasMode : List Cond := .code yN_hasMode cN_hasMode 1 (some .boolean) :: tkW
abbrev wsN_setMode : List Cond := .code yN_setMode cN_setMode 3 none :: tkW
abbrev wsN_latchCount : List Cond := .code yN_latchCount cN_latchCount 1 none :: tkW
abbrev wsN_latchStatus : List Cond := .code yN_latchStatus cN_latchStatus 1 none :: tkW
abbrev wsN_takeByte : List Cond := .code yN_takeByte cN_takeByte 2 none :: tkW
abbrev wsN_giveByte : List Cond := .code yN_giveByte cN_giveByte 3 (some .int) :: tkW
abbrev wsN_setGate : List Cond := .code yN_setGate cN_setGate 4 none :: tkW
abbrev wsN_step : List Cond := .code yN_step cN_step 1 none :: tkW
abbrev wsN_tell : List Cond := .code yN_tell cN_tell 2 (some .int) :: tkW
abbrev wsN_isEmpty : List Cond := .code yN_isEmpty cN_isEmpty 1 (some .boolean) :: tkW
abbrev wsN_standsBetweenBytes : List Cond := .code yN_standsBetweenBytes cN_standsBetweenBytes 1 (some .boolean) :: tkW
abbrev wsN_isPeriodic : List Cond := .code yN_isPeriodic cN_isPeriodic 1 (some .boolean) :: tkW
abbrev wsN_gateLoads : List Cond := .code yN_gateLoads cN_gateLoads 1 (some .boolean) :: tkW
abbrev wsN_gateHoldsBack : List Cond := .code yN_gateHoldsBack cN_gateHoldsBack 1 (some .boolean) :: tkW
abbrev wsN_takeReload : List Cond := .code yN_takeReload cN_takeReload 3 none :: tkW
abbrev wsN_load : List Cond := .code yN_load cN_load 1 none :: tkW
abbrev wsN_partTicks : List Cond := .code yN_partTicks cN_partTicks 1 (some .int) :: tkW
abbrev wsN_setCount : List Cond := .code yN_setCount cN_setCount 2 none :: tkW
abbrev wsN_countDown : List Cond := .code yN_countDown cN_countDown 1 none :: tkW
abbrev wsN_lessen : List Cond := .code yN_lessen cN_lessen 2 none :: tkW
abbrev wsN_stepOnce : List Cond := .code yN_stepOnce cN_stepOnce 1 none :: tkW
abbrev wsN_stepRate : List Cond := .code yN_stepRate cN_stepRate 1 none :: tkW
abbrev wsN_stepSquare : List Cond := .code yN_stepSquare cN_stepSquare 1 none :: tkW
abbrev wsN_stepStrobe : List Cond := .code yN_stepStrobe cN_stepStrobe 1 none :: tkW
abbrev wsC_init : List Cond := .code yC_init cC_init 2 none :: tkW
abbrev wsC_setLine : List Cond := .code yC_setLine cC_setLine 4 none :: tkW
abbrev wsC_chosenLevel : List Cond := .code yC_chosenLevel cC_chosenLevel 6 (some .int) :: tkW
abbrev wsC_serveChosen : List Cond := .code yC_serveChosen cC_serveChosen 2 (some .int) :: tkW
abbrev wsC_vectorOf : List Cond := .code yC_vectorOf cC_vectorOf 2 (some .int) :: tkW
abbrev wsC_takeSideZero : List Cond := .code yC_takeSideZero cC_takeSideZero 2 none :: tkW
abbrev wsC_takeSideOne : List Cond := .code yC_takeSideOne cC_takeSideOne 2 none :: tkW
abbrev wsC_giveSideZero : List Cond := .code yC_giveSideZero cC_giveSideZero 2 (some .int) :: tkW
abbrev wsC_tell : List Cond := .code yC_tell cC_tell 2 (some .int) :: tkW
abbrev wsC_requests : List Cond := .code yC_requests cC_requests 1 (some .int) :: tkW
abbrev wsC_holdingLevels : List Cond := .code yC_holdingLevels cC_holdingLevels 1 (some .int) :: tkW
abbrev wsC_mayNest : List Cond := .code yC_mayNest cC_mayNest 2 (some .boolean) :: tkW
abbrev wsC_serve : List Cond := .code yC_serve cC_serve 2 none :: tkW
abbrev wsC_beginSettingUp : List Cond := .code yC_beginSettingUp cC_beginSettingUp 2 none :: tkW
abbrev wsC_awaitFrom : List Cond := .code yC_awaitFrom cC_awaitFrom 2 none :: tkW
abbrev wsC_becomeReady : List Cond := .code yC_becomeReady cC_becomeReady 1 none :: tkW
abbrev wsC_takeServiceCommand : List Cond := .code yC_takeServiceCommand cC_takeServiceCommand 3 none :: tkW
abbrev wsC_takeReadingCommand : List Cond := .code yC_takeReadingCommand cC_takeReadingCommand 2 none :: tkW
abbrev wsC_firstHolding : List Cond := .code yC_firstHolding cC_firstHolding 4 (some .int) :: tkW
abbrev wsC_endService : List Cond := .code yC_endService cC_endService 2 none :: tkW
abbrev wsC_endServiceAndTurn : List Cond := .code yC_endServiceAndTurn cC_endServiceAndTurn 2 none :: tkW
abbrev wsT_init : List Cond := .code yT_init cT_init 1 none :: tkW
abbrev wsT_write : List Cond := .code yT_write cT_write 3 none :: tkW
abbrev wsT_read : List Cond := .code yT_read cT_read 3 (some .int) :: tkW
abbrev wsT_line : List Cond := .code yT_line cT_line 4 (some .boolean) :: tkW
abbrev wsT_gate : List Cond := .code yT_gate cT_gate 3 (some .boolean) :: tkW
abbrev wsT_tick : List Cond := .code yT_tick cT_tick 6 (some .int) :: tkW
abbrev wsT_acknowledge : List Cond := .code yT_acknowledge cT_acknowledge 3 (some .int) :: tkW
abbrev wsT_chosen : List Cond := .code yT_chosen cT_chosen 2 (some .int) :: tkW
abbrev wsT_about : List Cond := .code yT_about cT_about 3 (some .int) :: tkW
abbrev wsT_counter : List Cond := .code yT_counter cT_counter 3 (some .int) :: tkW
abbrev wsT_isPort : List Cond := .code yT_isPort cT_isPort 1 (some .boolean) :: tkW
abbrev wsT_isCounterPort : List Cond := .code yT_isCounterPort cT_isCounterPort 1 (some .boolean) :: tkW
abbrev wsT_isController : List Cond := .code yT_isController cT_isController 1 (some .boolean) :: tkW
abbrev wsT_isCounter : List Cond := .code yT_isCounter cT_isCounter 1 (some .boolean) :: tkW
abbrev wsT_asBit : List Cond := .code yT_asBit cT_asBit 1 (some .int) :: tkW
abbrev wsT_hasBit : List Cond := .code yT_hasBit cT_hasBit 2 (some .boolean) :: tkW
abbrev wsT_controllerOf : List Cond := .code yT_controllerOf cT_controllerOf 2 (some (.object "TickLines$Controller")) :: tkW
abbrev wsT_counterWithMode : List Cond := .code yT_counterWithMode cT_counterWithMode 3 (some (.object "TickLines$Counter")) :: tkW
abbrev wsT_takeControl : List Cond := .code yT_takeControl cT_takeControl 4 none :: tkW
abbrev wsT_latchMany : List Cond := .code yT_latchMany cT_latchMany 3 none :: tkW
abbrev wsT_followLines : List Cond := .code yT_followLines cT_followLines 1 none :: tkW
abbrev wsM_init : List Cond := .code yM_init cM_init 1 none :: tkWM
abbrev wsM_thrown : List Cond := .code yM_thrown cM_thrown 1 (some .int) :: tkWM
abbrev wsM_requests : List Cond := .code yM_requests cM_requests 2 (some .int) :: tkWM
abbrev wsM_holds : List Cond := .code yM_holds cM_holds 3 (some .boolean) :: tkWM
abbrev wsM_choice : List Cond := .code yM_choice cM_choice 6 (some .int) :: tkWM
abbrev wsM_serve : List Cond := .code yM_serve cM_serve 3 none :: tkWM
abbrev wsM_set : List Cond := .code yM_set cM_set 5 none :: tkWM
abbrev wsM_follow : List Cond := .code yM_follow cM_follow 1 none :: tkWM
abbrev wsM_firstHeld : List Cond := .code yM_firstHeld cM_firstHeld 4 (some .int) :: tkWM
abbrev wsM_begin : List Cond := .code yM_begin cM_begin 3 none :: tkWM
abbrev wsM_rule : List Cond := .code yM_rule cM_rule 6 none :: tkWM
abbrev wsM_writeFirst : List Cond := .code yM_writeFirst cM_writeFirst 3 none :: tkWM
abbrev wsM_writeSecond : List Cond := .code yM_writeSecond cM_writeSecond 4 none :: tkWM
abbrev wsM_readFirst : List Cond := .code yM_readFirst cM_readFirst 3 (some .int) :: tkWM
abbrev wsM_latch : List Cond := .code yM_latch cM_latch 2 none :: tkWM
abbrev wsM_latchStatus : List Cond := .code yM_latchStatus cM_latchStatus 3 none :: tkWM
abbrev wsM_control : List Cond := .code yM_control cM_control 6 none :: tkWM
abbrev wsM_writeCounter : List Cond := .code yM_writeCounter cM_writeCounter 6 none :: tkWM
abbrev wsM_readCounter : List Cond := .code yM_readCounter cM_readCounter 5 (some .int) :: tkWM
abbrev wsM_put : List Cond := .code yM_put cM_put 3 none :: tkWM
abbrev wsM_step : List Cond := .code yM_step cM_step 3 none :: tkWM
abbrev wsM_turn : List Cond := .code yM_turn cM_turn 3 none :: tkWM
abbrev wsM_tickOne : List Cond := .code yM_tickOne cM_tickOne 3 none :: tkWM
abbrev wsM_write : List Cond := .code yM_write cM_write 4 none :: tkWM
abbrev wsM_read : List Cond := .code yM_read cM_read 3 (some .int) :: tkWM
abbrev wsM_line : List Cond := .code yM_line cM_line 4 (some .boolean) :: tkWM
abbrev wsM_gate : List Cond := .code yM_gate cM_gate 5 (some .boolean) :: tkWM
abbrev wsM_tick : List Cond := .code yM_tick cM_tick 6 (some .int) :: tkWM
abbrev wsM_acknowledge : List Cond := .code yM_acknowledge cM_acknowledge 4 (some .int) :: tkWM
abbrev wsM_chosen : List Cond := .code yM_chosen cM_chosen 2 (some .int) :: tkWM
abbrev wsM_about : List Cond := .code yM_about cM_about 3 (some .int) :: tkWM
abbrev wsM_counter : List Cond := .code yM_counter cM_counter 3 (some .int) :: tkWM
def tk_Z : List Cond := [.fieldLinkNest "TickLines" 69 "TickLines$Controller" "mask" "I" "TickLines", .fieldLinkNest "TickLines" 93 "TickLines$Controller" "ready" "Z" "TickLines", .fieldLinkNest "TickLines" 102 "TickLines$Controller" "single" "Z" "TickLines", .fieldLinkNest "TickLines" 86 "TickLines$Counter" "output" "Z" "TickLines", .methodLinkNest "TickLines$Controller" 38 yT_hasBit "TickLines", .methodLinkNest "TickLines$Controller" 96 yT_asBit "TickLines", .methodLinkNest "TickLines$Counter" 56 yT_asBit "TickLines", .castable "java/lang/IllegalArgumentException" "java/lang/IllegalArgumentException", .castable "java/lang/IllegalStateException" "java/lang/IllegalStateException", .declares ⟨"java/lang/RuntimeException", "<init>", "()V"⟩, .declares ⟨"java/lang/Exception", "<init>", "()V"⟩, .declares ⟨"java/lang/Throwable", "<init>", "()V"⟩]
