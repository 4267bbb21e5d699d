/-- the words of the tables that a callee may be handed -/
def rx_tbl : List Cond := lw_tbl.filter goodWord
theorem rx_in {i : Nat} {w : Cond} (h : lw_tbl[i]? = some w) (hg : goodWord w = true) : w ∈ rx_tbl := List.mem_filter.mpr ⟨List.mem_of_getElem? h, hg⟩
theorem rx_tbl_good : ∀ w ∈ rx_tbl, goodWord w = true := fun w h => (List.mem_filter.mp h).2
def RX0 : String := "AntBand$Acts"
def TX0 : u_T := fun k => match k with
  | 0 => ("AntBand$Acts", "before", "[LAntBand$Band;", true)
  | 1 => ("AntBand$Acts", "oldest", "I", false)
  | _ => ("AntBand$Acts", "kept", "I", false)
def tyX0 : Nat → FieldType := fun k => match k with
  | 0 => .array (.object "AntBand$Band")
  | 1 => .int
  | _ => .int
theorem nmX0 : ∀ a, a < 3 → ∀ b, b < 3 → a ≠ b → (TX0 a).2.1 ≠ (TX0 b).2.1 := by decide +kernel
theorem tyX0_ok : ∀ k, k < 3 → parseFieldDescriptor (TX0 k).2.2.1 = some (tyX0 k) := by decide +kernel
abbrev cX0_init : ByteArray := prog_2_method_1_code
def yX0_init : MethodName := ⟨RX0, "<init>", "()V"⟩
abbrev cX0_keep : ByteArray := prog_2_method_2_code
def yX0_keep : MethodName := ⟨RX0, "keep", "(LAntBand$Band;)V"⟩
abbrev cX0_takeBack : ByteArray := prog_2_method_3_code
def yX0_takeBack : MethodName := ⟨RX0, "takeBack", "(LAntBand$Band;)I"⟩
abbrev cX0_forget : ByteArray := prog_2_method_4_code
def yX0_forget : MethodName := ⟨RX0, "forget", "()V"⟩
def RX1 : String := "AntBand$Ant"
def TX1 : u_T := fun k => match k with
  | 0 => ("AntBand$Ant", "kind", "I", false)
  | 1 => ("AntBand$Ant", "step", "I", false)
  | 2 => ("AntBand$Ant", "from", "I", false)
  | 3 => ("AntBand$Ant", "rest", "I", false)
  | 4 => ("AntBand$Ant", "part", "I", false)
  | _ => ("AntBand$Ant", "arrived", "Z", false)
def tyX1 : Nat → FieldType := fun k => match k with
  | 0 => .int
  | 1 => .int
  | 2 => .int
  | 3 => .int
  | 4 => .int
  | _ => .boolean
theorem nmX1 : ∀ a, a < 6 → ∀ b, b < 6 → a ≠ b → (TX1 a).2.1 ≠ (TX1 b).2.1 := by decide +kernel
theorem tyX1_ok : ∀ k, k < 6 → parseFieldDescriptor (TX1 k).2.2.1 = some (tyX1 k) := by decide +kernel
abbrev cX1_init : ByteArray := prog_3_method_1_code
def yX1_init : MethodName := ⟨RX1, "<init>", "()V"⟩
abbrev cX1_tell : ByteArray := prog_3_method_2_code
def yX1_tell : MethodName := ⟨RX1, "tell", "(IIII)V"⟩
abbrev cX1_takeFrom : ByteArray := prog_3_method_3_code
def yX1_takeFrom : MethodName := ⟨RX1, "takeFrom", "(LAntBand$Ant;)V"⟩
abbrev cX1_hundredth : ByteArray := prog_3_method_4_code
def yX1_hundredth : MethodName := ⟨RX1, "hundredth", "()I"⟩
abbrev cX1_isOf : ByteArray := prog_3_method_5_code
def yX1_isOf : MethodName := ⟨RX1, "isOf", "(I)Z"⟩
abbrev cX1_goesToNail : ByteArray := prog_3_method_6_code
def yX1_goesToNail : MethodName := ⟨RX1, "goesToNail", "(I)Z"⟩
abbrev cX1_gait : ByteArray := prog_3_method_7_code
def yX1_gait : MethodName := ⟨RX1, "gait", "(I)I"⟩
abbrev cX1_go : ByteArray := prog_3_method_8_code
def yX1_go : MethodName := ⟨RX1, "go", "(II)V"⟩
def RX2 : String := "AntBand$Asks"
def TX2 : u_T := fun k => match k with
  | 0 => ("AntBand$Asks", "trace", "[I", true)
  | 1 => ("AntBand$Asks", "traceLength", "I", false)
  | 2 => ("AntBand$Asks", "number", "I", false)
  | 3 => ("AntBand$Asks", "stepOfOne", "I", false)
  | 4 => ("AntBand$Asks", "hundredthOfOne", "I", false)
  | 5 => ("AntBand$Asks", "sizeBody", "I", false)
  | _ => ("AntBand$Asks", "markBody", "I", false)
def tyX2 : Nat → FieldType := fun k => match k with
  | 0 => .array .int
  | 1 => .int
  | 2 => .int
  | 3 => .int
  | 4 => .int
  | 5 => .int
  | _ => .int
theorem nmX2 : ∀ a, a < 7 → ∀ b, b < 7 → a ≠ b → (TX2 a).2.1 ≠ (TX2 b).2.1 := by decide +kernel
theorem tyX2_ok : ∀ k, k < 7 → parseFieldDescriptor (TX2 k).2.2.1 = some (tyX2 k) := by decide +kernel
abbrev cX2_init : ByteArray := prog_4_method_1_code
def yX2_init : MethodName := ⟨RX2, "<init>", "()V"⟩
abbrev cX2_answer : ByteArray := prog_4_method_2_code
def yX2_answer : MethodName := ⟨RX2, "answer", "(LAntBand$Ant;IZ)I"⟩
abbrev cX2_begin : ByteArray := prog_4_method_3_code
def yX2_begin : MethodName := ⟨RX2, "begin", "(II)I"⟩
abbrev cX2_leave : ByteArray := prog_4_method_4_code
def yX2_leave : MethodName := ⟨RX2, "leave", "(I)V"⟩
def RX3 : String := "AntBand$Band"
def TX3 : u_T := fun k => match k with
  | 0 => ("AntBand$Band", "length", "I", false)
  | 1 => ("AntBand$Band", "minute", "I", false)
  | 2 => ("AntBand$Band", "pullCount", "I", false)
  | 3 => ("AntBand$Band", "antCount", "I", false)
  | 4 => ("AntBand$Band", "inches", "[I", true)
  | _ => ("AntBand$Band", "ants", "[LAntBand$Ant;", true)
def tyX3 : Nat → FieldType := fun k => match k with
  | 0 => .int
  | 1 => .int
  | 2 => .int
  | 3 => .int
  | 4 => .array .int
  | _ => .array (.object "AntBand$Ant")
theorem nmX3 : ∀ a, a < 6 → ∀ b, b < 6 → a ≠ b → (TX3 a).2.1 ≠ (TX3 b).2.1 := by decide +kernel
theorem tyX3_ok : ∀ k, k < 6 → parseFieldDescriptor (TX3 k).2.2.1 = some (tyX3 k) := by decide +kernel
abbrev cX3_init : ByteArray := prog_5_method_1_code
def yX3_init : MethodName := ⟨RX3, "<init>", "()V"⟩
abbrev cX3_clear : ByteArray := prog_5_method_2_code
def yX3_clear : MethodName := ⟨RX3, "clear", "()V"⟩
abbrev cX3_addPull : ByteArray := prog_5_method_3_code
def yX3_addPull : MethodName := ⟨RX3, "addPull", "(I)V"⟩
abbrev cX3_addAnt : ByteArray := prog_5_method_4_code
def yX3_addAnt : MethodName := ⟨RX3, "addAnt", "(IIII)V"⟩
abbrev cX3_takeFrom : ByteArray := prog_5_method_5_code
def yX3_takeFrom : MethodName := ⟨RX3, "takeFrom", "(LAntBand$Band;)V"⟩
abbrev cX3_hasAnt : ByteArray := prog_5_method_6_code
def yX3_hasAnt : MethodName := ⟨RX3, "hasAnt", "(I)Z"⟩
abbrev cX3_passMinute : ByteArray := prog_5_method_7_code
def yX3_passMinute : MethodName := ⟨RX3, "passMinute", "(I)V"⟩
abbrev cX3_passMinuteOf : ByteArray := prog_5_method_8_code
def yX3_passMinuteOf : MethodName := ⟨RX3, "passMinuteOf", "(I)V"⟩
abbrev cX3_stretchInTurn : ByteArray := prog_5_method_9_code
def yX3_stretchInTurn : MethodName := ⟨RX3, "stretchInTurn", "()V"⟩
abbrev cX3_stretch : ByteArray := prog_5_method_10_code
def yX3_stretch : MethodName := ⟨RX3, "stretch", "(I)V"⟩
abbrev cX3_slacken : ByteArray := prog_5_method_11_code
def yX3_slacken : MethodName := ⟨RX3, "slacken", "()V"⟩
abbrev cX3_arrivedBits : ByteArray := prog_5_method_12_code
def yX3_arrivedBits : MethodName := ⟨RX3, "arrivedBits", "()I"⟩
abbrev cX3_firstAhead : ByteArray := prog_5_method_13_code
def yX3_firstAhead : MethodName := ⟨RX3, "firstAhead", "()I"⟩
def RX4 : String := "AntBand$Foretold"
def TX4 : u_T := fun k => match k with
  | 0 => ("AntBand$Foretold", "then", "LAntBand$Band;", true)
  | 1 => ("AntBand$Foretold", "trial", "[I", true)
  | 2 => ("AntBand$Foretold", "best", "[I", true)
  | 3 => ("AntBand$Foretold", "marks", "[I", true)
  | 4 => ("AntBand$Foretold", "markCount", "I", false)
  | 5 => ("AntBand$Foretold", "above", "J", false)
  | _ => ("AntBand$Foretold", "below", "J", false)
def tyX4 : Nat → FieldType := fun k => match k with
  | 0 => .object "AntBand$Band"
  | 1 => .array .int
  | 2 => .array .int
  | 3 => .array .int
  | 4 => .int
  | 5 => .long
  | _ => .long
theorem nmX4 : ∀ a, a < 7 → ∀ b, b < 7 → a ≠ b → (TX4 a).2.1 ≠ (TX4 b).2.1 := by decide +kernel
theorem tyX4_ok : ∀ k, k < 7 → parseFieldDescriptor (TX4 k).2.2.1 = some (tyX4 k) := by decide +kernel
abbrev cX4_init : ByteArray := prog_6_method_1_code
def yX4_init : MethodName := ⟨RX4, "<init>", "()V"⟩
abbrev cX4_lookAhead : ByteArray := prog_6_method_2_code
def yX4_lookAhead : MethodName := ⟨RX4, "lookAhead", "(LAntBand$Band;I)V"⟩
abbrev cX4_partBehind : ByteArray := prog_6_method_3_code
def yX4_partBehind : MethodName := ⟨RX4, "partBehind", "(LAntBand$Band;II)I"⟩
abbrev cX4_partOnward : ByteArray := prog_6_method_4_code
def yX4_partOnward : MethodName := ⟨RX4, "partOnward", "(II)I"⟩
abbrev cX4_arrival : ByteArray := prog_6_method_5_code
def yX4_arrival : MethodName := ⟨RX4, "arrival", "(LAntBand$Band;I)I"⟩
abbrev cX4_arrivalOnward : ByteArray := prog_6_method_6_code
def yX4_arrivalOnward : MethodName := ⟨RX4, "arrivalOnward", "(II)I"⟩
abbrev cX4_meeting : ByteArray := prog_6_method_7_code
def yX4_meeting : MethodName := ⟨RX4, "meeting", "(LAntBand$Band;II)I"⟩
abbrev cX4_halfCrossed : ByteArray := prog_6_method_8_code
def yX4_halfCrossed : MethodName := ⟨RX4, "halfCrossed", "(LAntBand$Band;I)I"⟩
abbrev cX4_leastStep : ByteArray := prog_6_method_9_code
def yX4_leastStep : MethodName := ⟨RX4, "leastStep", "(LAntBand$Band;II)I"⟩
abbrev cX4_greatestPull : ByteArray := prog_6_method_10_code
def yX4_greatestPull : MethodName := ⟨RX4, "greatestPull", "(LAntBand$Band;II)I"⟩
abbrev cX4_bestRest : ByteArray := prog_6_method_11_code
def yX4_bestRest : MethodName := ⟨RX4, "bestRest", "(LAntBand$Band;II)I"⟩
abbrev cX4_bestOrder : ByteArray := prog_6_method_12_code
def yX4_bestOrder : MethodName := ⟨RX4, "bestOrder", "(LAntBand$Band;IZ)I"⟩
abbrev cX4_arrivalInOrder : ByteArray := prog_6_method_13_code
def yX4_arrivalInOrder : MethodName := ⟨RX4, "arrivalInOrder", "(LAntBand$Band;II)I"⟩
abbrev cX4_nextOrder : ByteArray := prog_6_method_14_code
def yX4_nextOrder : MethodName := ⟨RX4, "nextOrder", "(I)Z"⟩
abbrev cX4_swap : ByteArray := prog_6_method_15_code
def yX4_swap : MethodName := ⟨RX4, "swap", "(II)V"⟩
abbrev cX4_passing : ByteArray := prog_6_method_16_code
def yX4_passing : MethodName := ⟨RX4, "passing", "(LAntBand$Band;II)I"⟩
abbrev cX4_aheadOf : ByteArray := prog_6_method_17_code
def yX4_aheadOf : MethodName := ⟨RX4, "aheadOf", "(I)I"⟩
abbrev cX4_readMarks : ByteArray := prog_6_method_18_code
def yX4_readMarks : MethodName := ⟨RX4, "readMarks", "([III)V"⟩
abbrev cX4_fitting : ByteArray := prog_6_method_19_code
def yX4_fitting : MethodName := ⟨RX4, "fitting", "(LAntBand$Band;II)I"⟩
abbrev cX4_fittingAnts : ByteArray := prog_6_method_20_code
def yX4_fittingAnts : MethodName := ⟨RX4, "fittingAnts", "(LAntBand$Band;)I"⟩
abbrev cX4_fitsMarks : ByteArray := prog_6_method_21_code
def yX4_fitsMarks : MethodName := ⟨RX4, "fitsMarks", "(I)Z"⟩
abbrev cX4_blow : ByteArray := prog_6_method_22_code
def yX4_blow : MethodName := ⟨RX4, "blow", "(LAntBand$Band;III)V"⟩
abbrev cX4_arrivesBlown : ByteArray := prog_6_method_23_code
def yX4_arrivesBlown : MethodName := ⟨RX4, "arrivesBlown", "(LAntBand$Band;III)Z"⟩
abbrev cX4_casesOf : ByteArray := prog_6_method_24_code
def yX4_casesOf : MethodName := ⟨RX4, "casesOf", "(III)J"⟩
abbrev cX4_commonDivisor : ByteArray := prog_6_method_25_code
def yX4_commonDivisor : MethodName := ⟨RX4, "commonDivisor", "(JJ)J"⟩
abbrev cX4_walkByDraws : ByteArray := prog_6_method_26_code
def yX4_walkByDraws : MethodName := ⟨RX4, "walkByDraws", "(LAntBand$Band;II)V"⟩
def RX5 : String := "AntBand$Rows"
def TX5 : u_T := fun k => match k with
  | 0 => ("AntBand$Rows", "items", "[[I", true)
  | 1 => ("AntBand$Rows", "lanes", "[I", true)
  | _ => ("AntBand$Rows", "sizes", "[I", true)
def tyX5 : Nat → FieldType := fun k => match k with
  | 0 => .array (.array .int)
  | 1 => .array .int
  | _ => .array .int
theorem nmX5 : ∀ a, a < 3 → ∀ b, b < 3 → a ≠ b → (TX5 a).2.1 ≠ (TX5 b).2.1 := by decide +kernel
theorem tyX5_ok : ∀ k, k < 3 → parseFieldDescriptor (TX5 k).2.2.1 = some (tyX5 k) := by decide +kernel
abbrev cX5_init : ByteArray := prog_7_method_1_code
def yX5_init : MethodName := ⟨RX5, "<init>", "()V"⟩
abbrev cX5_isNumber : ByteArray := prog_7_method_2_code
def yX5_isNumber : MethodName := ⟨RX5, "isNumber", "(I)Z"⟩
abbrev cX5_isMissing : ByteArray := prog_7_method_3_code
def yX5_isMissing : MethodName := ⟨RX5, "isMissing", "(I)Z"⟩
abbrev cX5_hasPlaces : ByteArray := prog_7_method_4_code
def yX5_hasPlaces : MethodName := ⟨RX5, "hasPlaces", "(III)Z"⟩
abbrev cX5_make : ByteArray := prog_7_method_5_code
def yX5_make : MethodName := ⟨RX5, "make", "(III)V"⟩
abbrev cX5_put : ByteArray := prog_7_method_6_code
def yX5_put : MethodName := ⟨RX5, "put", "(III)I"⟩
abbrev cX5_lose : ByteArray := prog_7_method_7_code
def yX5_lose : MethodName := ⟨RX5, "lose", "(I)I"⟩
abbrev cX5_present : ByteArray := prog_7_method_8_code
def yX5_present : MethodName := ⟨RX5, "present", "()I"⟩
def RX6 : String := "AntBand$Tape"
def TX6 : u_T := fun k => match k with
  | 0 => ("AntBand$Tape", "bytes", "[I", true)
  | 1 => ("AntBand$Tape", "length", "I", false)
  | 2 => ("AntBand$Tape", "at", "I", false)
  | _ => ("AntBand$Tape", "latestFault", "I", false)
def tyX6 : Nat → FieldType := fun k => match k with
  | 0 => .array .int
  | 1 => .int
  | 2 => .int
  | _ => .int
theorem nmX6 : ∀ a, a < 4 → ∀ b, b < 4 → a ≠ b → (TX6 a).2.1 ≠ (TX6 b).2.1 := by decide +kernel
theorem tyX6_ok : ∀ k, k < 4 → parseFieldDescriptor (TX6 k).2.2.1 = some (tyX6 k) := by decide +kernel
abbrev cX6_init : ByteArray := prog_8_method_1_code
def yX6_init : MethodName := ⟨RX6, "<init>", "()V"⟩
abbrev cX6_add : ByteArray := prog_8_method_2_code
def yX6_add : MethodName := ⟨RX6, "add", "(I)I"⟩
abbrev cX6_readWall : ByteArray := prog_8_method_3_code
def yX6_readWall : MethodName := ⟨RX6, "readWall", "(LAntBand$Band;)Z"⟩
abbrev cX6_readLaw : ByteArray := prog_8_method_4_code
def yX6_readLaw : MethodName := ⟨RX6, "readLaw", "(LAntBand$Band;)Z"⟩
abbrev cX6_readPulls : ByteArray := prog_8_method_5_code
def yX6_readPulls : MethodName := ⟨RX6, "readPulls", "(LAntBand$Band;)Z"⟩
abbrev cX6_readPull : ByteArray := prog_8_method_6_code
def yX6_readPull : MethodName := ⟨RX6, "readPull", "(LAntBand$Band;)Z"⟩
abbrev cX6_readAnts : ByteArray := prog_8_method_7_code
def yX6_readAnts : MethodName := ⟨RX6, "readAnts", "(LAntBand$Band;)Z"⟩
abbrev cX6_readAnt : ByteArray := prog_8_method_8_code
def yX6_readAnt : MethodName := ⟨RX6, "readAnt", "(LAntBand$Band;I)Z"⟩
abbrev cX6_kindOf : ByteArray := prog_8_method_9_code
def yX6_kindOf : MethodName := ⟨RX6, "kindOf", "(I)I"⟩
abbrev cX6_nextByte : ByteArray := prog_8_method_10_code
def yX6_nextByte : MethodName := ⟨RX6, "nextByte", "()I"⟩
abbrev cX6_pass : ByteArray := prog_8_method_11_code
def yX6_pass : MethodName := ⟨RX6, "pass", "(I)Z"⟩
abbrev cX6_readNumber : ByteArray := prog_8_method_12_code
def yX6_readNumber : MethodName := ⟨RX6, "readNumber", "(II)I"⟩
abbrev cX6_fail : ByteArray := prog_8_method_13_code
def yX6_fail : MethodName := ⟨RX6, "fail", "(I)Z"⟩
def RX7 : String := "AntBand"
def TX7 : u_T := fun k => match k with
  | 0 => ("AntBand", "now", "LAntBand$Band;", true)
  | 1 => ("AntBand", "rows", "LAntBand$Rows;", true)
  | 2 => ("AntBand", "tape", "LAntBand$Tape;", true)
  | 3 => ("AntBand", "acts", "LAntBand$Acts;", true)
  | 4 => ("AntBand", "foretold", "LAntBand$Foretold;", true)
  | 5 => ("AntBand", "asks", "LAntBand$Asks;", true)
  | 6 => ("AntBand", "images", "[LAntBand$Band;", true)
  | 7 => ("AntBand", "imageKept", "[Z", true)
  | 8 => ("AntBand", "hasWall", "Z", false)
  | _ => ("AntBand", "latestFinding", "I", false)
def tyX7 : Nat → FieldType := fun k => match k with
  | 0 => .object "AntBand$Band"
  | 1 => .object "AntBand$Rows"
  | 2 => .object "AntBand$Tape"
  | 3 => .object "AntBand$Acts"
  | 4 => .object "AntBand$Foretold"
  | 5 => .object "AntBand$Asks"
  | 6 => .array (.object "AntBand$Band")
  | 7 => .array .boolean
  | 8 => .boolean
  | _ => .int
theorem nmX7 : ∀ a, a < 10 → ∀ b, b < 10 → a ≠ b → (TX7 a).2.1 ≠ (TX7 b).2.1 := by decide +kernel
theorem tyX7_ok : ∀ k, k < 10 → parseFieldDescriptor (TX7 k).2.2.1 = some (tyX7 k) := by decide +kernel
abbrev cX7_init : ByteArray := prog_1_method_1_code
def yX7_init : MethodName := ⟨RX7, "<init>", "()V"⟩
abbrev cX7_row : ByteArray := prog_1_method_2_code
def yX7_row : MethodName := ⟨RX7, "row", "(III)I"⟩
abbrev cX7_set : ByteArray := prog_1_method_3_code
def yX7_set : MethodName := ⟨RX7, "set", "(III)I"⟩
abbrev cX7_copy : ByteArray := prog_1_method_4_code
def yX7_copy : MethodName := ⟨RX7, "copy", "(IIIII)I"⟩
abbrev cX7_drop : ByteArray := prog_1_method_5_code
def yX7_drop : MethodName := ⟨RX7, "drop", "(I)I"⟩
abbrev cX7_feed : ByteArray := prog_1_method_6_code
def yX7_feed : MethodName := ⟨RX7, "feed", "(I)I"⟩
abbrev cX7_wall : ByteArray := prog_1_method_7_code
def yX7_wall : MethodName := ⟨RX7, "wall", "()I"⟩
abbrev cX7_fault : ByteArray := prog_1_method_8_code
def yX7_fault : MethodName := ⟨RX7, "fault", "()I"⟩
abbrev cX7_undo : ByteArray := prog_1_method_9_code
def yX7_undo : MethodName := ⟨RX7, "undo", "()I"⟩
abbrev cX7_minutes : ByteArray := prog_1_method_10_code
def yX7_minutes : MethodName := ⟨RX7, "minutes", "(I)I"⟩
abbrev cX7_pull : ByteArray := prog_1_method_11_code
def yX7_pull : MethodName := ⟨RX7, "pull", "(II)I"⟩
abbrev cX7_letGo : ByteArray := prog_1_method_12_code
def yX7_letGo : MethodName := ⟨RX7, "letGo", "()I"⟩
abbrev cX7_place : ByteArray := prog_1_method_13_code
def yX7_place : MethodName := ⟨RX7, "place", "(II)I"⟩
abbrev cX7_step : ByteArray := prog_1_method_14_code
def yX7_step : MethodName := ⟨RX7, "step", "(II)I"⟩
abbrev cX7_ant : ByteArray := prog_1_method_15_code
def yX7_ant : MethodName := ⟨RX7, "ant", "(II)I"⟩
abbrev cX7_pulls : ByteArray := prog_1_method_16_code
def yX7_pulls : MethodName := ⟨RX7, "pulls", "(I)I"⟩
abbrev cX7_ahead : ByteArray := prog_1_method_17_code
def yX7_ahead : MethodName := ⟨RX7, "ahead", "(II)I"⟩
abbrev cX7_band : ByteArray := prog_1_method_18_code
def yX7_band : MethodName := ⟨RX7, "band", "(II)I"⟩
abbrev cX7_arrives : ByteArray := prog_1_method_19_code
def yX7_arrives : MethodName := ⟨RX7, "arrives", "(I)I"⟩
abbrev cX7_leads : ByteArray := prog_1_method_20_code
def yX7_leads : MethodName := ⟨RX7, "leads", "(I)I"⟩
abbrev cX7_meet : ByteArray := prog_1_method_21_code
def yX7_meet : MethodName := ⟨RX7, "meet", "(II)I"⟩
abbrev cX7_fast : ByteArray := prog_1_method_22_code
def yX7_fast : MethodName := ⟨RX7, "fast", "(II)I"⟩
abbrev cX7_pullFor : ByteArray := prog_1_method_23_code
def yX7_pullFor : MethodName := ⟨RX7, "pullFor", "(II)I"⟩
abbrev cX7_order : ByteArray := prog_1_method_24_code
def yX7_order : MethodName := ⟨RX7, "order", "(III)I"⟩
abbrev cX7_half : ByteArray := prog_1_method_25_code
def yX7_half : MethodName := ⟨RX7, "half", "(I)I"⟩
abbrev cX7_rest : ByteArray := prog_1_method_26_code
def yX7_rest : MethodName := ⟨RX7, "rest", "(II)I"⟩
abbrev cX7_passed : ByteArray := prog_1_method_27_code
def yX7_passed : MethodName := ⟨RX7, "passed", "(II)I"⟩
abbrev cX7_who : ByteArray := prog_1_method_28_code
def yX7_who : MethodName := ⟨RX7, "who", "(IIIII)I"⟩
abbrev cX7_which : ByteArray := prog_1_method_29_code
def yX7_which : MethodName := ⟨RX7, "which", "(III)I"⟩
abbrev cX7_inches : ByteArray := prog_1_method_30_code
def yX7_inches : MethodName := ⟨RX7, "inches", "(I)I"⟩
abbrev cX7_wind : ByteArray := prog_1_method_31_code
def yX7_wind : MethodName := ⟨RX7, "wind", "(IIII)J"⟩
abbrev cX7_drawn : ByteArray := prog_1_method_32_code
def yX7_drawn : MethodName := ⟨RX7, "drawn", "(III)I"⟩
abbrev cX7_image : ByteArray := prog_1_method_33_code
def yX7_image : MethodName := ⟨RX7, "image", "(I)I"⟩
abbrev cX7_restore : ByteArray := prog_1_method_34_code
def yX7_restore : MethodName := ⟨RX7, "restore", "(I)I"⟩
abbrev cX7_kind : ByteArray := prog_1_method_35_code
def yX7_kind : MethodName := ⟨RX7, "kind", "(I)I"⟩
abbrev cX7_as : ByteArray := prog_1_method_36_code
def yX7_as : MethodName := ⟨RX7, "as", "(II)I"⟩
abbrev cX7_ask : ByteArray := prog_1_method_37_code
def yX7_ask : MethodName := ⟨RX7, "ask", "(II)I"⟩
abbrev cX7_trace : ByteArray := prog_1_method_38_code
def yX7_trace : MethodName := ⟨RX7, "trace", "(I)I"⟩
abbrev cX7_count : ByteArray := prog_1_method_39_code
def yX7_count : MethodName := ⟨RX7, "count", "(I)I"⟩
abbrev cX7_status : ByteArray := prog_1_method_40_code
def yX7_status : MethodName := ⟨RX7, "status", "()I"⟩
abbrev cX7_found : ByteArray := prog_1_method_41_code
def yX7_found : MethodName := ⟨RX7, "found", "(I)I"⟩
abbrev cX7_fine : ByteArray := prog_1_method_42_code
def yX7_fine : MethodName := ⟨RX7, "fine", "(I)I"⟩
abbrev cX7_rowFinding : ByteArray := prog_1_method_43_code
def yX7_rowFinding : MethodName := ⟨RX7, "rowFinding", "(III)I"⟩
abbrev cX7_isRowAsked : ByteArray := prog_1_method_44_code
def yX7_isRowAsked : MethodName := ⟨RX7, "isRowAsked", "(II)Z"⟩
abbrev cX7_isAskedAhead : ByteArray := prog_1_method_45_code
def yX7_isAskedAhead : MethodName := ⟨RX7, "isAskedAhead", "(II)Z"⟩
def RX8 : String := "AntBandModel"
def TX8 : u_T := fun k => match k with
  | 0 => ("AntBandModel", "lanes", "[I", true)
  | 1 => ("AntBandModel", "sizes", "[I", true)
  | 2 => ("AntBandModel", "items", "[I", true)
  | 3 => ("AntBandModel", "status", "I", false)
  | 4 => ("AntBandModel", "isThere", "Z", false)
  | 5 => ("AntBandModel", "st", "[I", true)
  | 6 => ("AntBandModel", "stopped", "I", false)
  | 7 => ("AntBandModel", "moved", "[I", true)
  | 8 => ("AntBandModel", "tape", "[I", true)
  | 9 => ("AntBandModel", "bytes", "I", false)
  | 10 => ("AntBandModel", "latest", "I", false)
  | 11 => ("AntBandModel", "place", "I", false)
  | 12 => ("AntBandModel", "token", "I", false)
  | 13 => ("AntBandModel", "value", "I", false)
  | 14 => ("AntBandModel", "begins", "I", false)
  | 15 => ("AntBandModel", "wrong", "I", false)
  | 16 => ("AntBandModel", "read", "[I", true)
  | 17 => ("AntBandModel", "acts", "[I", true)
  | 18 => ("AntBandModel", "actMany", "I", false)
  | 19 => ("AntBandModel", "aside", "[I", true)
  | 20 => ("AntBandModel", "row", "[I", true)
  | 21 => ("AntBandModel", "bestRow", "[I", true)
  | 22 => ("AntBandModel", "isKept", "[Z", true)
  | 23 => ("AntBandModel", "kept", "[I", true)
  | 24 => ("AntBandModel", "trace", "[I", true)
  | _ => ("AntBandModel", "traced", "I", false)
def tyX8 : Nat → FieldType := fun k => match k with
  | 0 => .array .int
  | 1 => .array .int
  | 2 => .array .int
  | 3 => .int
  | 4 => .boolean
  | 5 => .array .int
  | 6 => .int
  | 7 => .array .int
  | 8 => .array .int
  | 9 => .int
  | 10 => .int
  | 11 => .int
  | 12 => .int
  | 13 => .int
  | 14 => .int
  | 15 => .int
  | 16 => .array .int
  | 17 => .array .int
  | 18 => .int
  | 19 => .array .int
  | 20 => .array .int
  | 21 => .array .int
  | 22 => .array .boolean
  | 23 => .array .int
  | 24 => .array .int
  | _ => .int
theorem nmX8 : ∀ a, a < 26 → ∀ b, b < 26 → a ≠ b → (TX8 a).2.1 ≠ (TX8 b).2.1 := by decide +kernel
theorem tyX8_ok : ∀ k, k < 26 → parseFieldDescriptor (TX8 k).2.2.1 = some (tyX8 k) := by decide +kernel
abbrev cX8_init : ByteArray := prog_10_method_1_code
def yX8_init : MethodName := ⟨RX8, "<init>", "()V"⟩
abbrev cX8_in : ByteArray := prog_10_method_2_code
def yX8_in : MethodName := ⟨RX8, "in", "(JJJ)Z"⟩
abbrev cX8_has : ByteArray := prog_10_method_3_code
def yX8_has : MethodName := ⟨RX8, "has", "(II)Z"⟩
abbrev cX8_find : ByteArray := prog_10_method_4_code
def yX8_find : MethodName := ⟨RX8, "find", "(I)I"⟩
abbrev cX8_well : ByteArray := prog_10_method_5_code
def yX8_well : MethodName := ⟨RX8, "well", "(I)I"⟩
abbrev cX8_isRow : ByteArray := prog_10_method_6_code
def yX8_isRow : MethodName := ⟨RX8, "isRow", "(I)Z"⟩
abbrev cX8_row : ByteArray := prog_10_method_7_code
def yX8_row : MethodName := ⟨RX8, "row", "(III)I"⟩
abbrev cX8_asLane : ByteArray := prog_10_method_8_code
def yX8_asLane : MethodName := ⟨RX8, "asLane", "(II)I"⟩
abbrev cX8_set : ByteArray := prog_10_method_9_code
def yX8_set : MethodName := ⟨RX8, "set", "(III)I"⟩
abbrev cX8_copy : ByteArray := prog_10_method_10_code
def yX8_copy : MethodName := ⟨RX8, "copy", "(IIIII)I"⟩
abbrev cX8_drop : ByteArray := prog_10_method_11_code
def yX8_drop : MethodName := ⟨RX8, "drop", "(I)I"⟩
abbrev cX8_feed : ByteArray := prog_10_method_12_code
def yX8_feed : MethodName := ⟨RX8, "feed", "(I)I"⟩
abbrev cX8_nextToken : ByteArray := prog_10_method_13_code
def yX8_nextToken : MethodName := ⟨RX8, "nextToken", "()V"⟩
abbrev cX8_faults : ByteArray := prog_10_method_14_code
def yX8_faults : MethodName := ⟨RX8, "faults", "(I)Z"⟩
abbrev cX8_isLetter : ByteArray := prog_10_method_15_code
def yX8_isLetter : MethodName := ⟨RX8, "isLetter", "(I)Z"⟩
abbrev cX8_takes : ByteArray := prog_10_method_16_code
def yX8_takes : MethodName := ⟨RX8, "takes", "(I)Z"⟩
abbrev cX8_takesNumber : ByteArray := prog_10_method_17_code
def yX8_takesNumber : MethodName := ⟨RX8, "takesNumber", "(IIII)Z"⟩
abbrev cX8_readPull : ByteArray := prog_10_method_18_code
def yX8_readPull : MethodName := ⟨RX8, "readPull", "()Z"⟩
abbrev cX8_readAnt : ByteArray := prog_10_method_19_code
def yX8_readAnt : MethodName := ⟨RX8, "readAnt", "(I)Z"⟩
abbrev cX8_readWall : ByteArray := prog_10_method_20_code
def yX8_readWall : MethodName := ⟨RX8, "readWall", "()Z"⟩
abbrev cX8_wall : ByteArray := prog_10_method_21_code
def yX8_wall : MethodName := ⟨RX8, "wall", "()I"⟩
abbrev cX8_fault : ByteArray := prog_10_method_22_code
def yX8_fault : MethodName := ⟨RX8, "fault", "()I"⟩
abbrev cX8_isAnt : ByteArray := prog_10_method_23_code
def yX8_isAnt : MethodName := ⟨RX8, "isAnt", "(I)Z"⟩
abbrev cX8_isNailward : ByteArray := prog_10_method_24_code
def yX8_isNailward : MethodName := ⟨RX8, "isNailward", "(I)Z"⟩
abbrev cX8_gaitOf : ByteArray := prog_10_method_25_code
def yX8_gaitOf : MethodName := ⟨RX8, "gaitOf", "(I)I"⟩
abbrev cX8_goOne : ByteArray := prog_10_method_26_code
def yX8_goOne : MethodName := ⟨RX8, "goOne", "(I)V"⟩
abbrev cX8_goMinute : ByteArray := prog_10_method_27_code
def yX8_goMinute : MethodName := ⟨RX8, "goMinute", "(I)V"⟩
abbrev cX8_oneMinute : ByteArray := prog_10_method_28_code
def yX8_oneMinute : MethodName := ⟨RX8, "oneMinute", "()V"⟩
abbrev cX8_goOn : ByteArray := prog_10_method_29_code
def yX8_goOn : MethodName := ⟨RX8, "goOn", "(I)V"⟩
abbrev cX8_slacken : ByteArray := prog_10_method_30_code
def yX8_slacken : MethodName := ⟨RX8, "slacken", "()V"⟩
abbrev cX8_note : ByteArray := prog_10_method_31_code
def yX8_note : MethodName := ⟨RX8, "note", "()V"⟩
abbrev cX8_undo : ByteArray := prog_10_method_32_code
def yX8_undo : MethodName := ⟨RX8, "undo", "()I"⟩
abbrev cX8_minutes : ByteArray := prog_10_method_33_code
def yX8_minutes : MethodName := ⟨RX8, "minutes", "(I)I"⟩
abbrev cX8_pull : ByteArray := prog_10_method_34_code
def yX8_pull : MethodName := ⟨RX8, "pull", "(II)I"⟩
abbrev cX8_letGo : ByteArray := prog_10_method_35_code
def yX8_letGo : MethodName := ⟨RX8, "letGo", "()I"⟩
abbrev cX8_place : ByteArray := prog_10_method_36_code
def yX8_place : MethodName := ⟨RX8, "place", "(II)I"⟩
abbrev cX8_step : ByteArray := prog_10_method_37_code
def yX8_step : MethodName := ⟨RX8, "step", "(II)I"⟩
abbrev cX8_ant : ByteArray := prog_10_method_38_code
def yX8_ant : MethodName := ⟨RX8, "ant", "(II)I"⟩
abbrev cX8_pulls : ByteArray := prog_10_method_39_code
def yX8_pulls : MethodName := ⟨RX8, "pulls", "(I)I"⟩
abbrev cX8_putAside : ByteArray := prog_10_method_40_code
def yX8_putAside : MethodName := ⟨RX8, "putAside", "()V"⟩
abbrev cX8_takeBack : ByteArray := prog_10_method_41_code
def yX8_takeBack : MethodName := ⟨RX8, "takeBack", "()V"⟩
abbrev cX8_isWhat : ByteArray := prog_10_method_42_code
def yX8_isWhat : MethodName := ⟨RX8, "isWhat", "(I)Z"⟩
abbrev cX8_ahead : ByteArray := prog_10_method_43_code
def yX8_ahead : MethodName := ⟨RX8, "ahead", "(II)I"⟩
abbrev cX8_band : ByteArray := prog_10_method_44_code
def yX8_band : MethodName := ⟨RX8, "band", "(II)I"⟩
abbrev cX8_arrives : ByteArray := prog_10_method_45_code
def yX8_arrives : MethodName := ⟨RX8, "arrives", "(I)I"⟩
abbrev cX8_leads : ByteArray := prog_10_method_46_code
def yX8_leads : MethodName := ⟨RX8, "leads", "(I)I"⟩
abbrev cX8_meet : ByteArray := prog_10_method_47_code
def yX8_meet : MethodName := ⟨RX8, "meet", "(II)I"⟩
abbrev cX8_isThereBy : ByteArray := prog_10_method_48_code
def yX8_isThereBy : MethodName := ⟨RX8, "isThereBy", "(II)Z"⟩
abbrev cX8_lacks : ByteArray := prog_10_method_49_code
def yX8_lacks : MethodName := ⟨RX8, "lacks", "(II)I"⟩
abbrev cX8_fast : ByteArray := prog_10_method_50_code
def yX8_fast : MethodName := ⟨RX8, "fast", "(II)I"⟩
abbrev cX8_pullFor : ByteArray := prog_10_method_51_code
def yX8_pullFor : MethodName := ⟨RX8, "pullFor", "(II)I"⟩
abbrev cX8_isNext : ByteArray := prog_10_method_52_code
def yX8_isNext : MethodName := ⟨RX8, "isNext", "(I)Z"⟩
abbrev cX8_change : ByteArray := prog_10_method_53_code
def yX8_change : MethodName := ⟨RX8, "change", "(II)V"⟩
abbrev cX8_arrivesBy : ByteArray := prog_10_method_54_code
def yX8_arrivesBy : MethodName := ⟨RX8, "arrivesBy", "(I)I"⟩
abbrev cX8_order : ByteArray := prog_10_method_55_code
def yX8_order : MethodName := ⟨RX8, "order", "(III)I"⟩
abbrev cX8_half : ByteArray := prog_10_method_56_code
def yX8_half : MethodName := ⟨RX8, "half", "(I)I"⟩
abbrev cX8_rest : ByteArray := prog_10_method_57_code
def yX8_rest : MethodName := ⟨RX8, "rest", "(II)I"⟩
abbrev cX8_passed : ByteArray := prog_10_method_58_code
def yX8_passed : MethodName := ⟨RX8, "passed", "(II)I"⟩
abbrev cX8_lacksItems : ByteArray := prog_10_method_59_code
def yX8_lacksItems : MethodName := ⟨RX8, "lacksItems", "(III)I"⟩
abbrev cX8_isSo : ByteArray := prog_10_method_60_code
def yX8_isSo : MethodName := ⟨RX8, "isSo", "(III)Z"⟩
abbrev cX8_who : ByteArray := prog_10_method_61_code
def yX8_who : MethodName := ⟨RX8, "who", "(IIIII)I"⟩
abbrev cX8_which : ByteArray := prog_10_method_62_code
def yX8_which : MethodName := ⟨RX8, "which", "(III)I"⟩
abbrev cX8_inches : ByteArray := prog_10_method_63_code
def yX8_inches : MethodName := ⟨RX8, "inches", "(I)I"⟩
abbrev cX8_wind : ByteArray := prog_10_method_64_code
def yX8_wind : MethodName := ⟨RX8, "wind", "(IIII)J"⟩
abbrev cX8_ones : ByteArray := prog_10_method_65_code
def yX8_ones : MethodName := ⟨RX8, "ones", "(I)I"⟩
abbrev cX8_drawn : ByteArray := prog_10_method_66_code
def yX8_drawn : MethodName := ⟨RX8, "drawn", "(III)I"⟩
abbrev cX8_image : ByteArray := prog_10_method_67_code
def yX8_image : MethodName := ⟨RX8, "image", "(I)I"⟩
abbrev cX8_restore : ByteArray := prog_10_method_68_code
def yX8_restore : MethodName := ⟨RX8, "restore", "(I)I"⟩
abbrev cX8_kind : ByteArray := prog_10_method_69_code
def yX8_kind : MethodName := ⟨RX8, "kind", "(I)I"⟩
abbrev cX8_isKind : ByteArray := prog_10_method_70_code
def yX8_isKind : MethodName := ⟨RX8, "isKind", "(II)Z"⟩
abbrev cX8_as : ByteArray := prog_10_method_71_code
def yX8_as : MethodName := ⟨RX8, "as", "(II)I"⟩
abbrev cX8_begin : ByteArray := prog_10_method_72_code
def yX8_begin : MethodName := ⟨RX8, "begin", "(I)V"⟩
abbrev cX8_lent : ByteArray := prog_10_method_73_code
def yX8_lent : MethodName := ⟨RX8, "lent", "(II)I"⟩
abbrev cX8_plainMark : ByteArray := prog_10_method_74_code
def yX8_plainMark : MethodName := ⟨RX8, "plainMark", "(I)I"⟩
abbrev cX8_backSize : ByteArray := prog_10_method_75_code
def yX8_backSize : MethodName := ⟨RX8, "backSize", "(I)I"⟩
abbrev cX8_sizeOfBack : ByteArray := prog_10_method_76_code
def yX8_sizeOfBack : MethodName := ⟨RX8, "sizeOfBack", "(I)I"⟩
abbrev cX8_markOf : ByteArray := prog_10_method_77_code
def yX8_markOf : MethodName := ⟨RX8, "markOf", "(I)I"⟩
abbrev cX8_plainSize : ByteArray := prog_10_method_78_code
def yX8_plainSize : MethodName := ⟨RX8, "plainSize", "(I)I"⟩
abbrev cX8_sizeOf : ByteArray := prog_10_method_79_code
def yX8_sizeOf : MethodName := ⟨RX8, "sizeOf", "(I)I"⟩
abbrev cX8_ask : ByteArray := prog_10_method_80_code
def yX8_ask : MethodName := ⟨RX8, "ask", "(II)I"⟩
abbrev cX8_trace : ByteArray := prog_10_method_81_code
def yX8_trace : MethodName := ⟨RX8, "trace", "(I)I"⟩
abbrev cX8_count : ByteArray := prog_10_method_82_code
def yX8_count : MethodName := ⟨RX8, "count", "(I)I"⟩
abbrev cX8_status : ByteArray := prog_10_method_83_code
def yX8_status : MethodName := ⟨RX8, "status", "()I"⟩
def RJ6 : String := "java/lang/Integer"
def TJ6 : u_T := fun k => match k with
  | _ => ("", "", "", false)
def tyJ6 : Nat → FieldType := fun k => match k with
  | _ => .int
theorem nmJ6 : ∀ a, a < 0 → ∀ b, b < 0 → a ≠ b → (TJ6 a).2.1 ≠ (TJ6 b).2.1 := by decide +kernel
theorem tyJ6_ok : ∀ k, k < 0 → parseFieldDescriptor (TJ6 k).2.2.1 = some (tyJ6 k) := by decide +kernel
abbrev cJ6_compare_7cf53 : ByteArray := prog_11_method_40_code
def yJ6_compare_7cf53 : MethodName := ⟨RJ6, "compare", "(II)I"⟩
abbrev cJ6_bitCount_0f7a4 : ByteArray := prog_11_method_49_code
def yJ6_bitCount_0f7a4 : MethodName := ⟨RJ6, "bitCount", "(I)I"⟩
def RJ9 : String := "java/lang/Math"
def TJ9 : u_T := fun k => match k with
  | _ => ("", "", "", false)
def tyJ9 : Nat → FieldType := fun k => match k with
  | _ => .int
theorem nmJ9 : ∀ a, a < 0 → ∀ b, b < 0 → a ≠ b → (TJ9 a).2.1 ≠ (TJ9 b).2.1 := by decide +kernel
theorem tyJ9_ok : ∀ k, k < 0 → parseFieldDescriptor (TJ9 k).2.2.1 = some (tyJ9 k) := by decide +kernel
abbrev cJ9_max_7cf53 : ByteArray := prog_12_method_65_code
def yJ9_max_7cf53 : MethodName := ⟨RJ9, "max", "(II)I"⟩
abbrev cJ9_min_7cf53 : ByteArray := prog_12_method_69_code
def yJ9_min_7cf53 : MethodName := ⟨RJ9, "min", "(II)I"⟩
def RJ10 : String := "java/lang/System"
def TJ10 : u_T := fun k => match k with
  | _ => ("", "", "", false)
def tyJ10 : Nat → FieldType := fun k => match k with
  | _ => .int
theorem nmJ10 : ∀ a, a < 0 → ∀ b, b < 0 → a ≠ b → (TJ10 a).2.1 ≠ (TJ10 b).2.1 := by decide +kernel
theorem tyJ10_ok : ∀ k, k < 0 → parseFieldDescriptor (TJ10 k).2.2.1 = some (tyJ10 k) := by decide +kernel
def RL : String := "AntBandLaw"
abbrev cL_law : ByteArray := code
abbrev rx_cl : List vw_C := [(RX0, TX0, 3), (RX1, TX1, 6), (RX2, TX2, 7), (RX3, TX3, 6), (RX4, TX4, 7), (RX5, TX5, 3), (RX6, TX6, 4), (RX7, TX7, 10), (RX8, TX8, 26)]
theorem inX0 : ∀ w ∈ u_ws RX0 TX0 3, w ∈ rx_tbl := by decide +kernel
theorem inX1 : ∀ w ∈ u_ws RX1 TX1 6, w ∈ rx_tbl := by decide +kernel
theorem inX2 : ∀ w ∈ u_ws RX2 TX2 7, w ∈ rx_tbl := by decide +kernel
theorem inX3 : ∀ w ∈ u_ws RX3 TX3 6, w ∈ rx_tbl := by decide +kernel
theorem inX4 : ∀ w ∈ u_ws RX4 TX4 7, w ∈ rx_tbl := by decide +kernel
theorem inX5 : ∀ w ∈ u_ws RX5 TX5 3, w ∈ rx_tbl := by decide +kernel
theorem inX6 : ∀ w ∈ u_ws RX6 TX6 4, w ∈ rx_tbl := by decide +kernel
theorem inX7 : ∀ w ∈ u_ws RX7 TX7 10, w ∈ rx_tbl := by decide +kernel
theorem inX8 : ∀ w ∈ u_ws RX8 TX8 26, w ∈ rx_tbl := by decide +kernel
theorem mlL_9 : Cond.methodLink RL 9 yX7_init ∈ rx_tbl := rx_in (i := 78) (by decide +kernel) rfl
theorem mlX7_9 : Cond.methodLink RX7 9 yX3_init ∈ rx_tbl := rx_in (i := 86) (by decide +kernel) rfl
theorem flX1_7 : Cond.fieldLink RX1 7 (TX1 0).1 (TX1 0).2.1 (TX1 0).2.2.1 ∈ rx_tbl := rx_in (i := 97) (by decide +kernel) rfl
theorem flX2_32 : Cond.fieldLink RX2 32 (TX1 0).1 (TX1 0).2.1 (TX1 0).2.2.1 ∈ rx_tbl := rx_in (i := 98) (by decide +kernel) rfl
theorem flX4_119 : Cond.fieldLink RX4 119 (TX1 0).1 (TX1 0).2.1 (TX1 0).2.2.1 ∈ rx_tbl := rx_in (i := 99) (by decide +kernel) rfl
theorem flX7_290 : Cond.fieldLink RX7 290 (TX1 0).1 (TX1 0).2.1 (TX1 0).2.2.1 ∈ rx_tbl := rx_in (i := 100) (by decide +kernel) rfl
theorem flX1_13 : Cond.fieldLink RX1 13 (TX1 1).1 (TX1 1).2.1 (TX1 1).2.2.1 ∈ rx_tbl := rx_in (i := 101) (by decide +kernel) rfl
theorem flX2_17 : Cond.fieldLink RX2 17 (TX1 1).1 (TX1 1).2.1 (TX1 1).2.2.1 ∈ rx_tbl := rx_in (i := 102) (by decide +kernel) rfl
theorem flX4_77 : Cond.fieldLink RX4 77 (TX1 1).1 (TX1 1).2.1 (TX1 1).2.2.1 ∈ rx_tbl := rx_in (i := 103) (by decide +kernel) rfl
theorem flX7_192 : Cond.fieldLink RX7 192 (TX1 1).1 (TX1 1).2.1 (TX1 1).2.2.1 ∈ rx_tbl := rx_in (i := 104) (by decide +kernel) rfl
theorem flX1_16 : Cond.fieldLink RX1 16 (TX1 2).1 (TX1 2).2.1 (TX1 2).2.2.1 ∈ rx_tbl := rx_in (i := 105) (by decide +kernel) rfl
theorem flX7_201 : Cond.fieldLink RX7 201 (TX1 2).1 (TX1 2).2.1 (TX1 2).2.2.1 ∈ rx_tbl := rx_in (i := 106) (by decide +kernel) rfl
theorem flX1_19 : Cond.fieldLink RX1 19 (TX1 3).1 (TX1 3).2.1 (TX1 3).2.2.1 ∈ rx_tbl := rx_in (i := 107) (by decide +kernel) rfl
theorem flX4_86 : Cond.fieldLink RX4 86 (TX1 3).1 (TX1 3).2.1 (TX1 3).2.2.1 ∈ rx_tbl := rx_in (i := 108) (by decide +kernel) rfl
theorem flX7_195 : Cond.fieldLink RX7 195 (TX1 3).1 (TX1 3).2.1 (TX1 3).2.2.1 ∈ rx_tbl := rx_in (i := 109) (by decide +kernel) rfl
theorem flX1_22 : Cond.fieldLink RX1 22 (TX1 4).1 (TX1 4).2.1 (TX1 4).2.2.1 ∈ rx_tbl := rx_in (i := 110) (by decide +kernel) rfl
theorem flX4_47 : Cond.fieldLink RX4 47 (TX1 4).1 (TX1 4).2.1 (TX1 4).2.2.1 ∈ rx_tbl := rx_in (i := 111) (by decide +kernel) rfl
theorem flX3_65 : Cond.fieldLink RX3 65 (TX1 4).1 (TX1 4).2.1 (TX1 4).2.2.1 ∈ rx_tbl := rx_in (i := 112) (by decide +kernel) rfl
theorem flX7_189 : Cond.fieldLink RX7 189 (TX1 4).1 (TX1 4).2.1 (TX1 4).2.2.1 ∈ rx_tbl := rx_in (i := 113) (by decide +kernel) rfl
theorem flX1_25 : Cond.fieldLink RX1 25 (TX1 5).1 (TX1 5).2.1 (TX1 5).2.2.1 ∈ rx_tbl := rx_in (i := 114) (by decide +kernel) rfl
theorem flX4_56 : Cond.fieldLink RX4 56 (TX1 5).1 (TX1 5).2.1 (TX1 5).2.2.1 ∈ rx_tbl := rx_in (i := 115) (by decide +kernel) rfl
theorem flX3_61 : Cond.fieldLink RX3 61 (TX1 5).1 (TX1 5).2.1 (TX1 5).2.2.1 ∈ rx_tbl := rx_in (i := 116) (by decide +kernel) rfl
theorem flX7_180 : Cond.fieldLink RX7 180 (TX1 5).1 (TX1 5).2.1 (TX1 5).2.2.1 ∈ rx_tbl := rx_in (i := 117) (by decide +kernel) rfl
theorem flX3_20 : Cond.fieldLink RX3 20 (TX3 0).1 (TX3 0).2.1 (TX3 0).2.2.1 ∈ rx_tbl := rx_in (i := 132) (by decide +kernel) rfl
theorem flX6_45 : Cond.fieldLink RX6 45 (TX3 0).1 (TX3 0).2.1 (TX3 0).2.2.1 ∈ rx_tbl := rx_in (i := 133) (by decide +kernel) rfl
theorem flX4_69 : Cond.fieldLink RX4 69 (TX3 0).1 (TX3 0).2.1 (TX3 0).2.2.1 ∈ rx_tbl := rx_in (i := 134) (by decide +kernel) rfl
theorem flX7_163 : Cond.fieldLink RX7 163 (TX3 0).1 (TX3 0).2.1 (TX3 0).2.2.1 ∈ rx_tbl := rx_in (i := 135) (by decide +kernel) rfl
theorem flX3_24 : Cond.fieldLink RX3 24 (TX3 1).1 (TX3 1).2.1 (TX3 1).2.2.1 ∈ rx_tbl := rx_in (i := 136) (by decide +kernel) rfl
theorem flX4_66 : Cond.fieldLink RX4 66 (TX3 1).1 (TX3 1).2.1 (TX3 1).2.2.1 ∈ rx_tbl := rx_in (i := 137) (by decide +kernel) rfl
theorem flX7_153 : Cond.fieldLink RX7 153 (TX3 1).1 (TX3 1).2.1 (TX3 1).2.2.1 ∈ rx_tbl := rx_in (i := 138) (by decide +kernel) rfl
theorem flX3_27 : Cond.fieldLink RX3 27 (TX3 2).1 (TX3 2).2.1 (TX3 2).2.2.1 ∈ rx_tbl := rx_in (i := 139) (by decide +kernel) rfl
theorem flX4_80 : Cond.fieldLink RX4 80 (TX3 2).1 (TX3 2).2.1 (TX3 2).2.2.1 ∈ rx_tbl := rx_in (i := 140) (by decide +kernel) rfl
theorem flX7_164 : Cond.fieldLink RX7 164 (TX3 2).1 (TX3 2).2.1 (TX3 2).2.2.1 ∈ rx_tbl := rx_in (i := 141) (by decide +kernel) rfl
theorem flX3_30 : Cond.fieldLink RX3 30 (TX3 3).1 (TX3 3).2.1 (TX3 3).2.2.1 ∈ rx_tbl := rx_in (i := 142) (by decide +kernel) rfl
theorem flX7_139 : Cond.fieldLink RX7 139 (TX3 3).1 (TX3 3).2.1 (TX3 3).2.2.1 ∈ rx_tbl := rx_in (i := 143) (by decide +kernel) rfl
theorem flX4_113 : Cond.fieldLink RX4 113 (TX3 3).1 (TX3 3).2.1 (TX3 3).2.2.1 ∈ rx_tbl := rx_in (i := 144) (by decide +kernel) rfl
theorem flX3_9 : Cond.fieldLink RX3 9 (TX3 4).1 (TX3 4).2.1 (TX3 4).2.2.1 ∈ rx_tbl := rx_in (i := 145) (by decide +kernel) rfl
theorem flX4_83 : Cond.fieldLink RX4 83 (TX3 4).1 (TX3 4).2.1 (TX3 4).2.2.1 ∈ rx_tbl := rx_in (i := 146) (by decide +kernel) rfl
theorem flX7_167 : Cond.fieldLink RX7 167 (TX3 4).1 (TX3 4).2.1 (TX3 4).2.2.1 ∈ rx_tbl := rx_in (i := 147) (by decide +kernel) rfl
theorem flX3_15 : Cond.fieldLink RX3 15 (TX3 5).1 (TX3 5).2.1 (TX3 5).2.2.1 ∈ rx_tbl := rx_in (i := 148) (by decide +kernel) rfl
theorem flX4_43 : Cond.fieldLink RX4 43 (TX3 5).1 (TX3 5).2.1 (TX3 5).2.2.1 ∈ rx_tbl := rx_in (i := 149) (by decide +kernel) rfl
theorem flX7_176 : Cond.fieldLink RX7 176 (TX3 5).1 (TX3 5).2.1 (TX3 5).2.2.1 ∈ rx_tbl := rx_in (i := 150) (by decide +kernel) rfl
theorem mlX7_18 : Cond.methodLink RX7 18 yX5_init ∈ rx_tbl := rx_in (i := 166) (by decide +kernel) rfl
theorem flX5_11 : Cond.fieldLink RX5 11 (TX5 0).1 (TX5 0).2.1 (TX5 0).2.2.1 ∈ rx_tbl := rx_in (i := 172) (by decide +kernel) rfl
theorem flX7_101 : Cond.fieldLink RX7 101 (TX5 0).1 (TX5 0).2.1 (TX5 0).2.2.1 ∈ rx_tbl := rx_in (i := 173) (by decide +kernel) rfl
theorem flX5_14 : Cond.fieldLink RX5 14 (TX5 1).1 (TX5 1).2.1 (TX5 1).2.2.1 ∈ rx_tbl := rx_in (i := 174) (by decide +kernel) rfl
theorem flX7_93 : Cond.fieldLink RX7 93 (TX5 1).1 (TX5 1).2.1 (TX5 1).2.2.1 ∈ rx_tbl := rx_in (i := 175) (by decide +kernel) rfl
theorem flX5_18 : Cond.fieldLink RX5 18 (TX5 2).1 (TX5 2).2.1 (TX5 2).2.2.1 ∈ rx_tbl := rx_in (i := 176) (by decide +kernel) rfl
theorem mlX7_25 : Cond.methodLink RX7 25 yX6_init ∈ rx_tbl := rx_in (i := 186) (by decide +kernel) rfl
theorem flX6_11 : Cond.fieldLink RX6 11 (TX6 0).1 (TX6 0).2.1 (TX6 0).2.2.1 ∈ rx_tbl := rx_in (i := 190) (by decide +kernel) rfl
theorem flX6_15 : Cond.fieldLink RX6 15 (TX6 1).1 (TX6 1).2.1 (TX6 1).2.2.1 ∈ rx_tbl := rx_in (i := 191) (by decide +kernel) rfl
theorem flX7_114 : Cond.fieldLink RX7 114 (TX6 1).1 (TX6 1).2.1 (TX6 1).2.2.1 ∈ rx_tbl := rx_in (i := 192) (by decide +kernel) rfl
theorem flX6_19 : Cond.fieldLink RX6 19 (TX6 2).1 (TX6 2).2.1 (TX6 2).2.2.1 ∈ rx_tbl := rx_in (i := 193) (by decide +kernel) rfl
theorem flX7_129 : Cond.fieldLink RX7 129 (TX6 2).1 (TX6 2).2.1 (TX6 2).2.2.1 ∈ rx_tbl := rx_in (i := 194) (by decide +kernel) rfl
theorem flX7_142 : Cond.fieldLink RX7 142 (TX6 3).1 (TX6 3).2.1 (TX6 3).2.2.1 ∈ rx_tbl := rx_in (i := 195) (by decide +kernel) rfl
theorem flX6_74 : Cond.fieldLink RX6 74 (TX6 3).1 (TX6 3).2.1 (TX6 3).2.2.1 ∈ rx_tbl := rx_in (i := 196) (by decide +kernel) rfl
theorem mlX7_32 : Cond.methodLink RX7 32 yX0_init ∈ rx_tbl := rx_in (i := 208) (by decide +kernel) rfl
theorem mlX0_15 : Cond.methodLink RX0 15 yX3_init ∈ rx_tbl := rx_in (i := 214) (by decide +kernel) rfl
theorem flX0_11 : Cond.fieldLink RX0 11 (TX0 0).1 (TX0 0).2.1 (TX0 0).2.2.1 ∈ rx_tbl := rx_in (i := 215) (by decide +kernel) rfl
theorem flX0_20 : Cond.fieldLink RX0 20 (TX0 1).1 (TX0 1).2.1 (TX0 1).2.2.1 ∈ rx_tbl := rx_in (i := 216) (by decide +kernel) rfl
theorem flX0_16 : Cond.fieldLink RX0 16 (TX0 2).1 (TX0 2).2.1 (TX0 2).2.2.1 ∈ rx_tbl := rx_in (i := 217) (by decide +kernel) rfl
theorem flX7_145 : Cond.fieldLink RX7 145 (TX0 2).1 (TX0 2).2.1 (TX0 2).2.2.1 ∈ rx_tbl := rx_in (i := 218) (by decide +kernel) rfl
theorem mlX7_39 : Cond.methodLink RX7 39 yX4_init ∈ rx_tbl := rx_in (i := 228) (by decide +kernel) rfl
theorem mlX4_11 : Cond.methodLink RX4 11 yX3_init ∈ rx_tbl := rx_in (i := 233) (by decide +kernel) rfl
theorem flX4_12 : Cond.fieldLink RX4 12 (TX4 0).1 (TX4 0).2.1 (TX4 0).2.2.1 ∈ rx_tbl := rx_in (i := 234) (by decide +kernel) rfl
theorem flX7_121 : Cond.fieldLink RX7 121 (TX4 0).1 (TX4 0).2.1 (TX4 0).2.2.1 ∈ rx_tbl := rx_in (i := 235) (by decide +kernel) rfl
theorem flX4_18 : Cond.fieldLink RX4 18 (TX4 1).1 (TX4 1).2.1 (TX4 1).2.2.1 ∈ rx_tbl := rx_in (i := 236) (by decide +kernel) rfl
theorem flX4_22 : Cond.fieldLink RX4 22 (TX4 2).1 (TX4 2).2.1 (TX4 2).2.2.1 ∈ rx_tbl := rx_in (i := 237) (by decide +kernel) rfl
theorem flX7_240 : Cond.fieldLink RX7 240 (TX4 2).1 (TX4 2).2.1 (TX4 2).2.2.1 ∈ rx_tbl := rx_in (i := 238) (by decide +kernel) rfl
theorem flX4_25 : Cond.fieldLink RX4 25 (TX4 3).1 (TX4 3).2.1 (TX4 3).2.2.1 ∈ rx_tbl := rx_in (i := 239) (by decide +kernel) rfl
theorem flX4_116 : Cond.fieldLink RX4 116 (TX4 4).1 (TX4 4).2.1 (TX4 4).2.2.1 ∈ rx_tbl := rx_in (i := 240) (by decide +kernel) rfl
theorem flX4_129 : Cond.fieldLink RX4 129 (TX4 5).1 (TX4 5).2.1 (TX4 5).2.2.1 ∈ rx_tbl := rx_in (i := 241) (by decide +kernel) rfl
theorem flX7_273 : Cond.fieldLink RX7 273 (TX4 5).1 (TX4 5).2.1 (TX4 5).2.2.1 ∈ rx_tbl := rx_in (i := 242) (by decide +kernel) rfl
theorem flX4_133 : Cond.fieldLink RX4 133 (TX4 6).1 (TX4 6).2.1 (TX4 6).2.2.1 ∈ rx_tbl := rx_in (i := 243) (by decide +kernel) rfl
theorem flX7_277 : Cond.fieldLink RX7 277 (TX4 6).1 (TX4 6).2.1 (TX4 6).2.2.1 ∈ rx_tbl := rx_in (i := 244) (by decide +kernel) rfl
theorem mlX7_46 : Cond.methodLink RX7 46 yX2_init ∈ rx_tbl := rx_in (i := 262) (by decide +kernel) rfl
theorem flX2_9 : Cond.fieldLink RX2 9 (TX2 0).1 (TX2 0).2.1 (TX2 0).2.2.1 ∈ rx_tbl := rx_in (i := 266) (by decide +kernel) rfl
theorem flX7_303 : Cond.fieldLink RX7 303 (TX2 0).1 (TX2 0).2.1 (TX2 0).2.2.1 ∈ rx_tbl := rx_in (i := 267) (by decide +kernel) rfl
theorem flX2_47 : Cond.fieldLink RX2 47 (TX2 1).1 (TX2 1).2.1 (TX2 1).2.2.1 ∈ rx_tbl := rx_in (i := 268) (by decide +kernel) rfl
theorem flX7_300 : Cond.fieldLink RX7 300 (TX2 1).1 (TX2 1).2.1 (TX2 1).2.2.1 ∈ rx_tbl := rx_in (i := 269) (by decide +kernel) rfl
theorem flX2_13 : Cond.fieldLink RX2 13 (TX2 2).1 (TX2 2).2.1 (TX2 2).2.2.1 ∈ rx_tbl := rx_in (i := 270) (by decide +kernel) rfl
theorem flX2_22 : Cond.fieldLink RX2 22 (TX2 3).1 (TX2 3).2.1 (TX2 3).2.2.1 ∈ rx_tbl := rx_in (i := 271) (by decide +kernel) rfl
theorem flX2_29 : Cond.fieldLink RX2 29 (TX2 4).1 (TX2 4).2.1 (TX2 4).2.2.1 ∈ rx_tbl := rx_in (i := 272) (by decide +kernel) rfl
theorem flX2_38 : Cond.fieldLink RX2 38 (TX2 5).1 (TX2 5).2.1 (TX2 5).2.2.1 ∈ rx_tbl := rx_in (i := 273) (by decide +kernel) rfl
theorem flX2_44 : Cond.fieldLink RX2 44 (TX2 6).1 (TX2 6).2.1 (TX2 6).2.2.1 ∈ rx_tbl := rx_in (i := 274) (by decide +kernel) rfl
theorem flX7_10 : Cond.fieldLink RX7 10 (TX7 0).1 (TX7 0).2.1 (TX7 0).2.2.1 ∈ rx_tbl := rx_in (i := 290) (by decide +kernel) rfl
theorem flX7_19 : Cond.fieldLink RX7 19 (TX7 1).1 (TX7 1).2.1 (TX7 1).2.2.1 ∈ rx_tbl := rx_in (i := 291) (by decide +kernel) rfl
theorem flX7_26 : Cond.fieldLink RX7 26 (TX7 2).1 (TX7 2).2.1 (TX7 2).2.2.1 ∈ rx_tbl := rx_in (i := 292) (by decide +kernel) rfl
theorem flX7_33 : Cond.fieldLink RX7 33 (TX7 3).1 (TX7 3).2.1 (TX7 3).2.2.1 ∈ rx_tbl := rx_in (i := 293) (by decide +kernel) rfl
theorem flX7_40 : Cond.fieldLink RX7 40 (TX7 4).1 (TX7 4).2.1 (TX7 4).2.2.1 ∈ rx_tbl := rx_in (i := 294) (by decide +kernel) rfl
theorem flX7_47 : Cond.fieldLink RX7 47 (TX7 5).1 (TX7 5).2.1 (TX7 5).2.2.1 ∈ rx_tbl := rx_in (i := 295) (by decide +kernel) rfl
theorem flX7_51 : Cond.fieldLink RX7 51 (TX7 6).1 (TX7 6).2.1 (TX7 6).2.2.1 ∈ rx_tbl := rx_in (i := 296) (by decide +kernel) rfl
theorem flX7_55 : Cond.fieldLink RX7 55 (TX7 7).1 (TX7 7).2.1 (TX7 7).2.2.1 ∈ rx_tbl := rx_in (i := 297) (by decide +kernel) rfl
theorem flX7_59 : Cond.fieldLink RX7 59 (TX7 8).1 (TX7 8).2.1 (TX7 8).2.2.1 ∈ rx_tbl := rx_in (i := 298) (by decide +kernel) rfl
theorem flX7_63 : Cond.fieldLink RX7 63 (TX7 9).1 (TX7 9).2.1 (TX7 9).2.2.1 ∈ rx_tbl := rx_in (i := 299) (by decide +kernel) rfl
theorem mlL_13 : Cond.methodLink RL 13 yX7_row ∈ rx_tbl := rx_in (i := 322) (by decide +kernel) rfl
theorem mlX7_67 : Cond.methodLink RX7 67 yX5_isNumber ∈ rx_tbl := rx_in (i := 326) (by decide +kernel) rfl
theorem kcX7_71 : Cond.constant RX7 71 (-1000001) ∈ rx_tbl := rx_in (i := 330) (by decide +kernel) rfl
theorem mlX7_72 : Cond.methodLink RX7 72 yX7_found ∈ rx_tbl := rx_in (i := 331) (by decide +kernel) rfl
theorem kcX7_309 : Cond.constant RX7 309 (-1000010) ∈ rx_tbl := rx_in (i := 335) (by decide +kernel) rfl
theorem mlX7_76 : Cond.methodLink RX7 76 yX5_make ∈ rx_tbl := rx_in (i := 336) (by decide +kernel) rfl
theorem mlX7_80 : Cond.methodLink RX7 80 yX7_fine ∈ rx_tbl := rx_in (i := 340) (by decide +kernel) rfl
theorem mlL_18 : Cond.methodLink RL 18 yX7_set ∈ rx_tbl := rx_in (i := 344) (by decide +kernel) rfl
theorem mlX7_83 : Cond.methodLink RX7 83 yX7_rowFinding ∈ rx_tbl := rx_in (i := 348) (by decide +kernel) rfl
theorem mlX7_90 : Cond.methodLink RX7 90 yX5_isMissing ∈ rx_tbl := rx_in (i := 352) (by decide +kernel) rfl
theorem mlX5_21 : Cond.methodLink RX5 21 yX5_isNumber ∈ rx_tbl := rx_in (i := 356) (by decide +kernel) rfl
theorem mlX7_97 : Cond.methodLink RX7 97 yX5_hasPlaces ∈ rx_tbl := rx_in (i := 357) (by decide +kernel) rfl
theorem mlX5_25 : Cond.methodLink RX5 25 yX5_isMissing ∈ rx_tbl := rx_in (i := 361) (by decide +kernel) rfl
theorem mlX7_87 : Cond.methodLink RX7 87 yX5_put ∈ rx_tbl := rx_in (i := 362) (by decide +kernel) rfl
theorem mlL_22 : Cond.methodLink RL 22 yX7_copy ∈ rx_tbl := rx_in (i := 366) (by decide +kernel) rfl
theorem mlL_27 : Cond.methodLink RL 27 yX7_drop ∈ rx_tbl := rx_in (i := 373) (by decide +kernel) rfl
theorem mlX7_111 : Cond.methodLink RX7 111 yX5_lose ∈ rx_tbl := rx_in (i := 377) (by decide +kernel) rfl
theorem mlL_32 : Cond.methodLink RL 32 yX7_feed ∈ rx_tbl := rx_in (i := 381) (by decide +kernel) rfl
theorem kcX7_117 : Cond.constant RX7 117 (-1000003) ∈ rx_tbl := rx_in (i := 385) (by decide +kernel) rfl
theorem mlX7_118 : Cond.methodLink RX7 118 yX6_add ∈ rx_tbl := rx_in (i := 386) (by decide +kernel) rfl
theorem mlL_36 : Cond.methodLink RL 36 yX7_wall ∈ rx_tbl := rx_in (i := 390) (by decide +kernel) rfl
theorem mlX7_124 : Cond.methodLink RX7 124 yX6_readWall ∈ rx_tbl := rx_in (i := 394) (by decide +kernel) rfl
theorem mlX6_22 : Cond.methodLink RX6 22 yX3_clear ∈ rx_tbl := rx_in (i := 398) (by decide +kernel) rfl
theorem mlX6_27 : Cond.methodLink RX6 27 yX6_readLaw ∈ rx_tbl := rx_in (i := 402) (by decide +kernel) rfl
theorem mlX6_37 : Cond.methodLink RX6 37 yX6_pass ∈ rx_tbl := rx_in (i := 406) (by decide +kernel) rfl
theorem mlX6_46 : Cond.methodLink RX6 46 yX6_nextByte ∈ rx_tbl := rx_in (i := 410) (by decide +kernel) rfl
theorem mlX6_50 : Cond.methodLink RX6 50 yX6_fail ∈ rx_tbl := rx_in (i := 414) (by decide +kernel) rfl
theorem mlX6_41 : Cond.methodLink RX6 41 yX6_readNumber ∈ rx_tbl := rx_in (i := 418) (by decide +kernel) rfl
theorem mlX6_31 : Cond.methodLink RX6 31 yX6_readPulls ∈ rx_tbl := rx_in (i := 422) (by decide +kernel) rfl
theorem mlX6_53 : Cond.methodLink RX6 53 yX6_readPull ∈ rx_tbl := rx_in (i := 426) (by decide +kernel) rfl
theorem mlX6_56 : Cond.methodLink RX6 56 yX3_addPull ∈ rx_tbl := rx_in (i := 430) (by decide +kernel) rfl
theorem mlX6_34 : Cond.methodLink RX6 34 yX6_readAnts ∈ rx_tbl := rx_in (i := 434) (by decide +kernel) rfl
theorem mlX6_60 : Cond.methodLink RX6 60 yX6_kindOf ∈ rx_tbl := rx_in (i := 438) (by decide +kernel) rfl
theorem mlX6_64 : Cond.methodLink RX6 64 yX6_readAnt ∈ rx_tbl := rx_in (i := 442) (by decide +kernel) rfl
theorem mlX6_70 : Cond.methodLink RX6 70 yX3_addAnt ∈ rx_tbl := rx_in (i := 446) (by decide +kernel) rfl
theorem mlX3_33 : Cond.methodLink RX3 33 yX1_tell ∈ rx_tbl := rx_in (i := 450) (by decide +kernel) rfl
theorem kcX7_128 : Cond.constant RX7 128 (-1000100) ∈ rx_tbl := rx_in (i := 454) (by decide +kernel) rfl
theorem mlX7_132 : Cond.methodLink RX7 132 yX3_takeFrom ∈ rx_tbl := rx_in (i := 455) (by decide +kernel) rfl
theorem mlX3_37 : Cond.methodLink RX3 37 yX1_takeFrom ∈ rx_tbl := rx_in (i := 459) (by decide +kernel) rfl
theorem mlX7_136 : Cond.methodLink RX7 136 yX0_forget ∈ rx_tbl := rx_in (i := 463) (by decide +kernel) rfl
theorem mlL_41 : Cond.methodLink RL 41 yX7_fault ∈ rx_tbl := rx_in (i := 467) (by decide +kernel) rfl
theorem mlL_45 : Cond.methodLink RL 45 yX7_undo ∈ rx_tbl := rx_in (i := 471) (by decide +kernel) rfl
theorem kcX7_148 : Cond.constant RX7 148 (-1000002) ∈ rx_tbl := rx_in (i := 475) (by decide +kernel) rfl
theorem mlX7_149 : Cond.methodLink RX7 149 yX0_takeBack ∈ rx_tbl := rx_in (i := 476) (by decide +kernel) rfl
theorem mlX0_23 : Cond.methodLink RX0 23 yX3_takeFrom ∈ rx_tbl := rx_in (i := 480) (by decide +kernel) rfl
theorem mlL_49 : Cond.methodLink RL 49 yX7_minutes ∈ rx_tbl := rx_in (i := 481) (by decide +kernel) rfl
theorem mlX7_156 : Cond.methodLink RX7 156 yX0_keep ∈ rx_tbl := rx_in (i := 485) (by decide +kernel) rfl
theorem mlX7_159 : Cond.methodLink RX7 159 yX3_passMinute ∈ rx_tbl := rx_in (i := 489) (by decide +kernel) rfl
theorem mlX3_41 : Cond.methodLink RX3 41 yX1_go ∈ rx_tbl := rx_in (i := 493) (by decide +kernel) rfl
theorem mlX1_38 : Cond.methodLink RX1 38 yX1_gait ∈ rx_tbl := rx_in (i := 497) (by decide +kernel) rfl
theorem mlX1_33 : Cond.methodLink RX1 33 yX1_goesToNail ∈ rx_tbl := rx_in (i := 501) (by decide +kernel) rfl
theorem kcX1_37 : Cond.constant RX1 37 (100000) ∈ rx_tbl := rx_in (i := 505) (by decide +kernel) rfl
theorem kcX1_42 : Cond.constant RX1 42 (1000000) ∈ rx_tbl := rx_in (i := 506) (by decide +kernel) rfl
theorem mlX3_45 : Cond.methodLink RX3 45 yX3_stretchInTurn ∈ rx_tbl := rx_in (i := 507) (by decide +kernel) rfl
theorem mlX3_48 : Cond.methodLink RX3 48 yX3_stretch ∈ rx_tbl := rx_in (i := 511) (by decide +kernel) rfl
theorem mlX3_52 : Cond.methodLink RX3 52 yJ9_min_7cf53 ∈ rx_tbl := rx_in (i := 515) (by decide +kernel) rfl
theorem mlL_53 : Cond.methodLink RL 53 yX7_pull ∈ rx_tbl := rx_in (i := 518) (by decide +kernel) rfl
theorem mlL_58 : Cond.methodLink RL 58 yX7_letGo ∈ rx_tbl := rx_in (i := 522) (by decide +kernel) rfl
theorem mlX7_170 : Cond.methodLink RX7 170 yX3_slacken ∈ rx_tbl := rx_in (i := 526) (by decide +kernel) rfl
theorem mlX3_58 : Cond.methodLink RX3 58 yJ9_max_7cf53 ∈ rx_tbl := rx_in (i := 530) (by decide +kernel) rfl
theorem mlL_62 : Cond.methodLink RL 62 yX7_place ∈ rx_tbl := rx_in (i := 533) (by decide +kernel) rfl
theorem mlX7_173 : Cond.methodLink RX7 173 yX3_hasAnt ∈ rx_tbl := rx_in (i := 537) (by decide +kernel) rfl
theorem mlX7_185 : Cond.methodLink RX7 185 yX1_hundredth ∈ rx_tbl := rx_in (i := 541) (by decide +kernel) rfl
theorem mlL_66 : Cond.methodLink RL 66 yX7_step ∈ rx_tbl := rx_in (i := 545) (by decide +kernel) rfl
theorem mlL_70 : Cond.methodLink RL 70 yX7_ant ∈ rx_tbl := rx_in (i := 549) (by decide +kernel) rfl
theorem mlX7_198 : Cond.methodLink RX7 198 yX1_gait ∈ rx_tbl := rx_in (i := 553) (by decide +kernel) rfl
theorem mlL_74 : Cond.methodLink RL 74 yX7_pulls ∈ rx_tbl := rx_in (i := 554) (by decide +kernel) rfl
theorem kcX7_204 : Cond.constant RX7 204 (-1000000) ∈ rx_tbl := rx_in (i := 558) (by decide +kernel) rfl
theorem mlL_78 : Cond.methodLink RL 78 yX7_ahead ∈ rx_tbl := rx_in (i := 559) (by decide +kernel) rfl
theorem mlX7_205 : Cond.methodLink RX7 205 yX4_partBehind ∈ rx_tbl := rx_in (i := 563) (by decide +kernel) rfl
theorem mlX4_28 : Cond.methodLink RX4 28 yX3_takeFrom ∈ rx_tbl := rx_in (i := 567) (by decide +kernel) rfl
theorem mlX4_36 : Cond.methodLink RX4 36 yX4_partOnward ∈ rx_tbl := rx_in (i := 568) (by decide +kernel) rfl
theorem mlX4_40 : Cond.methodLink RX4 40 yX3_passMinuteOf ∈ rx_tbl := rx_in (i := 572) (by decide +kernel) rfl
theorem mlL_82 : Cond.methodLink RL 82 yX7_band ∈ rx_tbl := rx_in (i := 576) (by decide +kernel) rfl
theorem mlX7_209 : Cond.methodLink RX7 209 yX4_lookAhead ∈ rx_tbl := rx_in (i := 580) (by decide +kernel) rfl
theorem mlX4_32 : Cond.methodLink RX4 32 yX3_passMinute ∈ rx_tbl := rx_in (i := 584) (by decide +kernel) rfl
theorem mlX7_213 : Cond.methodLink RX7 213 yX3_arrivedBits ∈ rx_tbl := rx_in (i := 585) (by decide +kernel) rfl
theorem mlL_86 : Cond.methodLink RL 86 yX7_arrives ∈ rx_tbl := rx_in (i := 589) (by decide +kernel) rfl
theorem mlX7_216 : Cond.methodLink RX7 216 yX4_arrival ∈ rx_tbl := rx_in (i := 593) (by decide +kernel) rfl
theorem mlX4_53 : Cond.methodLink RX4 53 yX4_arrivalOnward ∈ rx_tbl := rx_in (i := 597) (by decide +kernel) rfl
theorem kcX4_60 : Cond.constant RX4 60 (-1000000) ∈ rx_tbl := rx_in (i := 601) (by decide +kernel) rfl
theorem mlL_90 : Cond.methodLink RL 90 yX7_leads ∈ rx_tbl := rx_in (i := 602) (by decide +kernel) rfl
theorem mlX7_220 : Cond.methodLink RX7 220 yX3_firstAhead ∈ rx_tbl := rx_in (i := 606) (by decide +kernel) rfl
theorem mlL_94 : Cond.methodLink RL 94 yX7_meet ∈ rx_tbl := rx_in (i := 610) (by decide +kernel) rfl
theorem mlX7_223 : Cond.methodLink RX7 223 yX4_meeting ∈ rx_tbl := rx_in (i := 614) (by decide +kernel) rfl
theorem mlX4_61 : Cond.methodLink RX4 61 yJ6_compare_7cf53 ∈ rx_tbl := rx_in (i := 618) (by decide +kernel) rfl
theorem mlX4_72 : Cond.methodLink RX4 72 yX1_go ∈ rx_tbl := rx_in (i := 621) (by decide +kernel) rfl
theorem mlL_98 : Cond.methodLink RL 98 yX7_fast ∈ rx_tbl := rx_in (i := 622) (by decide +kernel) rfl
theorem mlX7_226 : Cond.methodLink RX7 226 yX7_isAskedAhead ∈ rx_tbl := rx_in (i := 626) (by decide +kernel) rfl
theorem mlX7_230 : Cond.methodLink RX7 230 yX4_leastStep ∈ rx_tbl := rx_in (i := 630) (by decide +kernel) rfl
theorem mlL_102 : Cond.methodLink RL 102 yX7_pullFor ∈ rx_tbl := rx_in (i := 634) (by decide +kernel) rfl
theorem mlX7_233 : Cond.methodLink RX7 233 yX4_greatestPull ∈ rx_tbl := rx_in (i := 638) (by decide +kernel) rfl
theorem mlL_106 : Cond.methodLink RL 106 yX7_order ∈ rx_tbl := rx_in (i := 642) (by decide +kernel) rfl
theorem mlX7_236 : Cond.methodLink RX7 236 yX4_bestOrder ∈ rx_tbl := rx_in (i := 646) (by decide +kernel) rfl
theorem mlX4_89 : Cond.methodLink RX4 89 yX4_arrivalInOrder ∈ rx_tbl := rx_in (i := 650) (by decide +kernel) rfl
theorem mlX4_103 : Cond.methodLink RX4 103 yX3_stretch ∈ rx_tbl := rx_in (i := 654) (by decide +kernel) rfl
theorem mlX4_93 : Cond.methodLink RX4 93 yX4_nextOrder ∈ rx_tbl := rx_in (i := 655) (by decide +kernel) rfl
theorem mlX4_106 : Cond.methodLink RX4 106 yX4_swap ∈ rx_tbl := rx_in (i := 659) (by decide +kernel) rfl
theorem mlL_110 : Cond.methodLink RL 110 yX7_half ∈ rx_tbl := rx_in (i := 664) (by decide +kernel) rfl
theorem mlX7_243 : Cond.methodLink RX7 243 yX4_halfCrossed ∈ rx_tbl := rx_in (i := 668) (by decide +kernel) rfl
theorem kcX4_76 : Cond.constant RX4 76 (500000) ∈ rx_tbl := rx_in (i := 672) (by decide +kernel) rfl
theorem mlL_114 : Cond.methodLink RL 114 yX7_rest ∈ rx_tbl := rx_in (i := 673) (by decide +kernel) rfl
theorem mlX7_246 : Cond.methodLink RX7 246 yX4_bestRest ∈ rx_tbl := rx_in (i := 677) (by decide +kernel) rfl
theorem mlL_118 : Cond.methodLink RL 118 yX7_passed ∈ rx_tbl := rx_in (i := 681) (by decide +kernel) rfl
theorem mlX7_249 : Cond.methodLink RX7 249 yX4_passing ∈ rx_tbl := rx_in (i := 685) (by decide +kernel) rfl
theorem mlX4_109 : Cond.methodLink RX4 109 yX4_aheadOf ∈ rx_tbl := rx_in (i := 689) (by decide +kernel) rfl
theorem mlL_122 : Cond.methodLink RL 122 yX7_who ∈ rx_tbl := rx_in (i := 693) (by decide +kernel) rfl
theorem mlX7_252 : Cond.methodLink RX7 252 yX7_isRowAsked ∈ rx_tbl := rx_in (i := 697) (by decide +kernel) rfl
theorem mlX7_255 : Cond.methodLink RX7 255 yX4_readMarks ∈ rx_tbl := rx_in (i := 701) (by decide +kernel) rfl
theorem mlX7_259 : Cond.methodLink RX7 259 yX4_fitting ∈ rx_tbl := rx_in (i := 705) (by decide +kernel) rfl
theorem mlX4_122 : Cond.methodLink RX4 122 yX4_fitsMarks ∈ rx_tbl := rx_in (i := 709) (by decide +kernel) rfl
theorem mlX4_125 : Cond.methodLink RX4 125 yX1_hundredth ∈ rx_tbl := rx_in (i := 713) (by decide +kernel) rfl
theorem mlL_126 : Cond.methodLink RL 126 yX7_which ∈ rx_tbl := rx_in (i := 714) (by decide +kernel) rfl
theorem mlX7_262 : Cond.methodLink RX7 262 yX4_fittingAnts ∈ rx_tbl := rx_in (i := 718) (by decide +kernel) rfl
theorem mlL_130 : Cond.methodLink RL 130 yX7_inches ∈ rx_tbl := rx_in (i := 722) (by decide +kernel) rfl
theorem kcX7_265 : Cond.constantLong RX7 265 (1000000) ∈ rx_tbl := rx_in (i := 726) (by decide +kernel) rfl
theorem mlL_134 : Cond.methodLink RL 134 yX7_wind ∈ rx_tbl := rx_in (i := 727) (by decide +kernel) rfl
theorem kcX7_267 : Cond.constantLong RX7 267 (-1000001) ∈ rx_tbl := rx_in (i := 731) (by decide +kernel) rfl
theorem mlX7_269 : Cond.methodLink RX7 269 yX4_blow ∈ rx_tbl := rx_in (i := 732) (by decide +kernel) rfl
theorem kcX4_136 : Cond.constantLong RX4 136 (10) ∈ rx_tbl := rx_in (i := 736) (by decide +kernel) rfl
theorem mlX4_138 : Cond.methodLink RX4 138 yX4_arrivesBlown ∈ rx_tbl := rx_in (i := 737) (by decide +kernel) rfl
theorem mlX4_150 : Cond.methodLink RX4 150 yX3_stretchInTurn ∈ rx_tbl := rx_in (i := 741) (by decide +kernel) rfl
theorem mlX4_142 : Cond.methodLink RX4 142 yX4_casesOf ∈ rx_tbl := rx_in (i := 742) (by decide +kernel) rfl
theorem mlX4_146 : Cond.methodLink RX4 146 yX4_commonDivisor ∈ rx_tbl := rx_in (i := 746) (by decide +kernel) rfl
theorem mlL_139 : Cond.methodLink RL 139 yX7_drawn ∈ rx_tbl := rx_in (i := 750) (by decide +kernel) rfl
theorem kcX7_280 : Cond.constant RX7 280 (999999) ∈ rx_tbl := rx_in (i := 754) (by decide +kernel) rfl
theorem mlX7_281 : Cond.methodLink RX7 281 yX4_walkByDraws ∈ rx_tbl := rx_in (i := 755) (by decide +kernel) rfl
theorem kcX4_153 : Cond.constantLong RX4 153 (16807) ∈ rx_tbl := rx_in (i := 759) (by decide +kernel) rfl
theorem kcX4_155 : Cond.constantLong RX4 155 (2147483647) ∈ rx_tbl := rx_in (i := 760) (by decide +kernel) rfl
theorem kcX4_157 : Cond.constantLong RX4 157 (4) ∈ rx_tbl := rx_in (i := 761) (by decide +kernel) rfl
theorem mlX4_159 : Cond.methodLink RX4 159 yX3_slacken ∈ rx_tbl := rx_in (i := 762) (by decide +kernel) rfl
theorem mlX7_285 : Cond.methodLink RX7 285 yJ6_bitCount_0f7a4 ∈ rx_tbl := rx_in (i := 763) (by decide +kernel) rfl
theorem kcJ6_265 : Cond.constant RJ6 265 (1431655765) ∈ rx_tbl := rx_in (i := 766) (by decide +kernel) rfl
theorem kcJ6_266 : Cond.constant RJ6 266 (858993459) ∈ rx_tbl := rx_in (i := 767) (by decide +kernel) rfl
theorem kcJ6_267 : Cond.constant RJ6 267 (252645135) ∈ rx_tbl := rx_in (i := 768) (by decide +kernel) rfl
theorem mlL_143 : Cond.methodLink RL 143 yX7_image ∈ rx_tbl := rx_in (i := 769) (by decide +kernel) rfl
theorem mlL_147 : Cond.methodLink RL 147 yX7_restore ∈ rx_tbl := rx_in (i := 773) (by decide +kernel) rfl
theorem mlL_151 : Cond.methodLink RL 151 yX7_kind ∈ rx_tbl := rx_in (i := 777) (by decide +kernel) rfl
theorem mlL_155 : Cond.methodLink RL 155 yX7_as ∈ rx_tbl := rx_in (i := 781) (by decide +kernel) rfl
theorem mlX7_293 : Cond.methodLink RX7 293 yX1_isOf ∈ rx_tbl := rx_in (i := 785) (by decide +kernel) rfl
theorem mlL_159 : Cond.methodLink RL 159 yX7_ask ∈ rx_tbl := rx_in (i := 791) (by decide +kernel) rfl
theorem mlX7_296 : Cond.methodLink RX7 296 yX2_answer ∈ rx_tbl := rx_in (i := 795) (by decide +kernel) rfl
theorem mlX2_25 : Cond.methodLink RX2 25 yX1_hundredth ∈ rx_tbl := rx_in (i := 799) (by decide +kernel) rfl
theorem mlX2_50 : Cond.methodLink RX2 50 yX2_begin ∈ rx_tbl := rx_in (i := 804) (by decide +kernel) rfl
theorem mlX2_54 : Cond.methodLink RX2 54 yX2_leave ∈ rx_tbl := rx_in (i := 808) (by decide +kernel) rfl
theorem mlL_163 : Cond.methodLink RL 163 yX7_trace ∈ rx_tbl := rx_in (i := 812) (by decide +kernel) rfl
theorem mlL_167 : Cond.methodLink RL 167 yX7_count ∈ rx_tbl := rx_in (i := 816) (by decide +kernel) rfl
theorem mlX7_306 : Cond.methodLink RX7 306 yX5_present ∈ rx_tbl := rx_in (i := 820) (by decide +kernel) rfl
theorem mlL_171 : Cond.methodLink RL 171 yX7_status ∈ rx_tbl := rx_in (i := 824) (by decide +kernel) rfl
theorem mlL_12 : Cond.methodLink RL 12 yX8_init ∈ rx_tbl := rx_in (i := 830) (by decide +kernel) rfl
theorem flX8_7 : Cond.fieldLink RX8 7 (TX8 0).1 (TX8 0).2.1 (TX8 0).2.2.1 ∈ rx_tbl := rx_in (i := 834) (by decide +kernel) rfl
theorem flX8_13 : Cond.fieldLink RX8 13 (TX8 1).1 (TX8 1).2.1 (TX8 1).2.2.1 ∈ rx_tbl := rx_in (i := 835) (by decide +kernel) rfl
theorem flX8_16 : Cond.fieldLink RX8 16 (TX8 2).1 (TX8 2).2.1 (TX8 2).2.2.1 ∈ rx_tbl := rx_in (i := 836) (by decide +kernel) rfl
theorem flX8_57 : Cond.fieldLink RX8 57 (TX8 3).1 (TX8 3).2.1 (TX8 3).2.2.1 ∈ rx_tbl := rx_in (i := 837) (by decide +kernel) rfl
theorem flX8_144 : Cond.fieldLink RX8 144 (TX8 4).1 (TX8 4).2.1 (TX8 4).2.2.1 ∈ rx_tbl := rx_in (i := 838) (by decide +kernel) rfl
theorem flX8_19 : Cond.fieldLink RX8 19 (TX8 5).1 (TX8 5).2.1 (TX8 5).2.2.1 ∈ rx_tbl := rx_in (i := 839) (by decide +kernel) rfl
theorem flX8_22 : Cond.fieldLink RX8 22 (TX8 6).1 (TX8 6).2.1 (TX8 6).2.2.1 ∈ rx_tbl := rx_in (i := 840) (by decide +kernel) rfl
theorem flX8_26 : Cond.fieldLink RX8 26 (TX8 7).1 (TX8 7).2.1 (TX8 7).2.2.1 ∈ rx_tbl := rx_in (i := 841) (by decide +kernel) rfl
theorem flX8_29 : Cond.fieldLink RX8 29 (TX8 8).1 (TX8 8).2.1 (TX8 8).2.2.1 ∈ rx_tbl := rx_in (i := 842) (by decide +kernel) rfl
theorem flX8_87 : Cond.fieldLink RX8 87 (TX8 9).1 (TX8 9).2.1 (TX8 9).2.2.1 ∈ rx_tbl := rx_in (i := 843) (by decide +kernel) rfl
theorem flX8_140 : Cond.fieldLink RX8 140 (TX8 10).1 (TX8 10).2.1 (TX8 10).2.2.1 ∈ rx_tbl := rx_in (i := 844) (by decide +kernel) rfl
theorem flX8_91 : Cond.fieldLink RX8 91 (TX8 11).1 (TX8 11).2.1 (TX8 11).2.2.1 ∈ rx_tbl := rx_in (i := 845) (by decide +kernel) rfl
theorem flX8_97 : Cond.fieldLink RX8 97 (TX8 12).1 (TX8 12).2.1 (TX8 12).2.2.1 ∈ rx_tbl := rx_in (i := 846) (by decide +kernel) rfl
theorem flX8_100 : Cond.fieldLink RX8 100 (TX8 13).1 (TX8 13).2.1 (TX8 13).2.2.1 ∈ rx_tbl := rx_in (i := 847) (by decide +kernel) rfl
theorem flX8_94 : Cond.fieldLink RX8 94 (TX8 14).1 (TX8 14).2.1 (TX8 14).2.2.1 ∈ rx_tbl := rx_in (i := 848) (by decide +kernel) rfl
theorem flX8_111 : Cond.fieldLink RX8 111 (TX8 15).1 (TX8 15).2.1 (TX8 15).2.2.1 ∈ rx_tbl := rx_in (i := 849) (by decide +kernel) rfl
theorem flX8_32 : Cond.fieldLink RX8 32 (TX8 16).1 (TX8 16).2.1 (TX8 16).2.2.1 ∈ rx_tbl := rx_in (i := 850) (by decide +kernel) rfl
theorem flX8_35 : Cond.fieldLink RX8 35 (TX8 17).1 (TX8 17).2.1 (TX8 17).2.2.1 ∈ rx_tbl := rx_in (i := 851) (by decide +kernel) rfl
theorem flX8_148 : Cond.fieldLink RX8 148 (TX8 18).1 (TX8 18).2.1 (TX8 18).2.2.1 ∈ rx_tbl := rx_in (i := 852) (by decide +kernel) rfl
theorem flX8_38 : Cond.fieldLink RX8 38 (TX8 19).1 (TX8 19).2.1 (TX8 19).2.2.1 ∈ rx_tbl := rx_in (i := 853) (by decide +kernel) rfl
theorem flX8_41 : Cond.fieldLink RX8 41 (TX8 20).1 (TX8 20).2.1 (TX8 20).2.2.1 ∈ rx_tbl := rx_in (i := 854) (by decide +kernel) rfl
theorem flX8_44 : Cond.fieldLink RX8 44 (TX8 21).1 (TX8 21).2.1 (TX8 21).2.2.1 ∈ rx_tbl := rx_in (i := 855) (by decide +kernel) rfl
theorem flX8_47 : Cond.fieldLink RX8 47 (TX8 22).1 (TX8 22).2.1 (TX8 22).2.2.1 ∈ rx_tbl := rx_in (i := 856) (by decide +kernel) rfl
theorem flX8_51 : Cond.fieldLink RX8 51 (TX8 23).1 (TX8 23).2.1 (TX8 23).2.2.1 ∈ rx_tbl := rx_in (i := 857) (by decide +kernel) rfl
theorem flX8_54 : Cond.fieldLink RX8 54 (TX8 24).1 (TX8 24).2.1 (TX8 24).2.2.1 ∈ rx_tbl := rx_in (i := 858) (by decide +kernel) rfl
theorem flX8_253 : Cond.fieldLink RX8 253 (TX8 25).1 (TX8 25).2.1 (TX8 25).2.2.1 ∈ rx_tbl := rx_in (i := 859) (by decide +kernel) rfl
theorem mlL_17 : Cond.methodLink RL 17 yX8_row ∈ rx_tbl := rx_in (i := 913) (by decide +kernel) rfl
theorem mlX8_67 : Cond.methodLink RX8 67 yX8_isRow ∈ rx_tbl := rx_in (i := 917) (by decide +kernel) rfl
theorem kcX8_61 : Cond.constantLong RX8 61 (7) ∈ rx_tbl := rx_in (i := 920) (by decide +kernel) rfl
theorem mlX8_63 : Cond.methodLink RX8 63 yX8_in ∈ rx_tbl := rx_in (i := 921) (by decide +kernel) rfl
theorem kcX8_71 : Cond.constantLong RX8 71 (2) ∈ rx_tbl := rx_in (i := 924) (by decide +kernel) rfl
theorem kcX8_73 : Cond.constant RX8 73 (-1000001) ∈ rx_tbl := rx_in (i := 925) (by decide +kernel) rfl
theorem mlX8_74 : Cond.methodLink RX8 74 yX8_find ∈ rx_tbl := rx_in (i := 926) (by decide +kernel) rfl
theorem kcX8_60 : Cond.constant RX8 60 (-1000010) ∈ rx_tbl := rx_in (i := 930) (by decide +kernel) rfl
theorem mlX8_78 : Cond.methodLink RX8 78 yX8_well ∈ rx_tbl := rx_in (i := 931) (by decide +kernel) rfl
theorem mlL_21 : Cond.methodLink RL 21 yX8_set ∈ rx_tbl := rx_in (i := 935) (by decide +kernel) rfl
theorem mlX8_81 : Cond.methodLink RX8 81 yX8_asLane ∈ rx_tbl := rx_in (i := 939) (by decide +kernel) rfl
theorem mlL_26 : Cond.methodLink RL 26 yX8_copy ∈ rx_tbl := rx_in (i := 942) (by decide +kernel) rfl
theorem mlL_31 : Cond.methodLink RL 31 yX8_drop ∈ rx_tbl := rx_in (i := 946) (by decide +kernel) rfl
theorem mlL_35 : Cond.methodLink RL 35 yX8_feed ∈ rx_tbl := rx_in (i := 950) (by decide +kernel) rfl
theorem kcX8_85 : Cond.constantLong RX8 85 (255) ∈ rx_tbl := rx_in (i := 954) (by decide +kernel) rfl
theorem kcX8_90 : Cond.constant RX8 90 (-1000003) ∈ rx_tbl := rx_in (i := 955) (by decide +kernel) rfl
theorem mlL_40 : Cond.methodLink RL 40 yX8_wall ∈ rx_tbl := rx_in (i := 956) (by decide +kernel) rfl
theorem mlX8_137 : Cond.methodLink RX8 137 yX8_readWall ∈ rx_tbl := rx_in (i := 960) (by decide +kernel) rfl
theorem mlX8_120 : Cond.methodLink RX8 120 yX8_nextToken ∈ rx_tbl := rx_in (i := 964) (by decide +kernel) rfl
theorem kcX8_103 : Cond.constantLong RX8 103 (48) ∈ rx_tbl := rx_in (i := 968) (by decide +kernel) rfl
theorem kcX8_105 : Cond.constantLong RX8 105 (57) ∈ rx_tbl := rx_in (i := 969) (by decide +kernel) rfl
theorem kcX8_107 : Cond.constantLong RX8 107 (97) ∈ rx_tbl := rx_in (i := 970) (by decide +kernel) rfl
theorem kcX8_109 : Cond.constantLong RX8 109 (122) ∈ rx_tbl := rx_in (i := 971) (by decide +kernel) rfl
theorem mlX8_123 : Cond.methodLink RX8 123 yX8_takes ∈ rx_tbl := rx_in (i := 972) (by decide +kernel) rfl
theorem mlX8_114 : Cond.methodLink RX8 114 yX8_isLetter ∈ rx_tbl := rx_in (i := 976) (by decide +kernel) rfl
theorem mlX8_117 : Cond.methodLink RX8 117 yX8_faults ∈ rx_tbl := rx_in (i := 980) (by decide +kernel) rfl
theorem mlX8_126 : Cond.methodLink RX8 126 yX8_takesNumber ∈ rx_tbl := rx_in (i := 984) (by decide +kernel) rfl
theorem mlX8_130 : Cond.methodLink RX8 130 yX8_readAnt ∈ rx_tbl := rx_in (i := 988) (by decide +kernel) rfl
theorem mlX8_133 : Cond.methodLink RX8 133 yX8_readPull ∈ rx_tbl := rx_in (i := 992) (by decide +kernel) rfl
theorem kcX8_143 : Cond.constant RX8 143 (-1000100) ∈ rx_tbl := rx_in (i := 996) (by decide +kernel) rfl
theorem mlL_44 : Cond.methodLink RL 44 yX8_fault ∈ rx_tbl := rx_in (i := 997) (by decide +kernel) rfl
theorem mlL_48 : Cond.methodLink RL 48 yX8_undo ∈ rx_tbl := rx_in (i := 1001) (by decide +kernel) rfl
theorem kcX8_173 : Cond.constant RX8 173 (-1000002) ∈ rx_tbl := rx_in (i := 1005) (by decide +kernel) rfl
theorem mlL_52 : Cond.methodLink RL 52 yX8_minutes ∈ rx_tbl := rx_in (i := 1006) (by decide +kernel) rfl
theorem kcX8_174 : Cond.constantLong RX8 174 (24) ∈ rx_tbl := rx_in (i := 1010) (by decide +kernel) rfl
theorem mlX8_176 : Cond.methodLink RX8 176 yX8_note ∈ rx_tbl := rx_in (i := 1011) (by decide +kernel) rfl
theorem mlX8_170 : Cond.methodLink RX8 170 yX8_oneMinute ∈ rx_tbl := rx_in (i := 1015) (by decide +kernel) rfl
theorem mlX8_167 : Cond.methodLink RX8 167 yX8_goMinute ∈ rx_tbl := rx_in (i := 1019) (by decide +kernel) rfl
theorem mlX8_159 : Cond.methodLink RX8 159 yX8_has ∈ rx_tbl := rx_in (i := 1023) (by decide +kernel) rfl
theorem mlX8_163 : Cond.methodLink RX8 163 yX8_goOne ∈ rx_tbl := rx_in (i := 1026) (by decide +kernel) rfl
theorem mlX8_155 : Cond.methodLink RX8 155 yX8_gaitOf ∈ rx_tbl := rx_in (i := 1030) (by decide +kernel) rfl
theorem kcX8_151 : Cond.constant RX8 151 (100000) ∈ rx_tbl := rx_in (i := 1034) (by decide +kernel) rfl
theorem mlX8_152 : Cond.methodLink RX8 152 yX8_isNailward ∈ rx_tbl := rx_in (i := 1035) (by decide +kernel) rfl
theorem kcX8_158 : Cond.constant RX8 158 (1000000) ∈ rx_tbl := rx_in (i := 1039) (by decide +kernel) rfl
theorem mlL_57 : Cond.methodLink RL 57 yX8_pull ∈ rx_tbl := rx_in (i := 1040) (by decide +kernel) rfl
theorem kcX8_179 : Cond.constantLong RX8 179 (99) ∈ rx_tbl := rx_in (i := 1044) (by decide +kernel) rfl
theorem mlL_61 : Cond.methodLink RL 61 yX8_letGo ∈ rx_tbl := rx_in (i := 1045) (by decide +kernel) rfl
theorem mlX8_181 : Cond.methodLink RX8 181 yX8_slacken ∈ rx_tbl := rx_in (i := 1049) (by decide +kernel) rfl
theorem mlL_65 : Cond.methodLink RL 65 yX8_place ∈ rx_tbl := rx_in (i := 1053) (by decide +kernel) rfl
theorem mlX8_184 : Cond.methodLink RX8 184 yX8_isAnt ∈ rx_tbl := rx_in (i := 1057) (by decide +kernel) rfl
theorem mlL_69 : Cond.methodLink RL 69 yX8_step ∈ rx_tbl := rx_in (i := 1061) (by decide +kernel) rfl
theorem kcX8_187 : Cond.constantLong RX8 187 (20) ∈ rx_tbl := rx_in (i := 1065) (by decide +kernel) rfl
theorem mlL_73 : Cond.methodLink RL 73 yX8_ant ∈ rx_tbl := rx_in (i := 1066) (by decide +kernel) rfl
theorem mlL_77 : Cond.methodLink RL 77 yX8_pulls ∈ rx_tbl := rx_in (i := 1070) (by decide +kernel) rfl
theorem kcX8_189 : Cond.constant RX8 189 (-1000000) ∈ rx_tbl := rx_in (i := 1074) (by decide +kernel) rfl
theorem mlL_81 : Cond.methodLink RL 81 yX8_ahead ∈ rx_tbl := rx_in (i := 1075) (by decide +kernel) rfl
theorem mlX8_190 : Cond.methodLink RX8 190 yX8_putAside ∈ rx_tbl := rx_in (i := 1079) (by decide +kernel) rfl
theorem mlX8_193 : Cond.methodLink RX8 193 yX8_goOn ∈ rx_tbl := rx_in (i := 1083) (by decide +kernel) rfl
theorem mlX8_196 : Cond.methodLink RX8 196 yX8_takeBack ∈ rx_tbl := rx_in (i := 1087) (by decide +kernel) rfl
theorem mlL_85 : Cond.methodLink RL 85 yX8_band ∈ rx_tbl := rx_in (i := 1091) (by decide +kernel) rfl
theorem mlX8_199 : Cond.methodLink RX8 199 yX8_isWhat ∈ rx_tbl := rx_in (i := 1095) (by decide +kernel) rfl
theorem mlL_89 : Cond.methodLink RL 89 yX8_arrives ∈ rx_tbl := rx_in (i := 1098) (by decide +kernel) rfl
theorem mlL_93 : Cond.methodLink RL 93 yX8_leads ∈ rx_tbl := rx_in (i := 1102) (by decide +kernel) rfl
theorem mlL_97 : Cond.methodLink RL 97 yX8_meet ∈ rx_tbl := rx_in (i := 1106) (by decide +kernel) rfl
theorem mlL_101 : Cond.methodLink RL 101 yX8_fast ∈ rx_tbl := rx_in (i := 1110) (by decide +kernel) rfl
theorem mlX8_202 : Cond.methodLink RX8 202 yX8_lacks ∈ rx_tbl := rx_in (i := 1114) (by decide +kernel) rfl
theorem mlX8_205 : Cond.methodLink RX8 205 yX8_isThereBy ∈ rx_tbl := rx_in (i := 1118) (by decide +kernel) rfl
theorem mlL_105 : Cond.methodLink RL 105 yX8_pullFor ∈ rx_tbl := rx_in (i := 1122) (by decide +kernel) rfl
theorem mlL_109 : Cond.methodLink RL 109 yX8_order ∈ rx_tbl := rx_in (i := 1126) (by decide +kernel) rfl
theorem mlX8_212 : Cond.methodLink RX8 212 yX8_arrivesBy ∈ rx_tbl := rx_in (i := 1130) (by decide +kernel) rfl
theorem mlX8_215 : Cond.methodLink RX8 215 yX8_isNext ∈ rx_tbl := rx_in (i := 1134) (by decide +kernel) rfl
theorem mlX8_208 : Cond.methodLink RX8 208 yX8_change ∈ rx_tbl := rx_in (i := 1138) (by decide +kernel) rfl
theorem mlL_113 : Cond.methodLink RL 113 yX8_half ∈ rx_tbl := rx_in (i := 1142) (by decide +kernel) rfl
theorem kcX8_218 : Cond.constant RX8 218 (500000) ∈ rx_tbl := rx_in (i := 1146) (by decide +kernel) rfl
theorem mlL_117 : Cond.methodLink RL 117 yX8_rest ∈ rx_tbl := rx_in (i := 1147) (by decide +kernel) rfl
theorem mlL_121 : Cond.methodLink RL 121 yX8_passed ∈ rx_tbl := rx_in (i := 1151) (by decide +kernel) rfl
theorem mlL_125 : Cond.methodLink RL 125 yX8_who ∈ rx_tbl := rx_in (i := 1155) (by decide +kernel) rfl
theorem mlX8_221 : Cond.methodLink RX8 221 yX8_lacksItems ∈ rx_tbl := rx_in (i := 1159) (by decide +kernel) rfl
theorem kcX8_219 : Cond.constantLong RX8 219 (12) ∈ rx_tbl := rx_in (i := 1163) (by decide +kernel) rfl
theorem mlX8_225 : Cond.methodLink RX8 225 yX8_isSo ∈ rx_tbl := rx_in (i := 1164) (by decide +kernel) rfl
theorem mlL_129 : Cond.methodLink RL 129 yX8_which ∈ rx_tbl := rx_in (i := 1168) (by decide +kernel) rfl
theorem mlL_133 : Cond.methodLink RL 133 yX8_inches ∈ rx_tbl := rx_in (i := 1172) (by decide +kernel) rfl
theorem kcX8_229 : Cond.constantLong RX8 229 (1000000) ∈ rx_tbl := rx_in (i := 1176) (by decide +kernel) rfl
theorem mlL_138 : Cond.methodLink RL 138 yX8_wind ∈ rx_tbl := rx_in (i := 1177) (by decide +kernel) rfl
theorem kcX8_231 : Cond.constantLong RX8 231 (8) ∈ rx_tbl := rx_in (i := 1181) (by decide +kernel) rfl
theorem kcX8_233 : Cond.constantLong RX8 233 (10) ∈ rx_tbl := rx_in (i := 1182) (by decide +kernel) rfl
theorem kcX8_235 : Cond.constantLong RX8 235 (-1000001) ∈ rx_tbl := rx_in (i := 1183) (by decide +kernel) rfl
theorem mlL_142 : Cond.methodLink RL 142 yX8_drawn ∈ rx_tbl := rx_in (i := 1184) (by decide +kernel) rfl
theorem kcX8_237 : Cond.constantLong RX8 237 (999999) ∈ rx_tbl := rx_in (i := 1188) (by decide +kernel) rfl
theorem kcX8_239 : Cond.constantLong RX8 239 (16807) ∈ rx_tbl := rx_in (i := 1189) (by decide +kernel) rfl
theorem kcX8_241 : Cond.constantLong RX8 241 (2147483647) ∈ rx_tbl := rx_in (i := 1190) (by decide +kernel) rfl
theorem kcX8_243 : Cond.constantLong RX8 243 (4) ∈ rx_tbl := rx_in (i := 1191) (by decide +kernel) rfl
theorem mlX8_245 : Cond.methodLink RX8 245 yX8_ones ∈ rx_tbl := rx_in (i := 1192) (by decide +kernel) rfl
theorem mlL_146 : Cond.methodLink RL 146 yX8_image ∈ rx_tbl := rx_in (i := 1195) (by decide +kernel) rfl
theorem mlL_150 : Cond.methodLink RL 150 yX8_restore ∈ rx_tbl := rx_in (i := 1199) (by decide +kernel) rfl
theorem mlL_154 : Cond.methodLink RL 154 yX8_kind ∈ rx_tbl := rx_in (i := 1203) (by decide +kernel) rfl
theorem mlL_158 : Cond.methodLink RL 158 yX8_as ∈ rx_tbl := rx_in (i := 1207) (by decide +kernel) rfl
theorem kcX8_248 : Cond.constantLong RX8 248 (5) ∈ rx_tbl := rx_in (i := 1211) (by decide +kernel) rfl
theorem mlX8_250 : Cond.methodLink RX8 250 yX8_isKind ∈ rx_tbl := rx_in (i := 1212) (by decide +kernel) rfl
theorem mlL_162 : Cond.methodLink RL 162 yX8_ask ∈ rx_tbl := rx_in (i := 1215) (by decide +kernel) rfl
theorem mlX8_277 : Cond.methodLink RX8 277 yX8_sizeOf ∈ rx_tbl := rx_in (i := 1219) (by decide +kernel) rfl
theorem mlX8_256 : Cond.methodLink RX8 256 yX8_begin ∈ rx_tbl := rx_in (i := 1223) (by decide +kernel) rfl
theorem mlX8_274 : Cond.methodLink RX8 274 yX8_plainSize ∈ rx_tbl := rx_in (i := 1227) (by decide +kernel) rfl
theorem mlX8_259 : Cond.methodLink RX8 259 yX8_lent ∈ rx_tbl := rx_in (i := 1231) (by decide +kernel) rfl
theorem mlX8_271 : Cond.methodLink RX8 271 yX8_markOf ∈ rx_tbl := rx_in (i := 1235) (by decide +kernel) rfl
theorem mlX8_265 : Cond.methodLink RX8 265 yX8_plainMark ∈ rx_tbl := rx_in (i := 1239) (by decide +kernel) rfl
theorem mlX8_268 : Cond.methodLink RX8 268 yX8_sizeOfBack ∈ rx_tbl := rx_in (i := 1243) (by decide +kernel) rfl
theorem mlX8_262 : Cond.methodLink RX8 262 yX8_backSize ∈ rx_tbl := rx_in (i := 1247) (by decide +kernel) rfl
theorem mlL_166 : Cond.methodLink RL 166 yX8_trace ∈ rx_tbl := rx_in (i := 1251) (by decide +kernel) rfl
theorem mlL_170 : Cond.methodLink RL 170 yX8_count ∈ rx_tbl := rx_in (i := 1255) (by decide +kernel) rfl
theorem mlL_174 : Cond.methodLink RL 174 yX8_status ∈ rx_tbl := rx_in (i := 1259) (by decide +kernel) rfl
/-- what the tables say of a method: its code, that it is found, its arguments' number -/
def rx_V (y : MethodName) (bytes : ByteArray) (maxL : Nat) (rt : Option FieldType) (n : Nat) : Prop := Cond.code y bytes maxL rt ∈ rx_tbl ∧ Cond.instanceMethod y ∈ rx_tbl ∧ Cond.selects y.cls y y ∈ rx_tbl ∧ Cond.initialized y.cls ∈ rx_tbl ∧ (y.cls ≠ "java/lang/invoke/MethodHandle" ∧ y.cls ≠ "java/lang/invoke/VarHandle" ∧ (parseMethodDescriptor y.desc).map (fun d => d.parameters.length) = some n) ∧ plainName y.cls = true
def rx_T (y : MethodName) (bytes : ByteArray) (maxL : Nat) (rt : Option FieldType) (n : Nat) : Prop := Cond.code y bytes maxL rt ∈ rx_tbl ∧ Cond.static y ∈ rx_tbl ∧ Cond.initialized y.cls ∈ rx_tbl ∧ (y.cls ≠ "java/lang/invoke/MethodHandle" ∧ y.cls ≠ "java/lang/invoke/VarHandle" ∧ (parseMethodDescriptor y.desc).map (fun d => d.parameters.length) = some n) ∧ plainName y.cls = true
theorem vsX0_keep : rx_V yX0_keep cX0_keep 2 none 1 := ⟨rx_in (i := 488) (by decide +kernel) rfl, rx_in (i := 486) (by decide +kernel) rfl, rx_in (i := 487) (by decide +kernel) rfl, rx_in (i := 69) (by decide +kernel) rfl, by decide +kernel, by decide +kernel⟩
theorem vsX0_takeBack : rx_V yX0_takeBack cX0_takeBack 2 (some .int) 1 := ⟨rx_in (i := 479) (by decide +kernel) rfl, rx_in (i := 477) (by decide +kernel) rfl, rx_in (i := 478) (by decide +kernel) rfl, rx_in (i := 69) (by decide +kernel) rfl, by decide +kernel, by decide +kernel⟩
theorem vsX0_forget : rx_V yX0_forget cX0_forget 1 none 0 := ⟨rx_in (i := 466) (by decide +kernel) rfl, rx_in (i := 464) (by decide +kernel) rfl, rx_in (i := 465) (by decide +kernel) rfl, rx_in (i := 69) (by decide +kernel) rfl, by decide +kernel, by decide +kernel⟩
theorem vsX1_tell : rx_V yX1_tell cX1_tell 5 none 4 := ⟨rx_in (i := 453) (by decide +kernel) rfl, rx_in (i := 451) (by decide +kernel) rfl, rx_in (i := 452) (by decide +kernel) rfl, rx_in (i := 66) (by decide +kernel) rfl, by decide +kernel, by decide +kernel⟩
theorem vsX1_takeFrom : rx_V yX1_takeFrom cX1_takeFrom 2 none 1 := ⟨rx_in (i := 462) (by decide +kernel) rfl, rx_in (i := 460) (by decide +kernel) rfl, rx_in (i := 461) (by decide +kernel) rfl, rx_in (i := 66) (by decide +kernel) rfl, by decide +kernel, by decide +kernel⟩
theorem vsX1_hundredth : rx_V yX1_hundredth cX1_hundredth 1 (some .int) 0 := ⟨rx_in (i := 544) (by decide +kernel) rfl, rx_in (i := 542) (by decide +kernel) rfl, rx_in (i := 543) (by decide +kernel) rfl, rx_in (i := 66) (by decide +kernel) rfl, by decide +kernel, by decide +kernel⟩
theorem vsX1_isOf : rx_V yX1_isOf cX1_isOf 4 (some .boolean) 1 := ⟨rx_in (i := 788) (by decide +kernel) rfl, rx_in (i := 786) (by decide +kernel) rfl, rx_in (i := 787) (by decide +kernel) rfl, rx_in (i := 66) (by decide +kernel) rfl, by decide +kernel, by decide +kernel⟩
theorem vsX1_goesToNail : rx_V yX1_goesToNail cX1_goesToNail 2 (some .boolean) 1 := ⟨rx_in (i := 504) (by decide +kernel) rfl, rx_in (i := 502) (by decide +kernel) rfl, rx_in (i := 503) (by decide +kernel) rfl, rx_in (i := 66) (by decide +kernel) rfl, by decide +kernel, by decide +kernel⟩
theorem vsX1_gait : rx_V yX1_gait cX1_gait 2 (some .int) 1 := ⟨rx_in (i := 500) (by decide +kernel) rfl, rx_in (i := 498) (by decide +kernel) rfl, rx_in (i := 499) (by decide +kernel) rfl, rx_in (i := 66) (by decide +kernel) rfl, by decide +kernel, by decide +kernel⟩
theorem vsX1_go : rx_V yX1_go cX1_go 3 none 2 := ⟨rx_in (i := 496) (by decide +kernel) rfl, rx_in (i := 494) (by decide +kernel) rfl, rx_in (i := 495) (by decide +kernel) rfl, rx_in (i := 66) (by decide +kernel) rfl, by decide +kernel, by decide +kernel⟩
theorem vsX2_answer : rx_V yX2_answer cX2_answer 4 (some .int) 3 := ⟨rx_in (i := 798) (by decide +kernel) rfl, rx_in (i := 796) (by decide +kernel) rfl, rx_in (i := 797) (by decide +kernel) rfl, rx_in (i := 71) (by decide +kernel) rfl, by decide +kernel, by decide +kernel⟩
theorem vsX2_begin : rx_V yX2_begin cX2_begin 3 (some .int) 2 := ⟨rx_in (i := 807) (by decide +kernel) rfl, rx_in (i := 806) (by decide +kernel) rfl, rx_in (i := 25) (by decide +kernel) rfl, rx_in (i := 71) (by decide +kernel) rfl, by decide +kernel, by decide +kernel⟩
theorem vsX2_leave : rx_V yX2_leave cX2_leave 2 none 1 := ⟨rx_in (i := 811) (by decide +kernel) rfl, rx_in (i := 810) (by decide +kernel) rfl, rx_in (i := 26) (by decide +kernel) rfl, rx_in (i := 71) (by decide +kernel) rfl, by decide +kernel, by decide +kernel⟩
theorem vsX3_clear : rx_V yX3_clear cX3_clear 1 none 0 := ⟨rx_in (i := 401) (by decide +kernel) rfl, rx_in (i := 399) (by decide +kernel) rfl, rx_in (i := 400) (by decide +kernel) rfl, rx_in (i := 65) (by decide +kernel) rfl, by decide +kernel, by decide +kernel⟩
theorem vsX3_addPull : rx_V yX3_addPull cX3_addPull 2 none 1 := ⟨rx_in (i := 433) (by decide +kernel) rfl, rx_in (i := 431) (by decide +kernel) rfl, rx_in (i := 432) (by decide +kernel) rfl, rx_in (i := 65) (by decide +kernel) rfl, by decide +kernel, by decide +kernel⟩
theorem vsX3_addAnt : rx_V yX3_addAnt cX3_addAnt 5 none 4 := ⟨rx_in (i := 449) (by decide +kernel) rfl, rx_in (i := 447) (by decide +kernel) rfl, rx_in (i := 448) (by decide +kernel) rfl, rx_in (i := 65) (by decide +kernel) rfl, by decide +kernel, by decide +kernel⟩
theorem vsX3_takeFrom : rx_V yX3_takeFrom cX3_takeFrom 3 none 1 := ⟨rx_in (i := 458) (by decide +kernel) rfl, rx_in (i := 456) (by decide +kernel) rfl, rx_in (i := 457) (by decide +kernel) rfl, rx_in (i := 65) (by decide +kernel) rfl, by decide +kernel, by decide +kernel⟩
theorem vsX3_hasAnt : rx_V yX3_hasAnt cX3_hasAnt 2 (some .boolean) 1 := ⟨rx_in (i := 540) (by decide +kernel) rfl, rx_in (i := 538) (by decide +kernel) rfl, rx_in (i := 539) (by decide +kernel) rfl, rx_in (i := 65) (by decide +kernel) rfl, by decide +kernel, by decide +kernel⟩
theorem vsX3_passMinute : rx_V yX3_passMinute cX3_passMinute 3 none 1 := ⟨rx_in (i := 492) (by decide +kernel) rfl, rx_in (i := 490) (by decide +kernel) rfl, rx_in (i := 491) (by decide +kernel) rfl, rx_in (i := 65) (by decide +kernel) rfl, by decide +kernel, by decide +kernel⟩
theorem vsX3_passMinuteOf : rx_V yX3_passMinuteOf cX3_passMinuteOf 2 none 1 := ⟨rx_in (i := 575) (by decide +kernel) rfl, rx_in (i := 573) (by decide +kernel) rfl, rx_in (i := 574) (by decide +kernel) rfl, rx_in (i := 65) (by decide +kernel) rfl, by decide +kernel, by decide +kernel⟩
theorem vsX3_stretchInTurn : rx_V yX3_stretchInTurn cX3_stretchInTurn 1 none 0 := ⟨rx_in (i := 510) (by decide +kernel) rfl, rx_in (i := 508) (by decide +kernel) rfl, rx_in (i := 509) (by decide +kernel) rfl, rx_in (i := 65) (by decide +kernel) rfl, by decide +kernel, by decide +kernel⟩
theorem vsX3_stretch : rx_V yX3_stretch cX3_stretch 2 none 1 := ⟨rx_in (i := 514) (by decide +kernel) rfl, rx_in (i := 512) (by decide +kernel) rfl, rx_in (i := 513) (by decide +kernel) rfl, rx_in (i := 65) (by decide +kernel) rfl, by decide +kernel, by decide +kernel⟩
theorem vsX3_slacken : rx_V yX3_slacken cX3_slacken 1 none 0 := ⟨rx_in (i := 529) (by decide +kernel) rfl, rx_in (i := 527) (by decide +kernel) rfl, rx_in (i := 528) (by decide +kernel) rfl, rx_in (i := 65) (by decide +kernel) rfl, by decide +kernel, by decide +kernel⟩
theorem vsX3_arrivedBits : rx_V yX3_arrivedBits cX3_arrivedBits 3 (some .int) 0 := ⟨rx_in (i := 588) (by decide +kernel) rfl, rx_in (i := 586) (by decide +kernel) rfl, rx_in (i := 587) (by decide +kernel) rfl, rx_in (i := 65) (by decide +kernel) rfl, by decide +kernel, by decide +kernel⟩
theorem vsX3_firstAhead : rx_V yX3_firstAhead cX3_firstAhead 3 (some .int) 0 := ⟨rx_in (i := 609) (by decide +kernel) rfl, rx_in (i := 607) (by decide +kernel) rfl, rx_in (i := 608) (by decide +kernel) rfl, rx_in (i := 65) (by decide +kernel) rfl, by decide +kernel, by decide +kernel⟩
theorem vsX4_lookAhead : rx_V yX4_lookAhead cX4_lookAhead 4 none 2 := ⟨rx_in (i := 583) (by decide +kernel) rfl, rx_in (i := 581) (by decide +kernel) rfl, rx_in (i := 582) (by decide +kernel) rfl, rx_in (i := 70) (by decide +kernel) rfl, by decide +kernel, by decide +kernel⟩
theorem vsX4_partBehind : rx_V yX4_partBehind cX4_partBehind 4 (some .int) 3 := ⟨rx_in (i := 566) (by decide +kernel) rfl, rx_in (i := 564) (by decide +kernel) rfl, rx_in (i := 565) (by decide +kernel) rfl, rx_in (i := 70) (by decide +kernel) rfl, by decide +kernel, by decide +kernel⟩
theorem vsX4_partOnward : rx_V yX4_partOnward cX4_partOnward 4 (some .int) 2 := ⟨rx_in (i := 571) (by decide +kernel) rfl, rx_in (i := 570) (by decide +kernel) rfl, rx_in (i := 13) (by decide +kernel) rfl, rx_in (i := 70) (by decide +kernel) rfl, by decide +kernel, by decide +kernel⟩
theorem vsX4_arrival : rx_V yX4_arrival cX4_arrival 3 (some .int) 2 := ⟨rx_in (i := 596) (by decide +kernel) rfl, rx_in (i := 594) (by decide +kernel) rfl, rx_in (i := 595) (by decide +kernel) rfl, rx_in (i := 70) (by decide +kernel) rfl, by decide +kernel, by decide +kernel⟩
theorem vsX4_arrivalOnward : rx_V yX4_arrivalOnward cX4_arrivalOnward 4 (some .int) 2 := ⟨rx_in (i := 600) (by decide +kernel) rfl, rx_in (i := 599) (by decide +kernel) rfl, rx_in (i := 14) (by decide +kernel) rfl, rx_in (i := 70) (by decide +kernel) rfl, by decide +kernel, by decide +kernel⟩
theorem vsX4_meeting : rx_V yX4_meeting cX4_meeting 7 (some .int) 3 := ⟨rx_in (i := 617) (by decide +kernel) rfl, rx_in (i := 615) (by decide +kernel) rfl, rx_in (i := 616) (by decide +kernel) rfl, rx_in (i := 70) (by decide +kernel) rfl, by decide +kernel, by decide +kernel⟩
theorem vsX4_halfCrossed : rx_V yX4_halfCrossed cX4_halfCrossed 6 (some .int) 2 := ⟨rx_in (i := 671) (by decide +kernel) rfl, rx_in (i := 669) (by decide +kernel) rfl, rx_in (i := 670) (by decide +kernel) rfl, rx_in (i := 70) (by decide +kernel) rfl, by decide +kernel, by decide +kernel⟩
theorem vsX4_leastStep : rx_V yX4_leastStep cX4_leastStep 5 (some .int) 3 := ⟨rx_in (i := 633) (by decide +kernel) rfl, rx_in (i := 631) (by decide +kernel) rfl, rx_in (i := 632) (by decide +kernel) rfl, rx_in (i := 70) (by decide +kernel) rfl, by decide +kernel, by decide +kernel⟩
theorem vsX4_greatestPull : rx_V yX4_greatestPull cX4_greatestPull 6 (some .int) 3 := ⟨rx_in (i := 641) (by decide +kernel) rfl, rx_in (i := 639) (by decide +kernel) rfl, rx_in (i := 640) (by decide +kernel) rfl, rx_in (i := 70) (by decide +kernel) rfl, by decide +kernel, by decide +kernel⟩
theorem vsX4_bestRest : rx_V yX4_bestRest cX4_bestRest 8 (some .int) 3 := ⟨rx_in (i := 680) (by decide +kernel) rfl, rx_in (i := 678) (by decide +kernel) rfl, rx_in (i := 679) (by decide +kernel) rfl, rx_in (i := 70) (by decide +kernel) rfl, by decide +kernel, by decide +kernel⟩
theorem vsX4_bestOrder : rx_V yX4_bestOrder cX4_bestOrder 8 (some .int) 3 := ⟨rx_in (i := 649) (by decide +kernel) rfl, rx_in (i := 647) (by decide +kernel) rfl, rx_in (i := 648) (by decide +kernel) rfl, rx_in (i := 70) (by decide +kernel) rfl, by decide +kernel, by decide +kernel⟩
theorem vsX4_arrivalInOrder : rx_V yX4_arrivalInOrder cX4_arrivalInOrder 7 (some .int) 3 := ⟨rx_in (i := 653) (by decide +kernel) rfl, rx_in (i := 652) (by decide +kernel) rfl, rx_in (i := 16) (by decide +kernel) rfl, rx_in (i := 70) (by decide +kernel) rfl, by decide +kernel, by decide +kernel⟩
theorem vsX4_nextOrder : rx_V yX4_nextOrder cX4_nextOrder 6 (some .boolean) 1 := ⟨rx_in (i := 658) (by decide +kernel) rfl, rx_in (i := 657) (by decide +kernel) rfl, rx_in (i := 17) (by decide +kernel) rfl, rx_in (i := 70) (by decide +kernel) rfl, by decide +kernel, by decide +kernel⟩
theorem vsX4_swap : rx_V yX4_swap cX4_swap 4 none 2 := ⟨rx_in (i := 662) (by decide +kernel) rfl, rx_in (i := 661) (by decide +kernel) rfl, rx_in (i := 18) (by decide +kernel) rfl, rx_in (i := 70) (by decide +kernel) rfl, by decide +kernel, by decide +kernel⟩
theorem vsX4_passing : rx_V yX4_passing cX4_passing 7 (some .int) 3 := ⟨rx_in (i := 688) (by decide +kernel) rfl, rx_in (i := 686) (by decide +kernel) rfl, rx_in (i := 687) (by decide +kernel) rfl, rx_in (i := 70) (by decide +kernel) rfl, by decide +kernel, by decide +kernel⟩
theorem vsX4_aheadOf : rx_V yX4_aheadOf cX4_aheadOf 4 (some .int) 1 := ⟨rx_in (i := 692) (by decide +kernel) rfl, rx_in (i := 691) (by decide +kernel) rfl, rx_in (i := 19) (by decide +kernel) rfl, rx_in (i := 70) (by decide +kernel) rfl, by decide +kernel, by decide +kernel⟩
theorem vsX4_readMarks : rx_V yX4_readMarks cX4_readMarks 4 none 3 := ⟨rx_in (i := 704) (by decide +kernel) rfl, rx_in (i := 702) (by decide +kernel) rfl, rx_in (i := 703) (by decide +kernel) rfl, rx_in (i := 70) (by decide +kernel) rfl, by decide +kernel, by decide +kernel⟩
theorem vsX4_fitting : rx_V yX4_fitting cX4_fitting 8 (some .int) 3 := ⟨rx_in (i := 708) (by decide +kernel) rfl, rx_in (i := 706) (by decide +kernel) rfl, rx_in (i := 707) (by decide +kernel) rfl, rx_in (i := 70) (by decide +kernel) rfl, by decide +kernel, by decide +kernel⟩
theorem vsX4_fittingAnts : rx_V yX4_fittingAnts cX4_fittingAnts 4 (some .int) 1 := ⟨rx_in (i := 721) (by decide +kernel) rfl, rx_in (i := 719) (by decide +kernel) rfl, rx_in (i := 720) (by decide +kernel) rfl, rx_in (i := 70) (by decide +kernel) rfl, by decide +kernel, by decide +kernel⟩
theorem vsX4_fitsMarks : rx_V yX4_fitsMarks cX4_fitsMarks 3 (some .boolean) 1 := ⟨rx_in (i := 712) (by decide +kernel) rfl, rx_in (i := 711) (by decide +kernel) rfl, rx_in (i := 21) (by decide +kernel) rfl, rx_in (i := 70) (by decide +kernel) rfl, by decide +kernel, by decide +kernel⟩
theorem vsX4_blow : rx_V yX4_blow cX4_blow 7 none 4 := ⟨rx_in (i := 735) (by decide +kernel) rfl, rx_in (i := 733) (by decide +kernel) rfl, rx_in (i := 734) (by decide +kernel) rfl, rx_in (i := 70) (by decide +kernel) rfl, by decide +kernel, by decide +kernel⟩
theorem vsX4_arrivesBlown : rx_V yX4_arrivesBlown cX4_arrivesBlown 6 (some .boolean) 4 := ⟨rx_in (i := 740) (by decide +kernel) rfl, rx_in (i := 739) (by decide +kernel) rfl, rx_in (i := 22) (by decide +kernel) rfl, rx_in (i := 70) (by decide +kernel) rfl, by decide +kernel, by decide +kernel⟩
theorem vsX4_casesOf : rx_V yX4_casesOf cX4_casesOf 7 (some .long) 3 := ⟨rx_in (i := 745) (by decide +kernel) rfl, rx_in (i := 744) (by decide +kernel) rfl, rx_in (i := 23) (by decide +kernel) rfl, rx_in (i := 70) (by decide +kernel) rfl, by decide +kernel, by decide +kernel⟩
theorem vsX4_commonDivisor : rx_V yX4_commonDivisor cX4_commonDivisor 12 (some .long) 2 := ⟨rx_in (i := 749) (by decide +kernel) rfl, rx_in (i := 748) (by decide +kernel) rfl, rx_in (i := 24) (by decide +kernel) rfl, rx_in (i := 70) (by decide +kernel) rfl, by decide +kernel, by decide +kernel⟩
theorem vsX4_walkByDraws : rx_V yX4_walkByDraws cX4_walkByDraws 7 none 3 := ⟨rx_in (i := 758) (by decide +kernel) rfl, rx_in (i := 756) (by decide +kernel) rfl, rx_in (i := 757) (by decide +kernel) rfl, rx_in (i := 70) (by decide +kernel) rfl, by decide +kernel, by decide +kernel⟩
theorem vsX5_isNumber : rx_V yX5_isNumber cX5_isNumber 2 (some .boolean) 1 := ⟨rx_in (i := 329) (by decide +kernel) rfl, rx_in (i := 327) (by decide +kernel) rfl, rx_in (i := 328) (by decide +kernel) rfl, rx_in (i := 67) (by decide +kernel) rfl, by decide +kernel, by decide +kernel⟩
theorem vsX5_isMissing : rx_V yX5_isMissing cX5_isMissing 2 (some .boolean) 1 := ⟨rx_in (i := 355) (by decide +kernel) rfl, rx_in (i := 353) (by decide +kernel) rfl, rx_in (i := 354) (by decide +kernel) rfl, rx_in (i := 67) (by decide +kernel) rfl, by decide +kernel, by decide +kernel⟩
theorem vsX5_hasPlaces : rx_V yX5_hasPlaces cX5_hasPlaces 4 (some .boolean) 3 := ⟨rx_in (i := 360) (by decide +kernel) rfl, rx_in (i := 358) (by decide +kernel) rfl, rx_in (i := 359) (by decide +kernel) rfl, rx_in (i := 67) (by decide +kernel) rfl, by decide +kernel, by decide +kernel⟩
theorem vsX5_make : rx_V yX5_make cX5_make 5 none 3 := ⟨rx_in (i := 339) (by decide +kernel) rfl, rx_in (i := 337) (by decide +kernel) rfl, rx_in (i := 338) (by decide +kernel) rfl, rx_in (i := 67) (by decide +kernel) rfl, by decide +kernel, by decide +kernel⟩
theorem vsX5_put : rx_V yX5_put cX5_put 5 (some .int) 3 := ⟨rx_in (i := 365) (by decide +kernel) rfl, rx_in (i := 363) (by decide +kernel) rfl, rx_in (i := 364) (by decide +kernel) rfl, rx_in (i := 67) (by decide +kernel) rfl, by decide +kernel, by decide +kernel⟩
theorem vsX5_lose : rx_V yX5_lose cX5_lose 3 (some .int) 1 := ⟨rx_in (i := 380) (by decide +kernel) rfl, rx_in (i := 378) (by decide +kernel) rfl, rx_in (i := 379) (by decide +kernel) rfl, rx_in (i := 67) (by decide +kernel) rfl, by decide +kernel, by decide +kernel⟩
theorem vsX5_present : rx_V yX5_present cX5_present 3 (some .int) 0 := ⟨rx_in (i := 823) (by decide +kernel) rfl, rx_in (i := 821) (by decide +kernel) rfl, rx_in (i := 822) (by decide +kernel) rfl, rx_in (i := 67) (by decide +kernel) rfl, by decide +kernel, by decide +kernel⟩
theorem vsX6_add : rx_V yX6_add cX6_add 2 (some .int) 1 := ⟨rx_in (i := 389) (by decide +kernel) rfl, rx_in (i := 387) (by decide +kernel) rfl, rx_in (i := 388) (by decide +kernel) rfl, rx_in (i := 68) (by decide +kernel) rfl, by decide +kernel, by decide +kernel⟩
theorem vsX6_readWall : rx_V yX6_readWall cX6_readWall 2 (some .boolean) 1 := ⟨rx_in (i := 397) (by decide +kernel) rfl, rx_in (i := 395) (by decide +kernel) rfl, rx_in (i := 396) (by decide +kernel) rfl, rx_in (i := 68) (by decide +kernel) rfl, by decide +kernel, by decide +kernel⟩
theorem vsX6_readLaw : rx_V yX6_readLaw cX6_readLaw 2 (some .boolean) 1 := ⟨rx_in (i := 405) (by decide +kernel) rfl, rx_in (i := 404) (by decide +kernel) rfl, rx_in (i := 3) (by decide +kernel) rfl, rx_in (i := 68) (by decide +kernel) rfl, by decide +kernel, by decide +kernel⟩
theorem vsX6_readPulls : rx_V yX6_readPulls cX6_readPulls 3 (some .boolean) 1 := ⟨rx_in (i := 425) (by decide +kernel) rfl, rx_in (i := 424) (by decide +kernel) rfl, rx_in (i := 8) (by decide +kernel) rfl, rx_in (i := 68) (by decide +kernel) rfl, by decide +kernel, by decide +kernel⟩
theorem vsX6_readPull : rx_V yX6_readPull cX6_readPull 3 (some .boolean) 1 := ⟨rx_in (i := 429) (by decide +kernel) rfl, rx_in (i := 428) (by decide +kernel) rfl, rx_in (i := 9) (by decide +kernel) rfl, rx_in (i := 68) (by decide +kernel) rfl, by decide +kernel, by decide +kernel⟩
theorem vsX6_readAnts : rx_V yX6_readAnts cX6_readAnts 4 (some .boolean) 1 := ⟨rx_in (i := 437) (by decide +kernel) rfl, rx_in (i := 436) (by decide +kernel) rfl, rx_in (i := 10) (by decide +kernel) rfl, rx_in (i := 68) (by decide +kernel) rfl, by decide +kernel, by decide +kernel⟩
theorem vsX6_readAnt : rx_V yX6_readAnt cX6_readAnt 6 (some .boolean) 2 := ⟨rx_in (i := 445) (by decide +kernel) rfl, rx_in (i := 444) (by decide +kernel) rfl, rx_in (i := 12) (by decide +kernel) rfl, rx_in (i := 68) (by decide +kernel) rfl, by decide +kernel, by decide +kernel⟩
theorem vsX6_kindOf : rx_V yX6_kindOf cX6_kindOf 2 (some .int) 1 := ⟨rx_in (i := 441) (by decide +kernel) rfl, rx_in (i := 440) (by decide +kernel) rfl, rx_in (i := 11) (by decide +kernel) rfl, rx_in (i := 68) (by decide +kernel) rfl, by decide +kernel, by decide +kernel⟩
theorem vsX6_nextByte : rx_V yX6_nextByte cX6_nextByte 1 (some .int) 0 := ⟨rx_in (i := 413) (by decide +kernel) rfl, rx_in (i := 412) (by decide +kernel) rfl, rx_in (i := 5) (by decide +kernel) rfl, rx_in (i := 68) (by decide +kernel) rfl, by decide +kernel, by decide +kernel⟩
theorem vsX6_pass : rx_V yX6_pass cX6_pass 2 (some .boolean) 1 := ⟨rx_in (i := 409) (by decide +kernel) rfl, rx_in (i := 408) (by decide +kernel) rfl, rx_in (i := 4) (by decide +kernel) rfl, rx_in (i := 68) (by decide +kernel) rfl, by decide +kernel, by decide +kernel⟩
theorem vsX6_readNumber : rx_V yX6_readNumber cX6_readNumber 5 (some .int) 2 := ⟨rx_in (i := 421) (by decide +kernel) rfl, rx_in (i := 420) (by decide +kernel) rfl, rx_in (i := 7) (by decide +kernel) rfl, rx_in (i := 68) (by decide +kernel) rfl, by decide +kernel, by decide +kernel⟩
theorem vsX6_fail : rx_V yX6_fail cX6_fail 2 (some .boolean) 1 := ⟨rx_in (i := 417) (by decide +kernel) rfl, rx_in (i := 416) (by decide +kernel) rfl, rx_in (i := 6) (by decide +kernel) rfl, rx_in (i := 68) (by decide +kernel) rfl, by decide +kernel, by decide +kernel⟩
theorem vsX7_row : rx_V yX7_row cX7_row 4 (some .int) 3 := ⟨rx_in (i := 325) (by decide +kernel) rfl, rx_in (i := 323) (by decide +kernel) rfl, rx_in (i := 324) (by decide +kernel) rfl, rx_in (i := 64) (by decide +kernel) rfl, by decide +kernel, by decide +kernel⟩
theorem vsX7_set : rx_V yX7_set cX7_set 5 (some .int) 3 := ⟨rx_in (i := 347) (by decide +kernel) rfl, rx_in (i := 345) (by decide +kernel) rfl, rx_in (i := 346) (by decide +kernel) rfl, rx_in (i := 64) (by decide +kernel) rfl, by decide +kernel, by decide +kernel⟩
theorem vsX7_copy : rx_V yX7_copy cX7_copy 6 (some .int) 5 := ⟨rx_in (i := 369) (by decide +kernel) rfl, rx_in (i := 367) (by decide +kernel) rfl, rx_in (i := 368) (by decide +kernel) rfl, rx_in (i := 64) (by decide +kernel) rfl, by decide +kernel, by decide +kernel⟩
theorem vsX7_drop : rx_V yX7_drop cX7_drop 2 (some .int) 1 := ⟨rx_in (i := 376) (by decide +kernel) rfl, rx_in (i := 374) (by decide +kernel) rfl, rx_in (i := 375) (by decide +kernel) rfl, rx_in (i := 64) (by decide +kernel) rfl, by decide +kernel, by decide +kernel⟩
theorem vsX7_feed : rx_V yX7_feed cX7_feed 2 (some .int) 1 := ⟨rx_in (i := 384) (by decide +kernel) rfl, rx_in (i := 382) (by decide +kernel) rfl, rx_in (i := 383) (by decide +kernel) rfl, rx_in (i := 64) (by decide +kernel) rfl, by decide +kernel, by decide +kernel⟩
theorem vsX7_wall : rx_V yX7_wall cX7_wall 3 (some .int) 0 := ⟨rx_in (i := 393) (by decide +kernel) rfl, rx_in (i := 391) (by decide +kernel) rfl, rx_in (i := 392) (by decide +kernel) rfl, rx_in (i := 64) (by decide +kernel) rfl, by decide +kernel, by decide +kernel⟩
theorem vsX7_fault : rx_V yX7_fault cX7_fault 1 (some .int) 0 := ⟨rx_in (i := 470) (by decide +kernel) rfl, rx_in (i := 468) (by decide +kernel) rfl, rx_in (i := 469) (by decide +kernel) rfl, rx_in (i := 64) (by decide +kernel) rfl, by decide +kernel, by decide +kernel⟩
theorem vsX7_undo : rx_V yX7_undo cX7_undo 1 (some .int) 0 := ⟨rx_in (i := 474) (by decide +kernel) rfl, rx_in (i := 472) (by decide +kernel) rfl, rx_in (i := 473) (by decide +kernel) rfl, rx_in (i := 64) (by decide +kernel) rfl, by decide +kernel, by decide +kernel⟩
theorem vsX7_minutes : rx_V yX7_minutes cX7_minutes 3 (some .int) 1 := ⟨rx_in (i := 484) (by decide +kernel) rfl, rx_in (i := 482) (by decide +kernel) rfl, rx_in (i := 483) (by decide +kernel) rfl, rx_in (i := 64) (by decide +kernel) rfl, by decide +kernel, by decide +kernel⟩
theorem vsX7_pull : rx_V yX7_pull cX7_pull 4 (some .int) 2 := ⟨rx_in (i := 521) (by decide +kernel) rfl, rx_in (i := 519) (by decide +kernel) rfl, rx_in (i := 520) (by decide +kernel) rfl, rx_in (i := 64) (by decide +kernel) rfl, by decide +kernel, by decide +kernel⟩
theorem vsX7_letGo : rx_V yX7_letGo cX7_letGo 1 (some .int) 0 := ⟨rx_in (i := 525) (by decide +kernel) rfl, rx_in (i := 523) (by decide +kernel) rfl, rx_in (i := 524) (by decide +kernel) rfl, rx_in (i := 64) (by decide +kernel) rfl, by decide +kernel, by decide +kernel⟩
theorem vsX7_place : rx_V yX7_place cX7_place 5 (some .int) 2 := ⟨rx_in (i := 536) (by decide +kernel) rfl, rx_in (i := 534) (by decide +kernel) rfl, rx_in (i := 535) (by decide +kernel) rfl, rx_in (i := 64) (by decide +kernel) rfl, by decide +kernel, by decide +kernel⟩
theorem vsX7_step : rx_V yX7_step cX7_step 4 (some .int) 2 := ⟨rx_in (i := 548) (by decide +kernel) rfl, rx_in (i := 546) (by decide +kernel) rfl, rx_in (i := 547) (by decide +kernel) rfl, rx_in (i := 64) (by decide +kernel) rfl, by decide +kernel, by decide +kernel⟩
theorem vsX7_ant : rx_V yX7_ant cX7_ant 4 (some .int) 2 := ⟨rx_in (i := 552) (by decide +kernel) rfl, rx_in (i := 550) (by decide +kernel) rfl, rx_in (i := 551) (by decide +kernel) rfl, rx_in (i := 64) (by decide +kernel) rfl, by decide +kernel, by decide +kernel⟩
theorem vsX7_pulls : rx_V yX7_pulls cX7_pulls 2 (some .int) 1 := ⟨rx_in (i := 557) (by decide +kernel) rfl, rx_in (i := 555) (by decide +kernel) rfl, rx_in (i := 556) (by decide +kernel) rfl, rx_in (i := 64) (by decide +kernel) rfl, by decide +kernel, by decide +kernel⟩
theorem vsX7_ahead : rx_V yX7_ahead cX7_ahead 3 (some .int) 2 := ⟨rx_in (i := 562) (by decide +kernel) rfl, rx_in (i := 560) (by decide +kernel) rfl, rx_in (i := 561) (by decide +kernel) rfl, rx_in (i := 64) (by decide +kernel) rfl, by decide +kernel, by decide +kernel⟩
theorem vsX7_band : rx_V yX7_band cX7_band 3 (some .int) 2 := ⟨rx_in (i := 579) (by decide +kernel) rfl, rx_in (i := 577) (by decide +kernel) rfl, rx_in (i := 578) (by decide +kernel) rfl, rx_in (i := 64) (by decide +kernel) rfl, by decide +kernel, by decide +kernel⟩
theorem vsX7_arrives : rx_V yX7_arrives cX7_arrives 2 (some .int) 1 := ⟨rx_in (i := 592) (by decide +kernel) rfl, rx_in (i := 590) (by decide +kernel) rfl, rx_in (i := 591) (by decide +kernel) rfl, rx_in (i := 64) (by decide +kernel) rfl, by decide +kernel, by decide +kernel⟩
theorem vsX7_leads : rx_V yX7_leads cX7_leads 2 (some .int) 1 := ⟨rx_in (i := 605) (by decide +kernel) rfl, rx_in (i := 603) (by decide +kernel) rfl, rx_in (i := 604) (by decide +kernel) rfl, rx_in (i := 64) (by decide +kernel) rfl, by decide +kernel, by decide +kernel⟩
theorem vsX7_meet : rx_V yX7_meet cX7_meet 3 (some .int) 2 := ⟨rx_in (i := 613) (by decide +kernel) rfl, rx_in (i := 611) (by decide +kernel) rfl, rx_in (i := 612) (by decide +kernel) rfl, rx_in (i := 64) (by decide +kernel) rfl, by decide +kernel, by decide +kernel⟩
theorem vsX7_fast : rx_V yX7_fast cX7_fast 3 (some .int) 2 := ⟨rx_in (i := 625) (by decide +kernel) rfl, rx_in (i := 623) (by decide +kernel) rfl, rx_in (i := 624) (by decide +kernel) rfl, rx_in (i := 64) (by decide +kernel) rfl, by decide +kernel, by decide +kernel⟩
theorem vsX7_pullFor : rx_V yX7_pullFor cX7_pullFor 3 (some .int) 2 := ⟨rx_in (i := 637) (by decide +kernel) rfl, rx_in (i := 635) (by decide +kernel) rfl, rx_in (i := 636) (by decide +kernel) rfl, rx_in (i := 64) (by decide +kernel) rfl, by decide +kernel, by decide +kernel⟩
theorem vsX7_order : rx_V yX7_order cX7_order 5 (some .int) 3 := ⟨rx_in (i := 645) (by decide +kernel) rfl, rx_in (i := 643) (by decide +kernel) rfl, rx_in (i := 644) (by decide +kernel) rfl, rx_in (i := 64) (by decide +kernel) rfl, by decide +kernel, by decide +kernel⟩
theorem vsX7_half : rx_V yX7_half cX7_half 2 (some .int) 1 := ⟨rx_in (i := 667) (by decide +kernel) rfl, rx_in (i := 665) (by decide +kernel) rfl, rx_in (i := 666) (by decide +kernel) rfl, rx_in (i := 64) (by decide +kernel) rfl, by decide +kernel, by decide +kernel⟩
theorem vsX7_rest : rx_V yX7_rest cX7_rest 3 (some .int) 2 := ⟨rx_in (i := 676) (by decide +kernel) rfl, rx_in (i := 674) (by decide +kernel) rfl, rx_in (i := 675) (by decide +kernel) rfl, rx_in (i := 64) (by decide +kernel) rfl, by decide +kernel, by decide +kernel⟩
theorem vsX7_passed : rx_V yX7_passed cX7_passed 3 (some .int) 2 := ⟨rx_in (i := 684) (by decide +kernel) rfl, rx_in (i := 682) (by decide +kernel) rfl, rx_in (i := 683) (by decide +kernel) rfl, rx_in (i := 64) (by decide +kernel) rfl, by decide +kernel, by decide +kernel⟩
theorem vsX7_who : rx_V yX7_who cX7_who 7 (some .int) 5 := ⟨rx_in (i := 696) (by decide +kernel) rfl, rx_in (i := 694) (by decide +kernel) rfl, rx_in (i := 695) (by decide +kernel) rfl, rx_in (i := 64) (by decide +kernel) rfl, by decide +kernel, by decide +kernel⟩
theorem vsX7_which : rx_V yX7_which cX7_which 5 (some .int) 3 := ⟨rx_in (i := 717) (by decide +kernel) rfl, rx_in (i := 715) (by decide +kernel) rfl, rx_in (i := 716) (by decide +kernel) rfl, rx_in (i := 64) (by decide +kernel) rfl, by decide +kernel, by decide +kernel⟩
theorem vsX7_inches : rx_V yX7_inches cX7_inches 2 (some .int) 1 := ⟨rx_in (i := 725) (by decide +kernel) rfl, rx_in (i := 723) (by decide +kernel) rfl, rx_in (i := 724) (by decide +kernel) rfl, rx_in (i := 64) (by decide +kernel) rfl, by decide +kernel, by decide +kernel⟩
theorem vsX7_wind : rx_V yX7_wind cX7_wind 5 (some .long) 4 := ⟨rx_in (i := 730) (by decide +kernel) rfl, rx_in (i := 728) (by decide +kernel) rfl, rx_in (i := 729) (by decide +kernel) rfl, rx_in (i := 64) (by decide +kernel) rfl, by decide +kernel, by decide +kernel⟩
theorem vsX7_drawn : rx_V yX7_drawn cX7_drawn 4 (some .int) 3 := ⟨rx_in (i := 753) (by decide +kernel) rfl, rx_in (i := 751) (by decide +kernel) rfl, rx_in (i := 752) (by decide +kernel) rfl, rx_in (i := 64) (by decide +kernel) rfl, by decide +kernel, by decide +kernel⟩
theorem vsX7_image : rx_V yX7_image cX7_image 2 (some .int) 1 := ⟨rx_in (i := 772) (by decide +kernel) rfl, rx_in (i := 770) (by decide +kernel) rfl, rx_in (i := 771) (by decide +kernel) rfl, rx_in (i := 64) (by decide +kernel) rfl, by decide +kernel, by decide +kernel⟩
theorem vsX7_restore : rx_V yX7_restore cX7_restore 2 (some .int) 1 := ⟨rx_in (i := 776) (by decide +kernel) rfl, rx_in (i := 774) (by decide +kernel) rfl, rx_in (i := 775) (by decide +kernel) rfl, rx_in (i := 64) (by decide +kernel) rfl, by decide +kernel, by decide +kernel⟩
theorem vsX7_kind : rx_V yX7_kind cX7_kind 2 (some .int) 1 := ⟨rx_in (i := 780) (by decide +kernel) rfl, rx_in (i := 778) (by decide +kernel) rfl, rx_in (i := 779) (by decide +kernel) rfl, rx_in (i := 64) (by decide +kernel) rfl, by decide +kernel, by decide +kernel⟩
theorem vsX7_as : rx_V yX7_as cX7_as 3 (some .int) 2 := ⟨rx_in (i := 784) (by decide +kernel) rfl, rx_in (i := 782) (by decide +kernel) rfl, rx_in (i := 783) (by decide +kernel) rfl, rx_in (i := 64) (by decide +kernel) rfl, by decide +kernel, by decide +kernel⟩
theorem vsX7_ask : rx_V yX7_ask cX7_ask 3 (some .int) 2 := ⟨rx_in (i := 794) (by decide +kernel) rfl, rx_in (i := 792) (by decide +kernel) rfl, rx_in (i := 793) (by decide +kernel) rfl, rx_in (i := 64) (by decide +kernel) rfl, by decide +kernel, by decide +kernel⟩
theorem vsX7_trace : rx_V yX7_trace cX7_trace 2 (some .int) 1 := ⟨rx_in (i := 815) (by decide +kernel) rfl, rx_in (i := 813) (by decide +kernel) rfl, rx_in (i := 814) (by decide +kernel) rfl, rx_in (i := 64) (by decide +kernel) rfl, by decide +kernel, by decide +kernel⟩
theorem vsX7_count : rx_V yX7_count cX7_count 2 (some .int) 1 := ⟨rx_in (i := 819) (by decide +kernel) rfl, rx_in (i := 817) (by decide +kernel) rfl, rx_in (i := 818) (by decide +kernel) rfl, rx_in (i := 64) (by decide +kernel) rfl, by decide +kernel, by decide +kernel⟩
theorem vsX7_status : rx_V yX7_status cX7_status 1 (some .int) 0 := ⟨rx_in (i := 827) (by decide +kernel) rfl, rx_in (i := 825) (by decide +kernel) rfl, rx_in (i := 826) (by decide +kernel) rfl, rx_in (i := 64) (by decide +kernel) rfl, by decide +kernel, by decide +kernel⟩
theorem vsX7_found : rx_V yX7_found cX7_found 2 (some .int) 1 := ⟨rx_in (i := 334) (by decide +kernel) rfl, rx_in (i := 333) (by decide +kernel) rfl, rx_in (i := 0) (by decide +kernel) rfl, rx_in (i := 64) (by decide +kernel) rfl, by decide +kernel, by decide +kernel⟩
theorem vsX7_fine : rx_V yX7_fine cX7_fine 2 (some .int) 1 := ⟨rx_in (i := 343) (by decide +kernel) rfl, rx_in (i := 342) (by decide +kernel) rfl, rx_in (i := 1) (by decide +kernel) rfl, rx_in (i := 64) (by decide +kernel) rfl, by decide +kernel, by decide +kernel⟩
theorem vsX7_rowFinding : rx_V yX7_rowFinding cX7_rowFinding 4 (some .int) 3 := ⟨rx_in (i := 351) (by decide +kernel) rfl, rx_in (i := 350) (by decide +kernel) rfl, rx_in (i := 2) (by decide +kernel) rfl, rx_in (i := 64) (by decide +kernel) rfl, by decide +kernel, by decide +kernel⟩
theorem vsX7_isRowAsked : rx_V yX7_isRowAsked cX7_isRowAsked 3 (some .boolean) 2 := ⟨rx_in (i := 700) (by decide +kernel) rfl, rx_in (i := 699) (by decide +kernel) rfl, rx_in (i := 20) (by decide +kernel) rfl, rx_in (i := 64) (by decide +kernel) rfl, by decide +kernel, by decide +kernel⟩
theorem vsX7_isAskedAhead : rx_V yX7_isAskedAhead cX7_isAskedAhead 3 (some .boolean) 2 := ⟨rx_in (i := 629) (by decide +kernel) rfl, rx_in (i := 628) (by decide +kernel) rfl, rx_in (i := 15) (by decide +kernel) rfl, rx_in (i := 64) (by decide +kernel) rfl, by decide +kernel, by decide +kernel⟩
theorem vsX8_in : rx_T yX8_in cX8_in 6 (some .boolean) 3 := ⟨rx_in (i := 923) (by decide +kernel) rfl, rx_in (i := 922) (by decide +kernel) rfl, rx_in (i := 72) (by decide +kernel) rfl, by decide +kernel, by decide +kernel⟩
theorem vsX8_has : rx_T yX8_has cX8_has 2 (some .boolean) 2 := ⟨rx_in (i := 1025) (by decide +kernel) rfl, rx_in (i := 1024) (by decide +kernel) rfl, rx_in (i := 72) (by decide +kernel) rfl, by decide +kernel, by decide +kernel⟩
theorem vsX8_find : rx_V yX8_find cX8_find 2 (some .int) 1 := ⟨rx_in (i := 929) (by decide +kernel) rfl, rx_in (i := 928) (by decide +kernel) rfl, rx_in (i := 27) (by decide +kernel) rfl, rx_in (i := 72) (by decide +kernel) rfl, by decide +kernel, by decide +kernel⟩
theorem vsX8_well : rx_V yX8_well cX8_well 2 (some .int) 1 := ⟨rx_in (i := 934) (by decide +kernel) rfl, rx_in (i := 933) (by decide +kernel) rfl, rx_in (i := 28) (by decide +kernel) rfl, rx_in (i := 72) (by decide +kernel) rfl, by decide +kernel, by decide +kernel⟩
theorem vsX8_isRow : rx_T yX8_isRow cX8_isRow 1 (some .boolean) 1 := ⟨rx_in (i := 919) (by decide +kernel) rfl, rx_in (i := 918) (by decide +kernel) rfl, rx_in (i := 72) (by decide +kernel) rfl, by decide +kernel, by decide +kernel⟩
theorem vsX8_row : rx_V yX8_row cX8_row 5 (some .int) 3 := ⟨rx_in (i := 916) (by decide +kernel) rfl, rx_in (i := 914) (by decide +kernel) rfl, rx_in (i := 915) (by decide +kernel) rfl, rx_in (i := 72) (by decide +kernel) rfl, by decide +kernel, by decide +kernel⟩
theorem vsX8_asLane : rx_T yX8_asLane cX8_asLane 2 (some .int) 2 := ⟨rx_in (i := 941) (by decide +kernel) rfl, rx_in (i := 940) (by decide +kernel) rfl, rx_in (i := 72) (by decide +kernel) rfl, by decide +kernel, by decide +kernel⟩
theorem vsX8_set : rx_V yX8_set cX8_set 4 (some .int) 3 := ⟨rx_in (i := 938) (by decide +kernel) rfl, rx_in (i := 936) (by decide +kernel) rfl, rx_in (i := 937) (by decide +kernel) rfl, rx_in (i := 72) (by decide +kernel) rfl, by decide +kernel, by decide +kernel⟩
theorem vsX8_copy : rx_V yX8_copy cX8_copy 7 (some .int) 5 := ⟨rx_in (i := 945) (by decide +kernel) rfl, rx_in (i := 943) (by decide +kernel) rfl, rx_in (i := 944) (by decide +kernel) rfl, rx_in (i := 72) (by decide +kernel) rfl, by decide +kernel, by decide +kernel⟩
theorem vsX8_drop : rx_V yX8_drop cX8_drop 3 (some .int) 1 := ⟨rx_in (i := 949) (by decide +kernel) rfl, rx_in (i := 947) (by decide +kernel) rfl, rx_in (i := 948) (by decide +kernel) rfl, rx_in (i := 72) (by decide +kernel) rfl, by decide +kernel, by decide +kernel⟩
theorem vsX8_feed : rx_V yX8_feed cX8_feed 2 (some .int) 1 := ⟨rx_in (i := 953) (by decide +kernel) rfl, rx_in (i := 951) (by decide +kernel) rfl, rx_in (i := 952) (by decide +kernel) rfl, rx_in (i := 72) (by decide +kernel) rfl, by decide +kernel, by decide +kernel⟩
theorem vsX8_nextToken : rx_V yX8_nextToken cX8_nextToken 1 none 0 := ⟨rx_in (i := 967) (by decide +kernel) rfl, rx_in (i := 966) (by decide +kernel) rfl, rx_in (i := 30) (by decide +kernel) rfl, rx_in (i := 72) (by decide +kernel) rfl, by decide +kernel, by decide +kernel⟩
theorem vsX8_faults : rx_V yX8_faults cX8_faults 2 (some .boolean) 1 := ⟨rx_in (i := 983) (by decide +kernel) rfl, rx_in (i := 982) (by decide +kernel) rfl, rx_in (i := 33) (by decide +kernel) rfl, rx_in (i := 72) (by decide +kernel) rfl, by decide +kernel, by decide +kernel⟩
theorem vsX8_isLetter : rx_V yX8_isLetter cX8_isLetter 2 (some .boolean) 1 := ⟨rx_in (i := 979) (by decide +kernel) rfl, rx_in (i := 978) (by decide +kernel) rfl, rx_in (i := 32) (by decide +kernel) rfl, rx_in (i := 72) (by decide +kernel) rfl, by decide +kernel, by decide +kernel⟩
theorem vsX8_takes : rx_V yX8_takes cX8_takes 2 (some .boolean) 1 := ⟨rx_in (i := 975) (by decide +kernel) rfl, rx_in (i := 974) (by decide +kernel) rfl, rx_in (i := 31) (by decide +kernel) rfl, rx_in (i := 72) (by decide +kernel) rfl, by decide +kernel, by decide +kernel⟩
theorem vsX8_takesNumber : rx_V yX8_takesNumber cX8_takesNumber 5 (some .boolean) 4 := ⟨rx_in (i := 987) (by decide +kernel) rfl, rx_in (i := 986) (by decide +kernel) rfl, rx_in (i := 34) (by decide +kernel) rfl, rx_in (i := 72) (by decide +kernel) rfl, by decide +kernel, by decide +kernel⟩
theorem vsX8_readPull : rx_V yX8_readPull cX8_readPull 2 (some .boolean) 0 := ⟨rx_in (i := 995) (by decide +kernel) rfl, rx_in (i := 994) (by decide +kernel) rfl, rx_in (i := 36) (by decide +kernel) rfl, rx_in (i := 72) (by decide +kernel) rfl, by decide +kernel, by decide +kernel⟩
theorem vsX8_readAnt : rx_V yX8_readAnt cX8_readAnt 4 (some .boolean) 1 := ⟨rx_in (i := 991) (by decide +kernel) rfl, rx_in (i := 990) (by decide +kernel) rfl, rx_in (i := 35) (by decide +kernel) rfl, rx_in (i := 72) (by decide +kernel) rfl, by decide +kernel, by decide +kernel⟩
theorem vsX8_readWall : rx_V yX8_readWall cX8_readWall 3 (some .boolean) 0 := ⟨rx_in (i := 963) (by decide +kernel) rfl, rx_in (i := 962) (by decide +kernel) rfl, rx_in (i := 29) (by decide +kernel) rfl, rx_in (i := 72) (by decide +kernel) rfl, by decide +kernel, by decide +kernel⟩
theorem vsX8_wall : rx_V yX8_wall cX8_wall 3 (some .int) 0 := ⟨rx_in (i := 959) (by decide +kernel) rfl, rx_in (i := 957) (by decide +kernel) rfl, rx_in (i := 958) (by decide +kernel) rfl, rx_in (i := 72) (by decide +kernel) rfl, by decide +kernel, by decide +kernel⟩
theorem vsX8_fault : rx_V yX8_fault cX8_fault 1 (some .int) 0 := ⟨rx_in (i := 1000) (by decide +kernel) rfl, rx_in (i := 998) (by decide +kernel) rfl, rx_in (i := 999) (by decide +kernel) rfl, rx_in (i := 72) (by decide +kernel) rfl, by decide +kernel, by decide +kernel⟩
theorem vsX8_isAnt : rx_V yX8_isAnt cX8_isAnt 2 (some .boolean) 1 := ⟨rx_in (i := 1060) (by decide +kernel) rfl, rx_in (i := 1059) (by decide +kernel) rfl, rx_in (i := 44) (by decide +kernel) rfl, rx_in (i := 72) (by decide +kernel) rfl, by decide +kernel, by decide +kernel⟩
theorem vsX8_isNailward : rx_V yX8_isNailward cX8_isNailward 3 (some .boolean) 1 := ⟨rx_in (i := 1038) (by decide +kernel) rfl, rx_in (i := 1037) (by decide +kernel) rfl, rx_in (i := 42) (by decide +kernel) rfl, rx_in (i := 72) (by decide +kernel) rfl, by decide +kernel, by decide +kernel⟩
theorem vsX8_gaitOf : rx_V yX8_gaitOf cX8_gaitOf 3 (some .int) 1 := ⟨rx_in (i := 1033) (by decide +kernel) rfl, rx_in (i := 1032) (by decide +kernel) rfl, rx_in (i := 41) (by decide +kernel) rfl, rx_in (i := 72) (by decide +kernel) rfl, by decide +kernel, by decide +kernel⟩
theorem vsX8_goOne : rx_V yX8_goOne cX8_goOne 4 none 1 := ⟨rx_in (i := 1029) (by decide +kernel) rfl, rx_in (i := 1028) (by decide +kernel) rfl, rx_in (i := 40) (by decide +kernel) rfl, rx_in (i := 72) (by decide +kernel) rfl, by decide +kernel, by decide +kernel⟩
theorem vsX8_goMinute : rx_V yX8_goMinute cX8_goMinute 3 none 1 := ⟨rx_in (i := 1022) (by decide +kernel) rfl, rx_in (i := 1021) (by decide +kernel) rfl, rx_in (i := 39) (by decide +kernel) rfl, rx_in (i := 72) (by decide +kernel) rfl, by decide +kernel, by decide +kernel⟩
theorem vsX8_oneMinute : rx_V yX8_oneMinute cX8_oneMinute 1 none 0 := ⟨rx_in (i := 1018) (by decide +kernel) rfl, rx_in (i := 1017) (by decide +kernel) rfl, rx_in (i := 38) (by decide +kernel) rfl, rx_in (i := 72) (by decide +kernel) rfl, by decide +kernel, by decide +kernel⟩
theorem vsX8_goOn : rx_V yX8_goOn cX8_goOn 3 none 1 := ⟨rx_in (i := 1086) (by decide +kernel) rfl, rx_in (i := 1085) (by decide +kernel) rfl, rx_in (i := 46) (by decide +kernel) rfl, rx_in (i := 72) (by decide +kernel) rfl, by decide +kernel, by decide +kernel⟩
theorem vsX8_slacken : rx_V yX8_slacken cX8_slacken 1 none 0 := ⟨rx_in (i := 1052) (by decide +kernel) rfl, rx_in (i := 1051) (by decide +kernel) rfl, rx_in (i := 43) (by decide +kernel) rfl, rx_in (i := 72) (by decide +kernel) rfl, by decide +kernel, by decide +kernel⟩
theorem vsX8_note : rx_V yX8_note cX8_note 2 none 0 := ⟨rx_in (i := 1014) (by decide +kernel) rfl, rx_in (i := 1013) (by decide +kernel) rfl, rx_in (i := 37) (by decide +kernel) rfl, rx_in (i := 72) (by decide +kernel) rfl, by decide +kernel, by decide +kernel⟩
theorem vsX8_undo : rx_V yX8_undo cX8_undo 2 (some .int) 0 := ⟨rx_in (i := 1004) (by decide +kernel) rfl, rx_in (i := 1002) (by decide +kernel) rfl, rx_in (i := 1003) (by decide +kernel) rfl, rx_in (i := 72) (by decide +kernel) rfl, by decide +kernel, by decide +kernel⟩
theorem vsX8_minutes : rx_V yX8_minutes cX8_minutes 3 (some .int) 1 := ⟨rx_in (i := 1009) (by decide +kernel) rfl, rx_in (i := 1007) (by decide +kernel) rfl, rx_in (i := 1008) (by decide +kernel) rfl, rx_in (i := 72) (by decide +kernel) rfl, by decide +kernel, by decide +kernel⟩
theorem vsX8_pull : rx_V yX8_pull cX8_pull 4 (some .int) 2 := ⟨rx_in (i := 1043) (by decide +kernel) rfl, rx_in (i := 1041) (by decide +kernel) rfl, rx_in (i := 1042) (by decide +kernel) rfl, rx_in (i := 72) (by decide +kernel) rfl, by decide +kernel, by decide +kernel⟩
theorem vsX8_letGo : rx_V yX8_letGo cX8_letGo 1 (some .int) 0 := ⟨rx_in (i := 1048) (by decide +kernel) rfl, rx_in (i := 1046) (by decide +kernel) rfl, rx_in (i := 1047) (by decide +kernel) rfl, rx_in (i := 72) (by decide +kernel) rfl, by decide +kernel, by decide +kernel⟩
theorem vsX8_place : rx_V yX8_place cX8_place 4 (some .int) 2 := ⟨rx_in (i := 1056) (by decide +kernel) rfl, rx_in (i := 1054) (by decide +kernel) rfl, rx_in (i := 1055) (by decide +kernel) rfl, rx_in (i := 72) (by decide +kernel) rfl, by decide +kernel, by decide +kernel⟩
theorem vsX8_step : rx_V yX8_step cX8_step 4 (some .int) 2 := ⟨rx_in (i := 1064) (by decide +kernel) rfl, rx_in (i := 1062) (by decide +kernel) rfl, rx_in (i := 1063) (by decide +kernel) rfl, rx_in (i := 72) (by decide +kernel) rfl, by decide +kernel, by decide +kernel⟩
theorem vsX8_ant : rx_V yX8_ant cX8_ant 3 (some .int) 2 := ⟨rx_in (i := 1069) (by decide +kernel) rfl, rx_in (i := 1067) (by decide +kernel) rfl, rx_in (i := 1068) (by decide +kernel) rfl, rx_in (i := 72) (by decide +kernel) rfl, by decide +kernel, by decide +kernel⟩
theorem vsX8_pulls : rx_V yX8_pulls cX8_pulls 2 (some .int) 1 := ⟨rx_in (i := 1073) (by decide +kernel) rfl, rx_in (i := 1071) (by decide +kernel) rfl, rx_in (i := 1072) (by decide +kernel) rfl, rx_in (i := 72) (by decide +kernel) rfl, by decide +kernel, by decide +kernel⟩
theorem vsX8_putAside : rx_V yX8_putAside cX8_putAside 2 none 0 := ⟨rx_in (i := 1082) (by decide +kernel) rfl, rx_in (i := 1081) (by decide +kernel) rfl, rx_in (i := 45) (by decide +kernel) rfl, rx_in (i := 72) (by decide +kernel) rfl, by decide +kernel, by decide +kernel⟩
theorem vsX8_takeBack : rx_V yX8_takeBack cX8_takeBack 2 none 0 := ⟨rx_in (i := 1090) (by decide +kernel) rfl, rx_in (i := 1089) (by decide +kernel) rfl, rx_in (i := 47) (by decide +kernel) rfl, rx_in (i := 72) (by decide +kernel) rfl, by decide +kernel, by decide +kernel⟩
theorem vsX8_isWhat : rx_T yX8_isWhat cX8_isWhat 1 (some .boolean) 1 := ⟨rx_in (i := 1097) (by decide +kernel) rfl, rx_in (i := 1096) (by decide +kernel) rfl, rx_in (i := 72) (by decide +kernel) rfl, by decide +kernel, by decide +kernel⟩
theorem vsX8_ahead : rx_V yX8_ahead cX8_ahead 4 (some .int) 2 := ⟨rx_in (i := 1078) (by decide +kernel) rfl, rx_in (i := 1076) (by decide +kernel) rfl, rx_in (i := 1077) (by decide +kernel) rfl, rx_in (i := 72) (by decide +kernel) rfl, by decide +kernel, by decide +kernel⟩
theorem vsX8_band : rx_V yX8_band cX8_band 4 (some .int) 2 := ⟨rx_in (i := 1094) (by decide +kernel) rfl, rx_in (i := 1092) (by decide +kernel) rfl, rx_in (i := 1093) (by decide +kernel) rfl, rx_in (i := 72) (by decide +kernel) rfl, by decide +kernel, by decide +kernel⟩
theorem vsX8_arrives : rx_V yX8_arrives cX8_arrives 4 (some .int) 1 := ⟨rx_in (i := 1101) (by decide +kernel) rfl, rx_in (i := 1099) (by decide +kernel) rfl, rx_in (i := 1100) (by decide +kernel) rfl, rx_in (i := 72) (by decide +kernel) rfl, by decide +kernel, by decide +kernel⟩
theorem vsX8_leads : rx_V yX8_leads cX8_leads 4 (some .int) 1 := ⟨rx_in (i := 1105) (by decide +kernel) rfl, rx_in (i := 1103) (by decide +kernel) rfl, rx_in (i := 1104) (by decide +kernel) rfl, rx_in (i := 72) (by decide +kernel) rfl, by decide +kernel, by decide +kernel⟩
theorem vsX8_meet : rx_V yX8_meet cX8_meet 8 (some .int) 2 := ⟨rx_in (i := 1109) (by decide +kernel) rfl, rx_in (i := 1107) (by decide +kernel) rfl, rx_in (i := 1108) (by decide +kernel) rfl, rx_in (i := 72) (by decide +kernel) rfl, by decide +kernel, by decide +kernel⟩
theorem vsX8_isThereBy : rx_V yX8_isThereBy cX8_isThereBy 4 (some .boolean) 2 := ⟨rx_in (i := 1121) (by decide +kernel) rfl, rx_in (i := 1120) (by decide +kernel) rfl, rx_in (i := 49) (by decide +kernel) rfl, rx_in (i := 72) (by decide +kernel) rfl, by decide +kernel, by decide +kernel⟩
theorem vsX8_lacks : rx_V yX8_lacks cX8_lacks 3 (some .int) 2 := ⟨rx_in (i := 1117) (by decide +kernel) rfl, rx_in (i := 1116) (by decide +kernel) rfl, rx_in (i := 48) (by decide +kernel) rfl, rx_in (i := 72) (by decide +kernel) rfl, by decide +kernel, by decide +kernel⟩
theorem vsX8_fast : rx_V yX8_fast cX8_fast 6 (some .int) 2 := ⟨rx_in (i := 1113) (by decide +kernel) rfl, rx_in (i := 1111) (by decide +kernel) rfl, rx_in (i := 1112) (by decide +kernel) rfl, rx_in (i := 72) (by decide +kernel) rfl, by decide +kernel, by decide +kernel⟩
theorem vsX8_pullFor : rx_V yX8_pullFor cX8_pullFor 7 (some .int) 2 := ⟨rx_in (i := 1125) (by decide +kernel) rfl, rx_in (i := 1123) (by decide +kernel) rfl, rx_in (i := 1124) (by decide +kernel) rfl, rx_in (i := 72) (by decide +kernel) rfl, by decide +kernel, by decide +kernel⟩
theorem vsX8_isNext : rx_V yX8_isNext cX8_isNext 6 (some .boolean) 1 := ⟨rx_in (i := 1137) (by decide +kernel) rfl, rx_in (i := 1136) (by decide +kernel) rfl, rx_in (i := 51) (by decide +kernel) rfl, rx_in (i := 72) (by decide +kernel) rfl, by decide +kernel, by decide +kernel⟩
theorem vsX8_change : rx_V yX8_change cX8_change 4 none 2 := ⟨rx_in (i := 1141) (by decide +kernel) rfl, rx_in (i := 1140) (by decide +kernel) rfl, rx_in (i := 52) (by decide +kernel) rfl, rx_in (i := 72) (by decide +kernel) rfl, by decide +kernel, by decide +kernel⟩
theorem vsX8_arrivesBy : rx_V yX8_arrivesBy cX8_arrivesBy 3 (some .int) 1 := ⟨rx_in (i := 1133) (by decide +kernel) rfl, rx_in (i := 1132) (by decide +kernel) rfl, rx_in (i := 50) (by decide +kernel) rfl, rx_in (i := 72) (by decide +kernel) rfl, by decide +kernel, by decide +kernel⟩
theorem vsX8_order : rx_V yX8_order cX8_order 9 (some .int) 3 := ⟨rx_in (i := 1129) (by decide +kernel) rfl, rx_in (i := 1127) (by decide +kernel) rfl, rx_in (i := 1128) (by decide +kernel) rfl, rx_in (i := 72) (by decide +kernel) rfl, by decide +kernel, by decide +kernel⟩
theorem vsX8_half : rx_V yX8_half cX8_half 6 (some .int) 1 := ⟨rx_in (i := 1145) (by decide +kernel) rfl, rx_in (i := 1143) (by decide +kernel) rfl, rx_in (i := 1144) (by decide +kernel) rfl, rx_in (i := 72) (by decide +kernel) rfl, by decide +kernel, by decide +kernel⟩
theorem vsX8_rest : rx_V yX8_rest cX8_rest 7 (some .int) 2 := ⟨rx_in (i := 1150) (by decide +kernel) rfl, rx_in (i := 1148) (by decide +kernel) rfl, rx_in (i := 1149) (by decide +kernel) rfl, rx_in (i := 72) (by decide +kernel) rfl, by decide +kernel, by decide +kernel⟩
theorem vsX8_passed : rx_V yX8_passed cX8_passed 7 (some .int) 2 := ⟨rx_in (i := 1154) (by decide +kernel) rfl, rx_in (i := 1152) (by decide +kernel) rfl, rx_in (i := 1153) (by decide +kernel) rfl, rx_in (i := 72) (by decide +kernel) rfl, by decide +kernel, by decide +kernel⟩
theorem vsX8_lacksItems : rx_V yX8_lacksItems cX8_lacksItems 4 (some .int) 3 := ⟨rx_in (i := 1162) (by decide +kernel) rfl, rx_in (i := 1161) (by decide +kernel) rfl, rx_in (i := 53) (by decide +kernel) rfl, rx_in (i := 72) (by decide +kernel) rfl, by decide +kernel, by decide +kernel⟩
theorem vsX8_isSo : rx_V yX8_isSo cX8_isSo 6 (some .boolean) 3 := ⟨rx_in (i := 1167) (by decide +kernel) rfl, rx_in (i := 1166) (by decide +kernel) rfl, rx_in (i := 54) (by decide +kernel) rfl, rx_in (i := 72) (by decide +kernel) rfl, by decide +kernel, by decide +kernel⟩
theorem vsX8_who : rx_V yX8_who cX8_who 10 (some .int) 5 := ⟨rx_in (i := 1158) (by decide +kernel) rfl, rx_in (i := 1156) (by decide +kernel) rfl, rx_in (i := 1157) (by decide +kernel) rfl, rx_in (i := 72) (by decide +kernel) rfl, by decide +kernel, by decide +kernel⟩
theorem vsX8_which : rx_V yX8_which cX8_which 7 (some .int) 3 := ⟨rx_in (i := 1171) (by decide +kernel) rfl, rx_in (i := 1169) (by decide +kernel) rfl, rx_in (i := 1170) (by decide +kernel) rfl, rx_in (i := 72) (by decide +kernel) rfl, by decide +kernel, by decide +kernel⟩
theorem vsX8_inches : rx_V yX8_inches cX8_inches 2 (some .int) 1 := ⟨rx_in (i := 1175) (by decide +kernel) rfl, rx_in (i := 1173) (by decide +kernel) rfl, rx_in (i := 1174) (by decide +kernel) rfl, rx_in (i := 72) (by decide +kernel) rfl, by decide +kernel, by decide +kernel⟩
theorem vsX8_wind : rx_V yX8_wind cX8_wind 15 (some .long) 4 := ⟨rx_in (i := 1180) (by decide +kernel) rfl, rx_in (i := 1178) (by decide +kernel) rfl, rx_in (i := 1179) (by decide +kernel) rfl, rx_in (i := 72) (by decide +kernel) rfl, by decide +kernel, by decide +kernel⟩
theorem vsX8_ones : rx_T yX8_ones cX8_ones 3 (some .int) 1 := ⟨rx_in (i := 1194) (by decide +kernel) rfl, rx_in (i := 1193) (by decide +kernel) rfl, rx_in (i := 72) (by decide +kernel) rfl, by decide +kernel, by decide +kernel⟩
theorem vsX8_drawn : rx_V yX8_drawn cX8_drawn 7 (some .int) 3 := ⟨rx_in (i := 1187) (by decide +kernel) rfl, rx_in (i := 1185) (by decide +kernel) rfl, rx_in (i := 1186) (by decide +kernel) rfl, rx_in (i := 72) (by decide +kernel) rfl, by decide +kernel, by decide +kernel⟩
theorem vsX8_image : rx_V yX8_image cX8_image 3 (some .int) 1 := ⟨rx_in (i := 1198) (by decide +kernel) rfl, rx_in (i := 1196) (by decide +kernel) rfl, rx_in (i := 1197) (by decide +kernel) rfl, rx_in (i := 72) (by decide +kernel) rfl, by decide +kernel, by decide +kernel⟩
theorem vsX8_restore : rx_V yX8_restore cX8_restore 3 (some .int) 1 := ⟨rx_in (i := 1202) (by decide +kernel) rfl, rx_in (i := 1200) (by decide +kernel) rfl, rx_in (i := 1201) (by decide +kernel) rfl, rx_in (i := 72) (by decide +kernel) rfl, by decide +kernel, by decide +kernel⟩
theorem vsX8_kind : rx_V yX8_kind cX8_kind 2 (some .int) 1 := ⟨rx_in (i := 1206) (by decide +kernel) rfl, rx_in (i := 1204) (by decide +kernel) rfl, rx_in (i := 1205) (by decide +kernel) rfl, rx_in (i := 72) (by decide +kernel) rfl, by decide +kernel, by decide +kernel⟩
theorem vsX8_isKind : rx_T yX8_isKind cX8_isKind 2 (some .boolean) 2 := ⟨rx_in (i := 1214) (by decide +kernel) rfl, rx_in (i := 1213) (by decide +kernel) rfl, rx_in (i := 72) (by decide +kernel) rfl, by decide +kernel, by decide +kernel⟩
theorem vsX8_as : rx_V yX8_as cX8_as 3 (some .int) 2 := ⟨rx_in (i := 1210) (by decide +kernel) rfl, rx_in (i := 1208) (by decide +kernel) rfl, rx_in (i := 1209) (by decide +kernel) rfl, rx_in (i := 72) (by decide +kernel) rfl, by decide +kernel, by decide +kernel⟩
theorem vsX8_begin : rx_V yX8_begin cX8_begin 2 none 1 := ⟨rx_in (i := 1226) (by decide +kernel) rfl, rx_in (i := 1225) (by decide +kernel) rfl, rx_in (i := 56) (by decide +kernel) rfl, rx_in (i := 72) (by decide +kernel) rfl, by decide +kernel, by decide +kernel⟩
theorem vsX8_lent : rx_V yX8_lent cX8_lent 3 (some .int) 2 := ⟨rx_in (i := 1234) (by decide +kernel) rfl, rx_in (i := 1233) (by decide +kernel) rfl, rx_in (i := 58) (by decide +kernel) rfl, rx_in (i := 72) (by decide +kernel) rfl, by decide +kernel, by decide +kernel⟩
theorem vsX8_plainMark : rx_V yX8_plainMark cX8_plainMark 2 (some .int) 1 := ⟨rx_in (i := 1242) (by decide +kernel) rfl, rx_in (i := 1241) (by decide +kernel) rfl, rx_in (i := 60) (by decide +kernel) rfl, rx_in (i := 72) (by decide +kernel) rfl, by decide +kernel, by decide +kernel⟩
theorem vsX8_backSize : rx_V yX8_backSize cX8_backSize 2 (some .int) 1 := ⟨rx_in (i := 1250) (by decide +kernel) rfl, rx_in (i := 1249) (by decide +kernel) rfl, rx_in (i := 62) (by decide +kernel) rfl, rx_in (i := 72) (by decide +kernel) rfl, by decide +kernel, by decide +kernel⟩
theorem vsX8_sizeOfBack : rx_V yX8_sizeOfBack cX8_sizeOfBack 2 (some .int) 1 := ⟨rx_in (i := 1246) (by decide +kernel) rfl, rx_in (i := 1245) (by decide +kernel) rfl, rx_in (i := 61) (by decide +kernel) rfl, rx_in (i := 72) (by decide +kernel) rfl, by decide +kernel, by decide +kernel⟩
theorem vsX8_markOf : rx_V yX8_markOf cX8_markOf 4 (some .int) 1 := ⟨rx_in (i := 1238) (by decide +kernel) rfl, rx_in (i := 1237) (by decide +kernel) rfl, rx_in (i := 59) (by decide +kernel) rfl, rx_in (i := 72) (by decide +kernel) rfl, by decide +kernel, by decide +kernel⟩
theorem vsX8_plainSize : rx_V yX8_plainSize cX8_plainSize 3 (some .int) 1 := ⟨rx_in (i := 1230) (by decide +kernel) rfl, rx_in (i := 1229) (by decide +kernel) rfl, rx_in (i := 57) (by decide +kernel) rfl, rx_in (i := 72) (by decide +kernel) rfl, by decide +kernel, by decide +kernel⟩
theorem vsX8_sizeOf : rx_V yX8_sizeOf cX8_sizeOf 3 (some .int) 1 := ⟨rx_in (i := 1222) (by decide +kernel) rfl, rx_in (i := 1221) (by decide +kernel) rfl, rx_in (i := 55) (by decide +kernel) rfl, rx_in (i := 72) (by decide +kernel) rfl, by decide +kernel, by decide +kernel⟩
theorem vsX8_ask : rx_V yX8_ask cX8_ask 3 (some .int) 2 := ⟨rx_in (i := 1218) (by decide +kernel) rfl, rx_in (i := 1216) (by decide +kernel) rfl, rx_in (i := 1217) (by decide +kernel) rfl, rx_in (i := 72) (by decide +kernel) rfl, by decide +kernel, by decide +kernel⟩
theorem vsX8_trace : rx_V yX8_trace cX8_trace 2 (some .int) 1 := ⟨rx_in (i := 1254) (by decide +kernel) rfl, rx_in (i := 1252) (by decide +kernel) rfl, rx_in (i := 1253) (by decide +kernel) rfl, rx_in (i := 72) (by decide +kernel) rfl, by decide +kernel, by decide +kernel⟩
theorem vsX8_count : rx_V yX8_count cX8_count 4 (some .int) 1 := ⟨rx_in (i := 1258) (by decide +kernel) rfl, rx_in (i := 1256) (by decide +kernel) rfl, rx_in (i := 1257) (by decide +kernel) rfl, rx_in (i := 72) (by decide +kernel) rfl, by decide +kernel, by decide +kernel⟩
theorem vsX8_status : rx_V yX8_status cX8_status 1 (some .int) 0 := ⟨rx_in (i := 1262) (by decide +kernel) rfl, rx_in (i := 1260) (by decide +kernel) rfl, rx_in (i := 1261) (by decide +kernel) rfl, rx_in (i := 72) (by decide +kernel) rfl, by decide +kernel, by decide +kernel⟩
theorem vsJ6_compare_7cf53 : rx_T yJ6_compare_7cf53 cJ6_compare_7cf53 2 (some .int) 2 := ⟨rx_in (i := 620) (by decide +kernel) rfl, rx_in (i := 619) (by decide +kernel) rfl, rx_in (i := 75) (by decide +kernel) rfl, by decide +kernel, by decide +kernel⟩
theorem vsJ6_bitCount_0f7a4 : rx_T yJ6_bitCount_0f7a4 cJ6_bitCount_0f7a4 1 (some .int) 1 := ⟨rx_in (i := 765) (by decide +kernel) rfl, rx_in (i := 764) (by decide +kernel) rfl, rx_in (i := 75) (by decide +kernel) rfl, by decide +kernel, by decide +kernel⟩
