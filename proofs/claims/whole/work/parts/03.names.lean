def RR : String := "LearningSolver$Rows"
def RS : String := "LearningSolver"
def RM : String := "LearningSolverModel"
def RL : String := "LearningSolverLaw"
def RJ : String := "java/lang/Long"
def RH : String := "java/lang/Math"
def TR : u_T := fun k => match k with
  | 0 => ("LearningSolver$Rows", "words", "[J", true)
  | _ => ("LearningSolver$Rows", "used", "I", false)
def tyR : Nat → FieldType := fun k => match k with
  | 0 => .array .long
  | _ => .int
theorem nmR : ∀ a, a < 2 → ∀ b, b < 2 → a ≠ b → (TR a).2.1 ≠ (TR b).2.1 := by decide +kernel
theorem tyR_ok : ∀ k, k < 2 → parseFieldDescriptor (TR k).2.2.1 = some (tyR k) := by decide +kernel
def TS : u_T := fun k => match k with
  | 0 => ("LearningSolver", "solutions", "LLearningSolver$Rows;", true)
  | 1 => ("LearningSolver", "scratch", "LLearningSolver$Rows;", true)
  | 2 => ("LearningSolver", "written", "[I", true)
  | 3 => ("LearningSolver", "assumed", "[I", true)
  | 4 => ("LearningSolver", "variables", "I", false)
  | 5 => ("LearningSolver", "literals", "I", false)
  | 6 => ("LearningSolver", "clauses", "I", false)
  | 7 => ("LearningSolver", "writtenCount", "I", false)
  | 8 => ("LearningSolver", "assumedCount", "I", false)
  | 9 => ("LearningSolver", "found", "Z", false)
  | 10 => ("LearningSolver", "blamed", "I", false)
  | 11 => ("LearningSolver", "leastValues", "I", false)
  | _ => ("LearningSolver", "variablesThen", "I", false)
def tyS : Nat → FieldType := fun k => match k with
  | 0 => .object "LearningSolver$Rows"
  | 1 => .object "LearningSolver$Rows"
  | 2 => .array .int
  | 3 => .array .int
  | 4 => .int
  | 5 => .int
  | 6 => .int
  | 7 => .int
  | 8 => .int
  | 9 => .boolean
  | 10 => .int
  | 11 => .int
  | _ => .int
theorem nmS : ∀ a, a < 13 → ∀ b, b < 13 → a ≠ b → (TS a).2.1 ≠ (TS b).2.1 := by decide +kernel
theorem tyS_ok : ∀ k, k < 13 → parseFieldDescriptor (TS k).2.2.1 = some (tyS k) := by decide +kernel
def TM : u_T := fun k => match k with
  | 0 => ("LearningSolverModel", "code", "I", false)
  | 1 => ("LearningSolverModel", "variables", "I", false)
  | 2 => ("LearningSolverModel", "clauses", "I", false)
  | 3 => ("LearningSolverModel", "literals", "[I", true)
  | 4 => ("LearningSolverModel", "used", "I", false)
  | 5 => ("LearningSolverModel", "starts", "[I", true)
  | 6 => ("LearningSolverModel", "drafted", "I", false)
  | 7 => ("LearningSolverModel", "firsts", "[I", true)
  | 8 => ("LearningSolverModel", "nexts", "[I", true)
  | 9 => ("LearningSolverModel", "assumed", "[I", true)
  | 10 => ("LearningSolverModel", "assumptions", "I", false)
  | 11 => ("LearningSolverModel", "forced", "[I", true)
  | 12 => ("LearningSolverModel", "values", "[I", true)
  | 13 => ("LearningSolverModel", "latest", "I", false)
  | 14 => ("LearningSolverModel", "blamed", "I", false)
  | 15 => ("LearningSolverModel", "least", "[I", true)
  | _ => ("LearningSolverModel", "then", "I", false)
def tyM : Nat → FieldType := fun k => match k with
  | 0 => .int
  | 1 => .int
  | 2 => .int
  | 3 => .array .int
  | 4 => .int
  | 5 => .array .int
  | 6 => .int
  | 7 => .array .int
  | 8 => .array .int
  | 9 => .array .int
  | 10 => .int
  | 11 => .array .int
  | 12 => .array .int
  | 13 => .int
  | 14 => .int
  | 15 => .array .int
  | _ => .int
theorem nmM : ∀ a, a < 17 → ∀ b, b < 17 → a ≠ b → (TM a).2.1 ≠ (TM b).2.1 := by decide +kernel
theorem tyM_ok : ∀ k, k < 17 → parseFieldDescriptor (TM k).2.2.1 = some (tyM k) := by decide +kernel
abbrev vwCl : List vw_C := [(RR, TR, 2), (RS, TS, 13), (RM, TM, 17)]
abbrev cS_init : ByteArray := prog_1_method_1_code
def yS_init : MethodName := ⟨RS, "<init>", "()V"⟩
abbrev cR_init : ByteArray := prog_2_method_1_code
def yR_init : MethodName := ⟨RR, "<init>", "()V"⟩
abbrev cS_startAnew : ByteArray := prog_1_method_14_code
def yS_startAnew : MethodName := ⟨RS, "startAnew", "()V"⟩
abbrev cR_holdAll : ByteArray := prog_2_method_2_code
def yR_holdAll : MethodName := ⟨RR, "holdAll", "()V"⟩
abbrev cS_solve : ByteArray := prog_1_method_6_code
def yS_solve : MethodName := ⟨RS, "solve", "()Z"⟩
abbrev cR_copyFrom : ByteArray := prog_2_method_3_code
def yR_copyFrom : MethodName := ⟨RR, "copyFrom", "(LLearningSolver$Rows;)V"⟩
abbrev cR_end : ByteArray := prog_2_method_15_code
def yR_end : MethodName := ⟨RR, "end", "()I"⟩
abbrev cH_min : ByteArray := prog_10_method_69_code
def yH_min : MethodName := ⟨RH, "min", "(II)I"⟩
abbrev cS_narrowToAssumptions : ByteArray := prog_1_method_16_code
def yS_narrowToAssumptions : MethodName := ⟨RS, "narrowToAssumptions", "()I"⟩
abbrev cR_anyIn : ByteArray := prog_2_method_9_code
def yR_anyIn : MethodName := ⟨RR, "anyIn", "(IIJ)Z"⟩
abbrev cR_keepWith : ByteArray := prog_2_method_11_code
def yR_keepWith : MethodName := ⟨RR, "keepWith", "(I)Z"⟩
abbrev cR_innerRows : ByteArray := prog_2_method_16_code
def yR_innerRows : MethodName := ⟨RR, "innerRows", "(I)J"⟩
abbrev cR_outerOnes : ByteArray := prog_2_method_17_code
def yR_outerOnes : MethodName := ⟨RR, "outerOnes", "(I)I"⟩
abbrev cR_outerBit : ByteArray := prog_2_method_19_code
def yR_outerBit : MethodName := ⟨RR, "outerBit", "(I)I"⟩
abbrev cR_outerZeros : ByteArray := prog_2_method_18_code
def yR_outerZeros : MethodName := ⟨RR, "outerZeros", "(I)I"⟩
abbrev cR_keepRows : ByteArray := prog_2_method_13_code
def yR_keepRows : MethodName := ⟨RR, "keepRows", "(JII)Z"⟩
abbrev cR_leastRow : ByteArray := prog_2_method_10_code
def yR_leastRow : MethodName := ⟨RR, "leastRow", "()I"⟩
abbrev cS_blame : ByteArray := prog_1_method_7_code
def yS_blame : MethodName := ⟨RS, "blame", "()I"⟩
abbrev cS_shown : ByteArray := prog_1_method_11_code
def yS_shown : MethodName := ⟨RS, "shown", "()Z"⟩
abbrev cS_proved : ByteArray := prog_1_method_12_code
def yS_proved : MethodName := ⟨RS, "proved", "()Z"⟩
abbrev cS_clear : ByteArray := prog_1_method_13_code
def yS_clear : MethodName := ⟨RS, "clear", "()V"⟩
abbrev cL_variable : ByteArray := method_3_code
def yL_variable : MethodName := ⟨RL, "variable", "(LLearningSolver;[J)I"⟩
abbrev cS_variable : ByteArray := prog_1_method_2_code
def yS_variable : MethodName := ⟨RS, "variable", "()I"⟩
abbrev cR_addVariable : ByteArray := prog_2_method_4_code
def yR_addVariable : MethodName := ⟨RR, "addVariable", "(I)V"⟩
abbrev cL_literal : ByteArray := method_4_code
def yL_literal : MethodName := ⟨RL, "literal", "(LLearningSolver;I[J)I"⟩
abbrev cS_literal : ByteArray := prog_1_method_3_code
def yS_literal : MethodName := ⟨RS, "literal", "(I)I"⟩
abbrev cS_refuseUnknownLiteral : ByteArray := prog_1_method_15_code
def yS_refuseUnknownLiteral : MethodName := ⟨RS, "refuseUnknownLiteral", "(I)V"⟩
abbrev cL_close : ByteArray := method_5_code
def yL_close : MethodName := ⟨RL, "close", "(LLearningSolver;[J)I"⟩
abbrev cS_close : ByteArray := prog_1_method_4_code
def yS_close : MethodName := ⟨RS, "close", "()I"⟩
abbrev cR_keepClause : ByteArray := prog_2_method_12_code
def yR_keepClause : MethodName := ⟨RR, "keepClause", "([II)V"⟩
abbrev cL_assume : ByteArray := method_6_code
def yL_assume : MethodName := ⟨RL, "assume", "(LLearningSolver;I[J)I"⟩
abbrev cS_assume : ByteArray := prog_1_method_5_code
def yS_assume : MethodName := ⟨RS, "assume", "(I)I"⟩
abbrev cL_least : ByteArray := method_7_code
def yL_least : MethodName := ⟨RL, "least", "(LLearningSolver;I[J)I"⟩
abbrev cS_least : ByteArray := prog_1_method_8_code
def yS_least : MethodName := ⟨RS, "least", "(I)I"⟩
abbrev cL_must : ByteArray := method_8_code
def yL_must : MethodName := ⟨RL, "must", "(LLearningSolver;I[J)I"⟩
abbrev cS_must : ByteArray := prog_1_method_9_code
def yS_must : MethodName := ⟨RS, "must", "(I)I"⟩
abbrev cR_anyWith : ByteArray := prog_2_method_8_code
def yR_anyWith : MethodName := ⟨RR, "anyWith", "(I)Z"⟩
abbrev cL_ways : ByteArray := method_9_code
def yL_ways : MethodName := ⟨RL, "ways", "(LLearningSolver;II[J)I"⟩
abbrev cS_ways : ByteArray := prog_1_method_10_code
def yS_ways : MethodName := ⟨RS, "ways", "(II)I"⟩
abbrev cR_dropVariable : ByteArray := prog_2_method_5_code
def yR_dropVariable : MethodName := ⟨RR, "dropVariable", "(I)V"⟩
abbrev cR_dropInner : ByteArray := prog_2_method_6_code
def yR_dropInner : MethodName := ⟨RR, "dropInner", "(IJ)V"⟩
abbrev cR_dropOuter : ByteArray := prog_2_method_7_code
def yR_dropOuter : MethodName := ⟨RR, "dropOuter", "(I)V"⟩
abbrev cR_count : ByteArray := prog_2_method_14_code
def yR_count : MethodName := ⟨RR, "count", "()I"⟩
abbrev cJ_bitCount : ByteArray := prog_9_method_50_code
def yJ_bitCount : MethodName := ⟨RJ, "bitCount", "(J)I"⟩
abbrev cM_init : ByteArray := prog_4_method_1_code
def yM_init : MethodName := ⟨RM, "<init>", "()V"⟩
abbrev cM_clearAll : ByteArray := prog_4_method_3_code
def yM_clearAll : MethodName := ⟨RM, "clearAll", "()V"⟩
abbrev cM_thrown : ByteArray := prog_4_method_2_code
def yM_thrown : MethodName := ⟨RM, "thrown", "()I"⟩
abbrev cM_clear : ByteArray := prog_4_method_4_code
def yM_clear : MethodName := ⟨RM, "clear", "()V"⟩
abbrev cM_variable : ByteArray := prog_4_method_5_code
def yM_variable : MethodName := ⟨RM, "variable", "()I"⟩
abbrev cM_literal : ByteArray := prog_4_method_7_code
def yM_literal : MethodName := ⟨RM, "literal", "(I)I"⟩
abbrev cM_isLiteral : ByteArray := prog_4_method_6_code
def yM_isLiteral : MethodName := ⟨RM, "isLiteral", "(I)Z"⟩
abbrev cM_close : ByteArray := prog_4_method_8_code
def yM_close : MethodName := ⟨RM, "close", "()I"⟩
abbrev cM_assume : ByteArray := prog_4_method_9_code
def yM_assume : MethodName := ⟨RM, "assume", "(I)I"⟩
abbrev cM_solve : ByteArray := prog_4_method_15_code
def yM_solve : MethodName := ⟨RM, "solve", "()Z"⟩
abbrev cM_isSolved : ByteArray := prog_4_method_14_code
def yM_isSolved : MethodName := ⟨RM, "isSolved", "(I)Z"⟩
abbrev cM_free : ByteArray := prog_4_method_11_code
def yM_free : MethodName := ⟨RM, "free", "()V"⟩
abbrev cM_force : ByteArray := prog_4_method_12_code
def yM_force : MethodName := ⟨RM, "force", "(I)Z"⟩
abbrev cM_search : ByteArray := prog_4_method_13_code
def yM_search : MethodName := ⟨RM, "search", "()Z"⟩
abbrev cM_isRight : ByteArray := prog_4_method_10_code
def yM_isRight : MethodName := ⟨RM, "isRight", "(I)Z"⟩
abbrev cM_blame : ByteArray := prog_4_method_16_code
def yM_blame : MethodName := ⟨RM, "blame", "()I"⟩
abbrev cM_least : ByteArray := prog_4_method_17_code
def yM_least : MethodName := ⟨RM, "least", "(I)I"⟩
abbrev cM_must : ByteArray := prog_4_method_18_code
def yM_must : MethodName := ⟨RM, "must", "(I)I"⟩
abbrev cM_ways : ByteArray := prog_4_method_19_code
def yM_ways : MethodName := ⟨RM, "ways", "(II)I"⟩
abbrev cM_shown : ByteArray := prog_4_method_20_code
def yM_shown : MethodName := ⟨RM, "shown", "()Z"⟩
abbrev cM_proved : ByteArray := prog_4_method_21_code
def yM_proved : MethodName := ⟨RM, "proved", "()Z"⟩
abbrev cL_law : ByteArray := code
def yL_law : MethodName := ⟨RL, "law", "([I)Z"⟩
/-- the words that go along with a frame: every method has them all -/
def GG : List Cond := lw_tbl.filter goodWord
theorem GG_tbl {w : Cond} (h : w ∈ GG) : w ∈ lw_tbl := (List.mem_filter.mp h).1
theorem GG_in {w : Cond} {k : Nat} (h : tables_1[k]? = some w) (g : goodWord w = true) : w ∈ GG := List.mem_filter.mpr ⟨List.mem_append_right _ (List.mem_of_getElem? h), g⟩
theorem GG_se {w : Cond} {k : Nat} (h : (k2_sels lw_privs)[k]? = some w) (g : goodWord w = true) : w ∈ GG := List.mem_filter.mpr ⟨List.mem_append_left _ (List.mem_of_getElem? h), g⟩
theorem GG_good {ws : List Cond} (h : ∀ w ∈ ws, w ∈ GG) : GoodIn GG ws := fun w hw => ⟨h w hw, good_of_word (List.mem_filter.mp (h w hw)).2⟩
theorem in_L : Cond.initialized RL ∈ GG := GG_in (k := 0) (by decide +kernel) (by decide +kernel)
theorem in_S : Cond.initialized RS ∈ GG := GG_in (k := 1) (by decide +kernel) (by decide +kernel)
theorem in_R : Cond.initialized RR ∈ GG := GG_in (k := 2) (by decide +kernel) (by decide +kernel)
theorem in_M : Cond.initialized RM ∈ GG := GG_in (k := 3) (by decide +kernel) (by decide +kernel)
theorem in_Throwable : Cond.initialized "java/lang/Throwable" ∈ GG := GG_in (k := 4) (by decide +kernel) (by decide +kernel)
theorem in_Exception : Cond.initialized "java/lang/Exception" ∈ GG := GG_in (k := 5) (by decide +kernel) (by decide +kernel)
theorem in_RuntimeException : Cond.initialized "java/lang/RuntimeException" ∈ GG := GG_in (k := 6) (by decide +kernel) (by decide +kernel)
theorem in_IllegalStateException : Cond.initialized "java/lang/IllegalStateException" ∈ GG := GG_in (k := 7) (by decide +kernel) (by decide +kernel)
theorem in_IllegalArgumentException : Cond.initialized "java/lang/IllegalArgumentException" ∈ GG := GG_in (k := 8) (by decide +kernel) (by decide +kernel)
theorem in_H : Cond.initialized RH ∈ GG := GG_in (k := 9) (by decide +kernel) (by decide +kernel)
theorem in_IndexOutOfBoundsException : Cond.initialized "java/lang/IndexOutOfBoundsException" ∈ GG := GG_in (k := 10) (by decide +kernel) (by decide +kernel)
theorem in_J : Cond.initialized RJ ∈ GG := GG_in (k := 11) (by decide +kernel) (by decide +kernel)
theorem cl_L_8 : Cond.classLink RL 8 RS ∈ GG := GG_in (k := 12) (by decide +kernel) (by decide +kernel)
theorem it_S : Cond.instantiable RS 13 ∈ GG := GG_in (k := 13) (by decide +kernel) (by decide +kernel)
theorem ml_L_39 : Cond.methodLink RL 39 yS_init ∈ GG := GG_in (k := 14) (by decide +kernel) (by decide +kernel)
theorem im_S_init : Cond.instanceMethod yS_init ∈ GG := GG_in (k := 15) (by decide +kernel) (by decide +kernel)
theorem co_S_init : Cond.code yS_init cS_init 1 none ∈ GG := GG_in (k := 16) (by decide +kernel) (by decide +kernel)
theorem ml_S_1 : Cond.methodLink RS 1 objectInit ∈ GG := GG_in (k := 17) (by decide +kernel) (by decide +kernel)
theorem im_object : Cond.instanceMethod objectInit ∈ GG := GG_in (k := 18) (by decide +kernel) (by decide +kernel)
theorem co_object : Cond.code objectInit ⟨#[0xb1]⟩ 1 none ∈ GG := GG_in (k := 19) (by decide +kernel) (by decide +kernel)
theorem cl_S_7 : Cond.classLink RS 7 RR ∈ GG := GG_in (k := 20) (by decide +kernel) (by decide +kernel)
theorem it_R : Cond.instantiable RR 2 ∈ GG := GG_in (k := 21) (by decide +kernel) (by decide +kernel)
theorem ml_S_9 : Cond.methodLink RS 9 yR_init ∈ GG := GG_in (k := 22) (by decide +kernel) (by decide +kernel)
theorem im_R_init : Cond.instanceMethod yR_init ∈ GG := GG_in (k := 23) (by decide +kernel) (by decide +kernel)
theorem co_R_init : Cond.code yR_init cR_init 1 none ∈ GG := GG_in (k := 24) (by decide +kernel) (by decide +kernel)
theorem ml_R_5 : Cond.methodLink RR 5 objectInit ∈ GG := GG_in (k := 25) (by decide +kernel) (by decide +kernel)
theorem fl_R_11 : Cond.fieldLink RR 11 "LearningSolver$Rows" "words" "[J" ∈ GG := GG_in (k := 26) (by decide +kernel) (by decide +kernel)
theorem fl_R_15 : Cond.fieldLink RR 15 "LearningSolver$Rows" "used" "I" ∈ GG := GG_in (k := 27) (by decide +kernel) (by decide +kernel)
theorem ac_long : Cond.arrayClass .long ∈ GG := GG_in (k := 33) (by decide +kernel) (by decide +kernel)
theorem ml_S_26 : Cond.methodLink RS 26 yS_startAnew ∈ GG := GG_in (k := 34) (by decide +kernel) (by decide +kernel)
theorem im_S_startAnew : Cond.instanceMethod yS_startAnew ∈ GG := GG_in (k := 36) (by decide +kernel) (by decide +kernel)
theorem co_S_startAnew : Cond.code yS_startAnew cS_startAnew 1 none ∈ GG := GG_in (k := 37) (by decide +kernel) (by decide +kernel)
theorem ml_S_117 : Cond.methodLink RS 117 yR_holdAll ∈ GG := GG_in (k := 38) (by decide +kernel) (by decide +kernel)
theorem im_R_holdAll : Cond.instanceMethod yR_holdAll ∈ GG := GG_in (k := 39) (by decide +kernel) (by decide +kernel)
theorem se_R_holdAll : Cond.selects RR yR_holdAll yR_holdAll ∈ GG := GG_in (k := 40) (by decide +kernel) (by decide +kernel)
theorem co_R_holdAll : Cond.code yR_holdAll cR_holdAll 1 none ∈ GG := GG_in (k := 41) (by decide +kernel) (by decide +kernel)
theorem cj_R_19 : Cond.constantLong RR 19 (-1) ∈ GG := GG_in (k := 42) (by decide +kernel) (by decide +kernel)
theorem fl_S_10 : Cond.fieldLink RS 10 "LearningSolver" "solutions" "LLearningSolver$Rows;" ∈ GG := GG_in (k := 43) (by decide +kernel) (by decide +kernel)
theorem fl_S_16 : Cond.fieldLink RS 16 "LearningSolver" "scratch" "LLearningSolver$Rows;" ∈ GG := GG_in (k := 44) (by decide +kernel) (by decide +kernel)
theorem fl_S_19 : Cond.fieldLink RS 19 "LearningSolver" "written" "[I" ∈ GG := GG_in (k := 45) (by decide +kernel) (by decide +kernel)
theorem fl_S_23 : Cond.fieldLink RS 23 "LearningSolver" "assumed" "[I" ∈ GG := GG_in (k := 46) (by decide +kernel) (by decide +kernel)
theorem fl_S_29 : Cond.fieldLink RS 29 "LearningSolver" "variables" "I" ∈ GG := GG_in (k := 47) (by decide +kernel) (by decide +kernel)
theorem fl_S_52 : Cond.fieldLink RS 52 "LearningSolver" "literals" "I" ∈ GG := GG_in (k := 48) (by decide +kernel) (by decide +kernel)
theorem fl_S_57 : Cond.fieldLink RS 57 "LearningSolver" "clauses" "I" ∈ GG := GG_in (k := 49) (by decide +kernel) (by decide +kernel)
theorem fl_S_47 : Cond.fieldLink RS 47 "LearningSolver" "writtenCount" "I" ∈ GG := GG_in (k := 50) (by decide +kernel) (by decide +kernel)
theorem fl_S_66 : Cond.fieldLink RS 66 "LearningSolver" "assumedCount" "I" ∈ GG := GG_in (k := 51) (by decide +kernel) (by decide +kernel)
theorem fl_S_82 : Cond.fieldLink RS 82 "LearningSolver" "found" "Z" ∈ GG := GG_in (k := 52) (by decide +kernel) (by decide +kernel)
theorem fl_S_79 : Cond.fieldLink RS 79 "LearningSolver" "blamed" "I" ∈ GG := GG_in (k := 53) (by decide +kernel) (by decide +kernel)
theorem fl_S_89 : Cond.fieldLink RS 89 "LearningSolver" "leastValues" "I" ∈ GG := GG_in (k := 54) (by decide +kernel) (by decide +kernel)
theorem fl_S_92 : Cond.fieldLink RS 92 "LearningSolver" "variablesThen" "I" ∈ GG := GG_in (k := 55) (by decide +kernel) (by decide +kernel)
theorem ac_int : Cond.arrayClass .int ∈ GG := GG_in (k := 83) (by decide +kernel) (by decide +kernel)
theorem ml_L_62 : Cond.methodLink RL 62 yS_solve ∈ GG := GG_in (k := 84) (by decide +kernel) (by decide +kernel)
theorem im_S_solve : Cond.instanceMethod yS_solve ∈ GG := GG_in (k := 85) (by decide +kernel) (by decide +kernel)
theorem se_S_solve : Cond.selects RS yS_solve yS_solve ∈ GG := GG_in (k := 86) (by decide +kernel) (by decide +kernel)
theorem co_S_solve : Cond.code yS_solve cS_solve 1 (some .boolean) ∈ GG := GG_in (k := 87) (by decide +kernel) (by decide +kernel)
theorem ml_S_71 : Cond.methodLink RS 71 yR_copyFrom ∈ GG := GG_in (k := 88) (by decide +kernel) (by decide +kernel)
theorem im_R_copyFrom : Cond.instanceMethod yR_copyFrom ∈ GG := GG_in (k := 89) (by decide +kernel) (by decide +kernel)
theorem se_R_copyFrom : Cond.selects RR yR_copyFrom yR_copyFrom ∈ GG := GG_in (k := 90) (by decide +kernel) (by decide +kernel)
theorem co_R_copyFrom : Cond.code yR_copyFrom cR_copyFrom 4 none ∈ GG := GG_in (k := 91) (by decide +kernel) (by decide +kernel)
theorem ml_R_21 : Cond.methodLink RR 21 yR_end ∈ GG := GG_in (k := 92) (by decide +kernel) (by decide +kernel)
theorem im_R_end : Cond.instanceMethod yR_end ∈ GG := GG_in (k := 94) (by decide +kernel) (by decide +kernel)
theorem co_R_end : Cond.code yR_end cR_end 1 (some .int) ∈ GG := GG_in (k := 95) (by decide +kernel) (by decide +kernel)
theorem ml_R_25 : Cond.methodLink RR 25 yH_min ∈ GG := GG_in (k := 96) (by decide +kernel) (by decide +kernel)
theorem st_H_min : Cond.static yH_min ∈ GG := GG_in (k := 97) (by decide +kernel) (by decide +kernel)
theorem co_H_min : Cond.code yH_min cH_min 2 (some .int) ∈ GG := GG_in (k := 98) (by decide +kernel) (by decide +kernel)
theorem ml_S_75 : Cond.methodLink RS 75 yS_narrowToAssumptions ∈ GG := GG_in (k := 99) (by decide +kernel) (by decide +kernel)
theorem im_S_narrowToAssumptions : Cond.instanceMethod yS_narrowToAssumptions ∈ GG := GG_in (k := 101) (by decide +kernel) (by decide +kernel)
theorem co_S_narrowToAssumptions : Cond.code yS_narrowToAssumptions cS_narrowToAssumptions 2 (some .int) ∈ GG := GG_in (k := 102) (by decide +kernel) (by decide +kernel)
theorem cj_S_122 : Cond.constantLong RS 122 (-1) ∈ GG := GG_in (k := 103) (by decide +kernel) (by decide +kernel)
theorem ml_S_124 : Cond.methodLink RS 124 yR_anyIn ∈ GG := GG_in (k := 104) (by decide +kernel) (by decide +kernel)
theorem im_R_anyIn : Cond.instanceMethod yR_anyIn ∈ GG := GG_in (k := 105) (by decide +kernel) (by decide +kernel)
theorem se_R_anyIn : Cond.selects RR yR_anyIn yR_anyIn ∈ GG := GG_in (k := 106) (by decide +kernel) (by decide +kernel)
theorem co_R_anyIn : Cond.code yR_anyIn cR_anyIn 7 (some .boolean) ∈ GG := GG_in (k := 107) (by decide +kernel) (by decide +kernel)
theorem ml_S_128 : Cond.methodLink RS 128 yR_keepWith ∈ GG := GG_in (k := 108) (by decide +kernel) (by decide +kernel)
theorem im_R_keepWith : Cond.instanceMethod yR_keepWith ∈ GG := GG_in (k := 109) (by decide +kernel) (by decide +kernel)
theorem se_R_keepWith : Cond.selects RR yR_keepWith yR_keepWith ∈ GG := GG_in (k := 110) (by decide +kernel) (by decide +kernel)
theorem co_R_keepWith : Cond.code yR_keepWith cR_keepWith 2 (some .boolean) ∈ GG := GG_in (k := 111) (by decide +kernel) (by decide +kernel)
theorem ml_R_42 : Cond.methodLink RR 42 yR_innerRows ∈ GG := GG_in (k := 112) (by decide +kernel) (by decide +kernel)
theorem st_R_innerRows : Cond.static yR_innerRows ∈ GG := GG_in (k := 113) (by decide +kernel) (by decide +kernel)
theorem co_R_innerRows : Cond.code yR_innerRows cR_innerRows 2 (some .long) ∈ GG := GG_in (k := 114) (by decide +kernel) (by decide +kernel)
theorem fl_R_31 : Cond.fieldLink RR 31 "LearningSolver$Rows" "INNER_ONES" "[J" ∈ GG := GG_in (k := 115) (by decide +kernel) (by decide +kernel)
theorem ml_R_46 : Cond.methodLink RR 46 yR_outerOnes ∈ GG := GG_in (k := 117) (by decide +kernel) (by decide +kernel)
theorem st_R_outerOnes : Cond.static yR_outerOnes ∈ GG := GG_in (k := 118) (by decide +kernel) (by decide +kernel)
theorem co_R_outerOnes : Cond.code yR_outerOnes cR_outerOnes 1 (some .int) ∈ GG := GG_in (k := 119) (by decide +kernel) (by decide +kernel)
theorem ml_R_67 : Cond.methodLink RR 67 yR_outerBit ∈ GG := GG_in (k := 120) (by decide +kernel) (by decide +kernel)
theorem st_R_outerBit : Cond.static yR_outerBit ∈ GG := GG_in (k := 121) (by decide +kernel) (by decide +kernel)
theorem co_R_outerBit : Cond.code yR_outerBit cR_outerBit 1 (some .int) ∈ GG := GG_in (k := 122) (by decide +kernel) (by decide +kernel)
theorem ml_R_50 : Cond.methodLink RR 50 yR_outerZeros ∈ GG := GG_in (k := 123) (by decide +kernel) (by decide +kernel)
theorem st_R_outerZeros : Cond.static yR_outerZeros ∈ GG := GG_in (k := 124) (by decide +kernel) (by decide +kernel)
theorem co_R_outerZeros : Cond.code yR_outerZeros cR_outerZeros 1 (some .int) ∈ GG := GG_in (k := 125) (by decide +kernel) (by decide +kernel)
theorem ml_R_57 : Cond.methodLink RR 57 yR_keepRows ∈ GG := GG_in (k := 126) (by decide +kernel) (by decide +kernel)
theorem im_R_keepRows : Cond.instanceMethod yR_keepRows ∈ GG := GG_in (k := 128) (by decide +kernel) (by decide +kernel)
theorem co_R_keepRows : Cond.code yR_keepRows cR_keepRows 9 (some .boolean) ∈ GG := GG_in (k := 129) (by decide +kernel) (by decide +kernel)
theorem ml_S_86 : Cond.methodLink RS 86 yR_leastRow ∈ GG := GG_in (k := 130) (by decide +kernel) (by decide +kernel)
theorem im_R_leastRow : Cond.instanceMethod yR_leastRow ∈ GG := GG_in (k := 131) (by decide +kernel) (by decide +kernel)
theorem se_R_leastRow : Cond.selects RR yR_leastRow yR_leastRow ∈ GG := GG_in (k := 132) (by decide +kernel) (by decide +kernel)
theorem co_R_leastRow : Cond.code yR_leastRow cR_leastRow 8 (some .int) ∈ GG := GG_in (k := 133) (by decide +kernel) (by decide +kernel)
theorem ml_R_53 : Cond.methodLink RR 53 yR_anyIn ∈ GG := GG_in (k := 134) (by decide +kernel) (by decide +kernel)
theorem ml_L_67 : Cond.methodLink RL 67 yS_blame ∈ GG := GG_in (k := 135) (by decide +kernel) (by decide +kernel)
theorem im_S_blame : Cond.instanceMethod yS_blame ∈ GG := GG_in (k := 136) (by decide +kernel) (by decide +kernel)
theorem se_S_blame : Cond.selects RS yS_blame yS_blame ∈ GG := GG_in (k := 137) (by decide +kernel) (by decide +kernel)
theorem co_S_blame : Cond.code yS_blame cS_blame 1 (some .int) ∈ GG := GG_in (k := 138) (by decide +kernel) (by decide +kernel)
theorem ml_L_81 : Cond.methodLink RL 81 yS_shown ∈ GG := GG_in (k := 139) (by decide +kernel) (by decide +kernel)
theorem im_S_shown : Cond.instanceMethod yS_shown ∈ GG := GG_in (k := 140) (by decide +kernel) (by decide +kernel)
theorem se_S_shown : Cond.selects RS yS_shown yS_shown ∈ GG := GG_in (k := 141) (by decide +kernel) (by decide +kernel)
theorem co_S_shown : Cond.code yS_shown cS_shown 1 (some .boolean) ∈ GG := GG_in (k := 142) (by decide +kernel) (by decide +kernel)
theorem ml_L_85 : Cond.methodLink RL 85 yS_proved ∈ GG := GG_in (k := 143) (by decide +kernel) (by decide +kernel)
theorem im_S_proved : Cond.instanceMethod yS_proved ∈ GG := GG_in (k := 144) (by decide +kernel) (by decide +kernel)
theorem se_S_proved : Cond.selects RS yS_proved yS_proved ∈ GG := GG_in (k := 145) (by decide +kernel) (by decide +kernel)
theorem co_S_proved : Cond.code yS_proved cS_proved 1 (some .boolean) ∈ GG := GG_in (k := 146) (by decide +kernel) (by decide +kernel)
theorem ml_L_89 : Cond.methodLink RL 89 yS_clear ∈ GG := GG_in (k := 147) (by decide +kernel) (by decide +kernel)
theorem im_S_clear : Cond.instanceMethod yS_clear ∈ GG := GG_in (k := 148) (by decide +kernel) (by decide +kernel)
theorem se_S_clear : Cond.selects RS yS_clear yS_clear ∈ GG := GG_in (k := 149) (by decide +kernel) (by decide +kernel)
theorem co_S_clear : Cond.code yS_clear cS_clear 1 none ∈ GG := GG_in (k := 150) (by decide +kernel) (by decide +kernel)
theorem ml_L_43 : Cond.methodLink RL 43 yL_variable ∈ GG := GG_in (k := 151) (by decide +kernel) (by decide +kernel)
theorem st_L_variable : Cond.static yL_variable ∈ GG := GG_in (k := 152) (by decide +kernel) (by decide +kernel)
theorem co_L_variable : Cond.codeWith yL_variable cL_variable 3 (some .int) [(0, 8, 11, 13)] ∈ GG := GG_in (k := 153) (by decide +kernel) (by decide +kernel)
theorem cl_L_13 : Cond.classLink RL 13 "java/lang/IllegalStateException" ∈ GG := GG_in (k := 154) (by decide +kernel) (by decide +kernel)
theorem ml_L_7 : Cond.methodLink RL 7 yS_variable ∈ GG := GG_in (k := 155) (by decide +kernel) (by decide +kernel)
theorem im_S_variable : Cond.instanceMethod yS_variable ∈ GG := GG_in (k := 156) (by decide +kernel) (by decide +kernel)
theorem se_S_variable : Cond.selects RS yS_variable yS_variable ∈ GG := GG_in (k := 157) (by decide +kernel) (by decide +kernel)
theorem co_S_variable : Cond.code yS_variable cS_variable 2 (some .int) ∈ GG := GG_in (k := 158) (by decide +kernel) (by decide +kernel)
theorem cl_S_33 : Cond.classLink RS 33 "java/lang/IllegalStateException" ∈ GG := GG_in (k := 159) (by decide +kernel) (by decide +kernel)
theorem ml_S_37 : Cond.methodLink RS 37 ⟨"java/lang/IllegalStateException", "<init>", "(Ljava/lang/String;)V"⟩ ∈ GG := GG_in (k := 201) (by decide +kernel) (by decide +kernel)
theorem ac_byte : Cond.arrayClass .byte ∈ GG := GG_in (k := 226) (by decide +kernel) (by decide +kernel)
theorem ml_S_40 : Cond.methodLink RS 40 yR_addVariable ∈ GG := GG_in (k := 227) (by decide +kernel) (by decide +kernel)
theorem im_R_addVariable : Cond.instanceMethod yR_addVariable ∈ GG := GG_in (k := 228) (by decide +kernel) (by decide +kernel)
theorem se_R_addVariable : Cond.selects RR yR_addVariable yR_addVariable ∈ GG := GG_in (k := 229) (by decide +kernel) (by decide +kernel)
theorem co_R_addVariable : Cond.code yR_addVariable cR_addVariable 3 none ∈ GG := GG_in (k := 230) (by decide +kernel) (by decide +kernel)
theorem ml_L_52 : Cond.methodLink RL 52 yL_literal ∈ GG := GG_in (k := 231) (by decide +kernel) (by decide +kernel)
theorem st_L_literal : Cond.static yL_literal ∈ GG := GG_in (k := 232) (by decide +kernel) (by decide +kernel)
theorem co_L_literal : Cond.codeWith yL_literal cL_literal 4 (some .int) [(0, 9, 12, 19), (0, 9, 15, 13)] ∈ GG := GG_in (k := 233) (by decide +kernel) (by decide +kernel)
theorem cl_L_19 : Cond.classLink RL 19 "java/lang/IllegalArgumentException" ∈ GG := GG_in (k := 234) (by decide +kernel) (by decide +kernel)
theorem ml_L_15 : Cond.methodLink RL 15 yS_literal ∈ GG := GG_in (k := 235) (by decide +kernel) (by decide +kernel)
theorem im_S_literal : Cond.instanceMethod yS_literal ∈ GG := GG_in (k := 236) (by decide +kernel) (by decide +kernel)
theorem se_S_literal : Cond.selects RS yS_literal yS_literal ∈ GG := GG_in (k := 237) (by decide +kernel) (by decide +kernel)
theorem co_S_literal : Cond.code yS_literal cS_literal 2 (some .int) ∈ GG := GG_in (k := 238) (by decide +kernel) (by decide +kernel)
theorem ml_S_44 : Cond.methodLink RS 44 yS_refuseUnknownLiteral ∈ GG := GG_in (k := 239) (by decide +kernel) (by decide +kernel)
theorem im_S_refuseUnknownLiteral : Cond.instanceMethod yS_refuseUnknownLiteral ∈ GG := GG_in (k := 241) (by decide +kernel) (by decide +kernel)
theorem co_S_refuseUnknownLiteral : Cond.code yS_refuseUnknownLiteral cS_refuseUnknownLiteral 2 none ∈ GG := GG_in (k := 242) (by decide +kernel) (by decide +kernel)
theorem cl_S_104 : Cond.classLink RS 104 "java/lang/IllegalArgumentException" ∈ GG := GG_in (k := 243) (by decide +kernel) (by decide +kernel)
theorem ml_S_108 : Cond.methodLink RS 108 ⟨"java/lang/IllegalArgumentException", "<init>", "(Ljava/lang/String;)V"⟩ ∈ GG := GG_in (k := 253) (by decide +kernel) (by decide +kernel)
theorem ml_L_56 : Cond.methodLink RL 56 yL_close ∈ GG := GG_in (k := 261) (by decide +kernel) (by decide +kernel)
theorem st_L_close : Cond.static yL_close ∈ GG := GG_in (k := 262) (by decide +kernel) (by decide +kernel)
theorem co_L_close : Cond.codeWith yL_close cL_close 3 (some .int) [(0, 8, 11, 13)] ∈ GG := GG_in (k := 263) (by decide +kernel) (by decide +kernel)
theorem ml_L_21 : Cond.methodLink RL 21 yS_close ∈ GG := GG_in (k := 264) (by decide +kernel) (by decide +kernel)
theorem im_S_close : Cond.instanceMethod yS_close ∈ GG := GG_in (k := 265) (by decide +kernel) (by decide +kernel)
theorem se_S_close : Cond.selects RS yS_close yS_close ∈ GG := GG_in (k := 266) (by decide +kernel) (by decide +kernel)
theorem co_S_close : Cond.code yS_close cS_close 1 (some .int) ∈ GG := GG_in (k := 267) (by decide +kernel) (by decide +kernel)
theorem ml_S_62 : Cond.methodLink RS 62 yR_keepClause ∈ GG := GG_in (k := 269) (by decide +kernel) (by decide +kernel)
theorem im_R_keepClause : Cond.instanceMethod yR_keepClause ∈ GG := GG_in (k := 270) (by decide +kernel) (by decide +kernel)
theorem se_R_keepClause : Cond.selects RR yR_keepClause yR_keepClause ∈ GG := GG_in (k := 271) (by decide +kernel) (by decide +kernel)
theorem co_R_keepClause : Cond.code yR_keepClause cR_keepClause 8 none ∈ GG := GG_in (k := 272) (by decide +kernel) (by decide +kernel)
theorem ml_L_59 : Cond.methodLink RL 59 yL_assume ∈ GG := GG_in (k := 273) (by decide +kernel) (by decide +kernel)
theorem st_L_assume : Cond.static yL_assume ∈ GG := GG_in (k := 274) (by decide +kernel) (by decide +kernel)
theorem co_L_assume : Cond.codeWith yL_assume cL_assume 4 (some .int) [(0, 9, 12, 19), (0, 9, 15, 13)] ∈ GG := GG_in (k := 275) (by decide +kernel) (by decide +kernel)
theorem ml_L_24 : Cond.methodLink RL 24 yS_assume ∈ GG := GG_in (k := 276) (by decide +kernel) (by decide +kernel)
theorem im_S_assume : Cond.instanceMethod yS_assume ∈ GG := GG_in (k := 277) (by decide +kernel) (by decide +kernel)
theorem se_S_assume : Cond.selects RS yS_assume yS_assume ∈ GG := GG_in (k := 278) (by decide +kernel) (by decide +kernel)
theorem co_S_assume : Cond.code yS_assume cS_assume 2 (some .int) ∈ GG := GG_in (k := 279) (by decide +kernel) (by decide +kernel)
theorem ml_L_71 : Cond.methodLink RL 71 yL_least ∈ GG := GG_in (k := 281) (by decide +kernel) (by decide +kernel)
theorem st_L_least : Cond.static yL_least ∈ GG := GG_in (k := 282) (by decide +kernel) (by decide +kernel)
theorem co_L_least : Cond.codeWith yL_least cL_least 4 (some .int) [(0, 9, 12, 30)] ∈ GG := GG_in (k := 283) (by decide +kernel) (by decide +kernel)
theorem cl_L_30 : Cond.classLink RL 30 "java/lang/IndexOutOfBoundsException" ∈ GG := GG_in (k := 284) (by decide +kernel) (by decide +kernel)
theorem ml_L_27 : Cond.methodLink RL 27 yS_least ∈ GG := GG_in (k := 285) (by decide +kernel) (by decide +kernel)
theorem im_S_least : Cond.instanceMethod yS_least ∈ GG := GG_in (k := 286) (by decide +kernel) (by decide +kernel)
theorem se_S_least : Cond.selects RS yS_least yS_least ∈ GG := GG_in (k := 287) (by decide +kernel) (by decide +kernel)
theorem co_S_least : Cond.code yS_least cS_least 2 (some .int) ∈ GG := GG_in (k := 288) (by decide +kernel) (by decide +kernel)
theorem cl_S_95 : Cond.classLink RS 95 "java/lang/IndexOutOfBoundsException" ∈ GG := GG_in (k := 289) (by decide +kernel) (by decide +kernel)
theorem ml_S_99 : Cond.methodLink RS 99 ⟨"java/lang/IndexOutOfBoundsException", "<init>", "(Ljava/lang/String;)V"⟩ ∈ GG := GG_in (k := 299) (by decide +kernel) (by decide +kernel)
theorem ml_L_74 : Cond.methodLink RL 74 yL_must ∈ GG := GG_in (k := 305) (by decide +kernel) (by decide +kernel)
theorem st_L_must : Cond.static yL_must ∈ GG := GG_in (k := 306) (by decide +kernel) (by decide +kernel)
theorem co_L_must : Cond.codeWith yL_must cL_must 4 (some .int) [(0, 9, 12, 19)] ∈ GG := GG_in (k := 307) (by decide +kernel) (by decide +kernel)
theorem ml_L_32 : Cond.methodLink RL 32 yS_must ∈ GG := GG_in (k := 308) (by decide +kernel) (by decide +kernel)
theorem im_S_must : Cond.instanceMethod yS_must ∈ GG := GG_in (k := 309) (by decide +kernel) (by decide +kernel)
theorem se_S_must : Cond.selects RS yS_must yS_must ∈ GG := GG_in (k := 310) (by decide +kernel) (by decide +kernel)
theorem co_S_must : Cond.code yS_must cS_must 4 (some .int) ∈ GG := GG_in (k := 311) (by decide +kernel) (by decide +kernel)
theorem ml_S_100 : Cond.methodLink RS 100 yR_anyWith ∈ GG := GG_in (k := 312) (by decide +kernel) (by decide +kernel)
theorem im_R_anyWith : Cond.instanceMethod yR_anyWith ∈ GG := GG_in (k := 313) (by decide +kernel) (by decide +kernel)
theorem se_R_anyWith : Cond.selects RR yR_anyWith yR_anyWith ∈ GG := GG_in (k := 314) (by decide +kernel) (by decide +kernel)
theorem co_R_anyWith : Cond.code yR_anyWith cR_anyWith 9 (some .boolean) ∈ GG := GG_in (k := 315) (by decide +kernel) (by decide +kernel)
theorem ml_L_77 : Cond.methodLink RL 77 yL_ways ∈ GG := GG_in (k := 316) (by decide +kernel) (by decide +kernel)
theorem st_L_ways : Cond.static yL_ways ∈ GG := GG_in (k := 317) (by decide +kernel) (by decide +kernel)
theorem co_L_ways : Cond.codeWith yL_ways cL_ways 5 (some .int) [(0, 10, 13, 19), (0, 10, 17, 30)] ∈ GG := GG_in (k := 318) (by decide +kernel) (by decide +kernel)
theorem ml_L_35 : Cond.methodLink RL 35 yS_ways ∈ GG := GG_in (k := 319) (by decide +kernel) (by decide +kernel)
theorem im_S_ways : Cond.instanceMethod yS_ways ∈ GG := GG_in (k := 320) (by decide +kernel) (by decide +kernel)
theorem se_S_ways : Cond.selects RS yS_ways yS_ways ∈ GG := GG_in (k := 321) (by decide +kernel) (by decide +kernel)
theorem co_S_ways : Cond.code yS_ways cS_ways 4 (some .int) ∈ GG := GG_in (k := 322) (by decide +kernel) (by decide +kernel)
theorem ml_S_111 : Cond.methodLink RS 111 yR_dropVariable ∈ GG := GG_in (k := 325) (by decide +kernel) (by decide +kernel)
theorem im_R_dropVariable : Cond.instanceMethod yR_dropVariable ∈ GG := GG_in (k := 326) (by decide +kernel) (by decide +kernel)
theorem se_R_dropVariable : Cond.selects RR yR_dropVariable yR_dropVariable ∈ GG := GG_in (k := 327) (by decide +kernel) (by decide +kernel)
theorem co_R_dropVariable : Cond.code yR_dropVariable cR_dropVariable 2 none ∈ GG := GG_in (k := 328) (by decide +kernel) (by decide +kernel)
theorem ml_R_34 : Cond.methodLink RR 34 yR_dropInner ∈ GG := GG_in (k := 329) (by decide +kernel) (by decide +kernel)
theorem im_R_dropInner : Cond.instanceMethod yR_dropInner ∈ GG := GG_in (k := 331) (by decide +kernel) (by decide +kernel)
theorem co_R_dropInner : Cond.code yR_dropInner cR_dropInner 6 none ∈ GG := GG_in (k := 332) (by decide +kernel) (by decide +kernel)
theorem ml_R_38 : Cond.methodLink RR 38 yR_dropOuter ∈ GG := GG_in (k := 333) (by decide +kernel) (by decide +kernel)
theorem im_R_dropOuter : Cond.instanceMethod yR_dropOuter ∈ GG := GG_in (k := 335) (by decide +kernel) (by decide +kernel)
theorem co_R_dropOuter : Cond.code yR_dropOuter cR_dropOuter 5 none ∈ GG := GG_in (k := 336) (by decide +kernel) (by decide +kernel)
theorem ml_S_114 : Cond.methodLink RS 114 yR_count ∈ GG := GG_in (k := 337) (by decide +kernel) (by decide +kernel)
theorem im_R_count : Cond.instanceMethod yR_count ∈ GG := GG_in (k := 338) (by decide +kernel) (by decide +kernel)
theorem se_R_count : Cond.selects RR yR_count yR_count ∈ GG := GG_in (k := 339) (by decide +kernel) (by decide +kernel)
theorem co_R_count : Cond.code yR_count cR_count 4 (some .int) ∈ GG := GG_in (k := 340) (by decide +kernel) (by decide +kernel)
theorem ml_R_61 : Cond.methodLink RR 61 yJ_bitCount ∈ GG := GG_in (k := 341) (by decide +kernel) (by decide +kernel)
theorem st_J_bitCount : Cond.static yJ_bitCount ∈ GG := GG_in (k := 342) (by decide +kernel) (by decide +kernel)
theorem co_J_bitCount : Cond.code yJ_bitCount cJ_bitCount 2 (some .int) ∈ GG := GG_in (k := 343) (by decide +kernel) (by decide +kernel)
theorem cj_J_314 : Cond.constantLong RJ 314 (6148914691236517205) ∈ GG := GG_in (k := 344) (by decide +kernel) (by decide +kernel)
theorem cj_J_316 : Cond.constantLong RJ 316 (3689348814741910323) ∈ GG := GG_in (k := 345) (by decide +kernel) (by decide +kernel)
theorem cj_J_318 : Cond.constantLong RJ 318 (1085102592571150095) ∈ GG := GG_in (k := 346) (by decide +kernel) (by decide +kernel)
theorem cl_L_40 : Cond.classLink RL 40 RM ∈ GG := GG_in (k := 347) (by decide +kernel) (by decide +kernel)
theorem it_M : Cond.instantiable RM 17 ∈ GG := GG_in (k := 348) (by decide +kernel) (by decide +kernel)
theorem ml_L_42 : Cond.methodLink RL 42 yM_init ∈ GG := GG_in (k := 349) (by decide +kernel) (by decide +kernel)
theorem im_M_init : Cond.instanceMethod yM_init ∈ GG := GG_in (k := 350) (by decide +kernel) (by decide +kernel)
theorem co_M_init : Cond.code yM_init cM_init 1 none ∈ GG := GG_in (k := 351) (by decide +kernel) (by decide +kernel)
theorem ml_M_1 : Cond.methodLink RM 1 objectInit ∈ GG := GG_in (k := 352) (by decide +kernel) (by decide +kernel)
theorem ml_M_34 : Cond.methodLink RM 34 yM_clearAll ∈ GG := GG_in (k := 353) (by decide +kernel) (by decide +kernel)
theorem im_M_clearAll : Cond.instanceMethod yM_clearAll ∈ GG := GG_in (k := 355) (by decide +kernel) (by decide +kernel)
theorem co_M_clearAll : Cond.code yM_clearAll cM_clearAll 2 none ∈ GG := GG_in (k := 356) (by decide +kernel) (by decide +kernel)
theorem fl_M_37 : Cond.fieldLink RM 37 "LearningSolverModel" "code" "I" ∈ GG := GG_in (k := 357) (by decide +kernel) (by decide +kernel)
theorem fl_M_41 : Cond.fieldLink RM 41 "LearningSolverModel" "variables" "I" ∈ GG := GG_in (k := 358) (by decide +kernel) (by decide +kernel)
theorem fl_M_44 : Cond.fieldLink RM 44 "LearningSolverModel" "clauses" "I" ∈ GG := GG_in (k := 359) (by decide +kernel) (by decide +kernel)
theorem fl_M_7 : Cond.fieldLink RM 7 "LearningSolverModel" "literals" "[I" ∈ GG := GG_in (k := 360) (by decide +kernel) (by decide +kernel)
theorem fl_M_47 : Cond.fieldLink RM 47 "LearningSolverModel" "used" "I" ∈ GG := GG_in (k := 361) (by decide +kernel) (by decide +kernel)
theorem fl_M_13 : Cond.fieldLink RM 13 "LearningSolverModel" "starts" "[I" ∈ GG := GG_in (k := 362) (by decide +kernel) (by decide +kernel)
theorem fl_M_50 : Cond.fieldLink RM 50 "LearningSolverModel" "drafted" "I" ∈ GG := GG_in (k := 363) (by decide +kernel) (by decide +kernel)
theorem fl_M_16 : Cond.fieldLink RM 16 "LearningSolverModel" "firsts" "[I" ∈ GG := GG_in (k := 364) (by decide +kernel) (by decide +kernel)
theorem fl_M_19 : Cond.fieldLink RM 19 "LearningSolverModel" "nexts" "[I" ∈ GG := GG_in (k := 365) (by decide +kernel) (by decide +kernel)
theorem fl_M_22 : Cond.fieldLink RM 22 "LearningSolverModel" "assumed" "[I" ∈ GG := GG_in (k := 366) (by decide +kernel) (by decide +kernel)
theorem fl_M_53 : Cond.fieldLink RM 53 "LearningSolverModel" "assumptions" "I" ∈ GG := GG_in (k := 367) (by decide +kernel) (by decide +kernel)
theorem fl_M_25 : Cond.fieldLink RM 25 "LearningSolverModel" "forced" "[I" ∈ GG := GG_in (k := 368) (by decide +kernel) (by decide +kernel)
theorem fl_M_28 : Cond.fieldLink RM 28 "LearningSolverModel" "values" "[I" ∈ GG := GG_in (k := 369) (by decide +kernel) (by decide +kernel)
theorem fl_M_56 : Cond.fieldLink RM 56 "LearningSolverModel" "latest" "I" ∈ GG := GG_in (k := 370) (by decide +kernel) (by decide +kernel)
theorem fl_M_82 : Cond.fieldLink RM 82 "LearningSolverModel" "blamed" "I" ∈ GG := GG_in (k := 371) (by decide +kernel) (by decide +kernel)
theorem fl_M_31 : Cond.fieldLink RM 31 "LearningSolverModel" "least" "[I" ∈ GG := GG_in (k := 372) (by decide +kernel) (by decide +kernel)
theorem fl_M_59 : Cond.fieldLink RM 59 "LearningSolverModel" "then" "I" ∈ GG := GG_in (k := 373) (by decide +kernel) (by decide +kernel)
theorem ml_L_49 : Cond.methodLink RL 49 yM_thrown ∈ GG := GG_in (k := 409) (by decide +kernel) (by decide +kernel)
theorem im_M_thrown : Cond.instanceMethod yM_thrown ∈ GG := GG_in (k := 410) (by decide +kernel) (by decide +kernel)
theorem se_M_thrown : Cond.selects RM yM_thrown yM_thrown ∈ GG := GG_in (k := 411) (by decide +kernel) (by decide +kernel)
theorem co_M_thrown : Cond.code yM_thrown cM_thrown 1 (some .int) ∈ GG := GG_in (k := 412) (by decide +kernel) (by decide +kernel)
theorem ml_L_92 : Cond.methodLink RL 92 yM_clear ∈ GG := GG_in (k := 413) (by decide +kernel) (by decide +kernel)
theorem im_M_clear : Cond.instanceMethod yM_clear ∈ GG := GG_in (k := 414) (by decide +kernel) (by decide +kernel)
theorem se_M_clear : Cond.selects RM yM_clear yM_clear ∈ GG := GG_in (k := 415) (by decide +kernel) (by decide +kernel)
theorem co_M_clear : Cond.code yM_clear cM_clear 1 none ∈ GG := GG_in (k := 416) (by decide +kernel) (by decide +kernel)
theorem ml_L_48 : Cond.methodLink RL 48 yM_variable ∈ GG := GG_in (k := 417) (by decide +kernel) (by decide +kernel)
theorem im_M_variable : Cond.instanceMethod yM_variable ∈ GG := GG_in (k := 418) (by decide +kernel) (by decide +kernel)
theorem se_M_variable : Cond.selects RM yM_variable yM_variable ∈ GG := GG_in (k := 419) (by decide +kernel) (by decide +kernel)
theorem co_M_variable : Cond.code yM_variable cM_variable 1 (some .int) ∈ GG := GG_in (k := 420) (by decide +kernel) (by decide +kernel)
theorem ml_L_55 : Cond.methodLink RL 55 yM_literal ∈ GG := GG_in (k := 421) (by decide +kernel) (by decide +kernel)
theorem im_M_literal : Cond.instanceMethod yM_literal ∈ GG := GG_in (k := 422) (by decide +kernel) (by decide +kernel)
theorem se_M_literal : Cond.selects RM yM_literal yM_literal ∈ GG := GG_in (k := 423) (by decide +kernel) (by decide +kernel)
theorem co_M_literal : Cond.code yM_literal cM_literal 2 (some .int) ∈ GG := GG_in (k := 424) (by decide +kernel) (by decide +kernel)
theorem ml_M_62 : Cond.methodLink RM 62 yM_isLiteral ∈ GG := GG_in (k := 425) (by decide +kernel) (by decide +kernel)
theorem im_M_isLiteral : Cond.instanceMethod yM_isLiteral ∈ GG := GG_in (k := 427) (by decide +kernel) (by decide +kernel)
theorem co_M_isLiteral : Cond.code yM_isLiteral cM_isLiteral 2 (some .boolean) ∈ GG := GG_in (k := 428) (by decide +kernel) (by decide +kernel)
theorem ml_L_58 : Cond.methodLink RL 58 yM_close ∈ GG := GG_in (k := 429) (by decide +kernel) (by decide +kernel)
theorem im_M_close : Cond.instanceMethod yM_close ∈ GG := GG_in (k := 430) (by decide +kernel) (by decide +kernel)
theorem se_M_close : Cond.selects RM yM_close yM_close ∈ GG := GG_in (k := 431) (by decide +kernel) (by decide +kernel)
theorem co_M_close : Cond.code yM_close cM_close 3 (some .int) ∈ GG := GG_in (k := 432) (by decide +kernel) (by decide +kernel)
theorem ml_L_61 : Cond.methodLink RL 61 yM_assume ∈ GG := GG_in (k := 433) (by decide +kernel) (by decide +kernel)
theorem im_M_assume : Cond.instanceMethod yM_assume ∈ GG := GG_in (k := 434) (by decide +kernel) (by decide +kernel)
theorem se_M_assume : Cond.selects RM yM_assume yM_assume ∈ GG := GG_in (k := 435) (by decide +kernel) (by decide +kernel)
theorem co_M_assume : Cond.code yM_assume cM_assume 2 (some .int) ∈ GG := GG_in (k := 436) (by decide +kernel) (by decide +kernel)
theorem ml_L_66 : Cond.methodLink RL 66 yM_solve ∈ GG := GG_in (k := 437) (by decide +kernel) (by decide +kernel)
theorem im_M_solve : Cond.instanceMethod yM_solve ∈ GG := GG_in (k := 438) (by decide +kernel) (by decide +kernel)
theorem se_M_solve : Cond.selects RM yM_solve yM_solve ∈ GG := GG_in (k := 439) (by decide +kernel) (by decide +kernel)
theorem co_M_solve : Cond.code yM_solve cM_solve 3 (some .boolean) ∈ GG := GG_in (k := 440) (by decide +kernel) (by decide +kernel)
theorem ml_M_79 : Cond.methodLink RM 79 yM_isSolved ∈ GG := GG_in (k := 441) (by decide +kernel) (by decide +kernel)
theorem im_M_isSolved : Cond.instanceMethod yM_isSolved ∈ GG := GG_in (k := 443) (by decide +kernel) (by decide +kernel)
theorem co_M_isSolved : Cond.code yM_isSolved cM_isSolved 4 (some .boolean) ∈ GG := GG_in (k := 444) (by decide +kernel) (by decide +kernel)
theorem ml_M_69 : Cond.methodLink RM 69 yM_free ∈ GG := GG_in (k := 445) (by decide +kernel) (by decide +kernel)
theorem im_M_free : Cond.instanceMethod yM_free ∈ GG := GG_in (k := 447) (by decide +kernel) (by decide +kernel)
theorem co_M_free : Cond.code yM_free cM_free 2 none ∈ GG := GG_in (k := 448) (by decide +kernel) (by decide +kernel)
theorem ml_M_72 : Cond.methodLink RM 72 yM_force ∈ GG := GG_in (k := 449) (by decide +kernel) (by decide +kernel)
theorem im_M_force : Cond.instanceMethod yM_force ∈ GG := GG_in (k := 451) (by decide +kernel) (by decide +kernel)
theorem co_M_force : Cond.code yM_force cM_force 4 (some .boolean) ∈ GG := GG_in (k := 452) (by decide +kernel) (by decide +kernel)
theorem ml_M_75 : Cond.methodLink RM 75 yM_search ∈ GG := GG_in (k := 453) (by decide +kernel) (by decide +kernel)
theorem im_M_search : Cond.instanceMethod yM_search ∈ GG := GG_in (k := 455) (by decide +kernel) (by decide +kernel)
theorem co_M_search : Cond.code yM_search cM_search 3 (some .boolean) ∈ GG := GG_in (k := 456) (by decide +kernel) (by decide +kernel)
theorem ml_M_66 : Cond.methodLink RM 66 yM_isRight ∈ GG := GG_in (k := 457) (by decide +kernel) (by decide +kernel)
theorem im_M_isRight : Cond.instanceMethod yM_isRight ∈ GG := GG_in (k := 459) (by decide +kernel) (by decide +kernel)
theorem co_M_isRight : Cond.code yM_isRight cM_isRight 5 (some .boolean) ∈ GG := GG_in (k := 460) (by decide +kernel) (by decide +kernel)
theorem ml_L_70 : Cond.methodLink RL 70 yM_blame ∈ GG := GG_in (k := 461) (by decide +kernel) (by decide +kernel)
theorem im_M_blame : Cond.instanceMethod yM_blame ∈ GG := GG_in (k := 462) (by decide +kernel) (by decide +kernel)
theorem se_M_blame : Cond.selects RM yM_blame yM_blame ∈ GG := GG_in (k := 463) (by decide +kernel) (by decide +kernel)
theorem co_M_blame : Cond.code yM_blame cM_blame 1 (some .int) ∈ GG := GG_in (k := 464) (by decide +kernel) (by decide +kernel)
theorem ml_L_73 : Cond.methodLink RL 73 yM_least ∈ GG := GG_in (k := 465) (by decide +kernel) (by decide +kernel)
theorem im_M_least : Cond.instanceMethod yM_least ∈ GG := GG_in (k := 466) (by decide +kernel) (by decide +kernel)
theorem se_M_least : Cond.selects RM yM_least yM_least ∈ GG := GG_in (k := 467) (by decide +kernel) (by decide +kernel)
theorem co_M_least : Cond.code yM_least cM_least 2 (some .int) ∈ GG := GG_in (k := 468) (by decide +kernel) (by decide +kernel)
theorem ml_L_76 : Cond.methodLink RL 76 yM_must ∈ GG := GG_in (k := 469) (by decide +kernel) (by decide +kernel)
theorem im_M_must : Cond.instanceMethod yM_must ∈ GG := GG_in (k := 470) (by decide +kernel) (by decide +kernel)
theorem se_M_must : Cond.selects RM yM_must yM_must ∈ GG := GG_in (k := 471) (by decide +kernel) (by decide +kernel)
theorem co_M_must : Cond.code yM_must cM_must 4 (some .int) ∈ GG := GG_in (k := 472) (by decide +kernel) (by decide +kernel)
theorem ml_L_80 : Cond.methodLink RL 80 yM_ways ∈ GG := GG_in (k := 473) (by decide +kernel) (by decide +kernel)
theorem im_M_ways : Cond.instanceMethod yM_ways ∈ GG := GG_in (k := 474) (by decide +kernel) (by decide +kernel)
theorem se_M_ways : Cond.selects RM yM_ways yM_ways ∈ GG := GG_in (k := 475) (by decide +kernel) (by decide +kernel)
theorem co_M_ways : Cond.code yM_ways cM_ways 6 (some .int) ∈ GG := GG_in (k := 476) (by decide +kernel) (by decide +kernel)
theorem ml_L_84 : Cond.methodLink RL 84 yM_shown ∈ GG := GG_in (k := 477) (by decide +kernel) (by decide +kernel)
theorem im_M_shown : Cond.instanceMethod yM_shown ∈ GG := GG_in (k := 478) (by decide +kernel) (by decide +kernel)
theorem se_M_shown : Cond.selects RM yM_shown yM_shown ∈ GG := GG_in (k := 479) (by decide +kernel) (by decide +kernel)
theorem co_M_shown : Cond.code yM_shown cM_shown 1 (some .boolean) ∈ GG := GG_in (k := 480) (by decide +kernel) (by decide +kernel)
theorem ml_L_88 : Cond.methodLink RL 88 yM_proved ∈ GG := GG_in (k := 481) (by decide +kernel) (by decide +kernel)
theorem im_M_proved : Cond.instanceMethod yM_proved ∈ GG := GG_in (k := 482) (by decide +kernel) (by decide +kernel)
theorem se_M_proved : Cond.selects RM yM_proved yM_proved ∈ GG := GG_in (k := 483) (by decide +kernel) (by decide +kernel)
theorem co_M_proved : Cond.code yM_proved cM_proved 1 (some .boolean) ∈ GG := GG_in (k := 484) (by decide +kernel) (by decide +kernel)
theorem se_S_startAnew : Cond.selects RS yS_startAnew yS_startAnew ∈ GG := GG_se (k := 0) (by decide +kernel) (by decide +kernel)
theorem se_R_end : Cond.selects RR yR_end yR_end ∈ GG := GG_se (k := 1) (by decide +kernel) (by decide +kernel)
theorem se_S_narrowToAssumptions : Cond.selects RS yS_narrowToAssumptions yS_narrowToAssumptions ∈ GG := GG_se (k := 2) (by decide +kernel) (by decide +kernel)
theorem se_R_keepRows : Cond.selects RR yR_keepRows yR_keepRows ∈ GG := GG_se (k := 3) (by decide +kernel) (by decide +kernel)
theorem se_S_refuseUnknownLiteral : Cond.selects RS yS_refuseUnknownLiteral yS_refuseUnknownLiteral ∈ GG := GG_se (k := 5) (by decide +kernel) (by decide +kernel)
theorem se_R_dropInner : Cond.selects RR yR_dropInner yR_dropInner ∈ GG := GG_se (k := 6) (by decide +kernel) (by decide +kernel)
theorem se_R_dropOuter : Cond.selects RR yR_dropOuter yR_dropOuter ∈ GG := GG_se (k := 7) (by decide +kernel) (by decide +kernel)
theorem se_M_clearAll : Cond.selects RM yM_clearAll yM_clearAll ∈ GG := GG_se (k := 8) (by decide +kernel) (by decide +kernel)
theorem se_M_isLiteral : Cond.selects RM yM_isLiteral yM_isLiteral ∈ GG := GG_se (k := 9) (by decide +kernel) (by decide +kernel)
theorem se_M_isSolved : Cond.selects RM yM_isSolved yM_isSolved ∈ GG := GG_se (k := 10) (by decide +kernel) (by decide +kernel)
theorem se_M_free : Cond.selects RM yM_free yM_free ∈ GG := GG_se (k := 11) (by decide +kernel) (by decide +kernel)
theorem se_M_force : Cond.selects RM yM_force yM_force ∈ GG := GG_se (k := 12) (by decide +kernel) (by decide +kernel)
theorem se_M_search : Cond.selects RM yM_search yM_search ∈ GG := GG_se (k := 13) (by decide +kernel) (by decide +kernel)
theorem se_M_isRight : Cond.selects RM yM_isRight yM_isRight ∈ GG := GG_se (k := 14) (by decide +kernel) (by decide +kernel)
theorem lyR : ∀ w ∈ u_ws RR TR 2, w ∈ GG := by decide +kernel
theorem lyS : ∀ w ∈ u_ws RS TS 13, w ∈ GG := by decide +kernel
theorem lyM : ∀ w ∈ u_ws RM TM 17, w ∈ GG := by decide +kernel
