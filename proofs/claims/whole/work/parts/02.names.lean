def R_Lp : String := "LinePredict"
def R_Sc : String := "LinePredict$Scale"
def R_Si : String := "LinePredict$Side"
def R_Ou : String := "LinePredict$Outlook"
def R_Co : String := "LinePredict$Contexts"
def R_Mo : String := "LinePredictModel"
def R_La : String := "LinePredictLaw"
def T_Lp : u_T := fun k => match k with
  | 0 => ("LinePredict", "scale", "LLinePredict$Scale;", true)
  | 1 => ("LinePredict", "coder", "LLinePredict$Side;", true)
  | 2 => ("LinePredict", "decoder", "LLinePredict$Side;", true)
  | 3 => ("LinePredict", "last", "LLinePredict$Outlook;", false)
  | 4 => ("LinePredict", "spare", "LLinePredict$Outlook;", false)
  | 5 => ("LinePredict", "runsBegun", "I", false)
  | _ => ("LinePredict", "anyTold", "Z", false)
def t_Lp : Nat → FieldType := fun k => match k with
  | 0 => .object "LinePredict$Scale"
  | 1 => .object "LinePredict$Side"
  | 2 => .object "LinePredict$Side"
  | 3 => .object "LinePredict$Outlook"
  | 4 => .object "LinePredict$Outlook"
  | 5 => .int
  | _ => .boolean
theorem n_Lp : ∀ a, a < 7 → ∀ b, b < 7 → a ≠ b → (T_Lp a).2.1 ≠ (T_Lp b).2.1 := by decide +kernel
theorem t_Lp_ok : ∀ k, k < 7 → parseFieldDescriptor (T_Lp k).2.2.1 = some (t_Lp k) := by decide +kernel
def T_Sc : u_T := fun k => match k with
  | 0 => ("LinePredict$Scale", "max", "I", true)
  | 1 => ("LinePredict$Scale", "near", "I", true)
  | 2 => ("LinePredict$Scale", "step", "I", true)
  | 3 => ("LinePredict$Scale", "range", "I", true)
  | 4 => ("LinePredict$Scale", "t1", "I", false)
  | 5 => ("LinePredict$Scale", "t2", "I", false)
  | 6 => ("LinePredict$Scale", "t3", "I", false)
  | _ => ("LinePredict$Scale", "resetAt", "I", false)
def t_Sc : Nat → FieldType := fun k => match k with
  | 0 => .int
  | 1 => .int
  | 2 => .int
  | 3 => .int
  | 4 => .int
  | 5 => .int
  | 6 => .int
  | _ => .int
theorem n_Sc : ∀ a, a < 8 → ∀ b, b < 8 → a ≠ b → (T_Sc a).2.1 ≠ (T_Sc b).2.1 := by decide +kernel
theorem t_Sc_ok : ∀ k, k < 8 → parseFieldDescriptor (T_Sc k).2.2.1 = some (t_Sc k) := by decide +kernel
def T_Si : u_T := fun k => match k with
  | 0 => ("LinePredict$Side", "contexts", "LLinePredict$Contexts;", true)
  | 1 => ("LinePredict$Side", "scale", "LLinePredict$Scale;", true)
  | 2 => ("LinePredict$Side", "width", "I", true)
  | 3 => ("LinePredict$Side", "place", "I", false)
  | 4 => ("LinePredict$Side", "line", "I", false)
  | 5 => ("LinePredict$Side", "running", "Z", false)
  | 6 => ("LinePredict$Side", "row", "[I", true)
  | 7 => ("LinePredict$Side", "corner", "I", false)
  | _ => ("LinePredict$Side", "aboveFirst", "I", false)
def t_Si : Nat → FieldType := fun k => match k with
  | 0 => .object "LinePredict$Contexts"
  | 1 => .object "LinePredict$Scale"
  | 2 => .int
  | 3 => .int
  | 4 => .int
  | 5 => .boolean
  | 6 => .array .int
  | 7 => .int
  | _ => .int
theorem n_Si : ∀ a, a < 9 → ∀ b, b < 9 → a ≠ b → (T_Si a).2.1 ≠ (T_Si b).2.1 := by decide +kernel
theorem t_Si_ok : ∀ k, k < 9 → parseFieldDescriptor (T_Si k).2.2.1 = some (t_Si k) := by decide +kernel
def T_Ou : u_T := fun k => match k with
  | 0 => ("LinePredict$Outlook", "a", "I", false)
  | 1 => ("LinePredict$Outlook", "b", "I", false)
  | 2 => ("LinePredict$Outlook", "c", "I", false)
  | 3 => ("LinePredict$Outlook", "d", "I", false)
  | 4 => ("LinePredict$Outlook", "ofRun", "Z", false)
  | 5 => ("LinePredict$Outlook", "number", "I", false)
  | 6 => ("LinePredict$Outlook", "sign", "I", false)
  | 7 => ("LinePredict$Outlook", "expected", "I", false)
  | _ => ("LinePredict$Outlook", "rebuilt", "I", false)
def t_Ou : Nat → FieldType := fun k => match k with
  | 0 => .int
  | 1 => .int
  | 2 => .int
  | 3 => .int
  | 4 => .boolean
  | 5 => .int
  | 6 => .int
  | 7 => .int
  | _ => .int
theorem n_Ou : ∀ a, a < 9 → ∀ b, b < 9 → a ≠ b → (T_Ou a).2.1 ≠ (T_Ou b).2.1 := by decide +kernel
theorem t_Ou_ok : ∀ k, k < 9 → parseFieldDescriptor (T_Ou k).2.2.1 = some (t_Ou k) := by decide +kernel
def T_Co : u_T := fun k => match k with
  | 0 => ("LinePredict$Contexts", "scale", "LLinePredict$Scale;", true)
  | 1 => ("LinePredict$Contexts", "sizes", "[I", true)
  | 2 => ("LinePredict$Contexts", "leanings", "[I", true)
  | 3 => ("LinePredict$Contexts", "corrections", "[I", true)
  | _ => ("LinePredict$Contexts", "counts", "[I", true)
def t_Co : Nat → FieldType := fun k => match k with
  | 0 => .object "LinePredict$Scale"
  | 1 => .array .int
  | 2 => .array .int
  | 3 => .array .int
  | _ => .array .int
theorem n_Co : ∀ a, a < 5 → ∀ b, b < 5 → a ≠ b → (T_Co a).2.1 ≠ (T_Co b).2.1 := by decide +kernel
theorem t_Co_ok : ∀ k, k < 5 → parseFieldDescriptor (T_Co k).2.2.1 = some (t_Co k) := by decide +kernel
def T_Mo : u_T := fun k => match k with
  | 0 => ("LinePredictModel", "code", "I", false)
  | 1 => ("LinePredictModel", "width", "I", true)
  | 2 => ("LinePredictModel", "max", "I", true)
  | 3 => ("LinePredictModel", "near", "I", true)
  | 4 => ("LinePredictModel", "step", "I", true)
  | 5 => ("LinePredictModel", "range", "I", true)
  | 6 => ("LinePredictModel", "first", "I", false)
  | 7 => ("LinePredictModel", "second", "I", false)
  | 8 => ("LinePredictModel", "third", "I", false)
  | 9 => ("LinePredictModel", "halving", "I", false)
  | 10 => ("LinePredictModel", "rows", "[I", true)
  | 11 => ("LinePredictModel", "aboves", "[I", true)
  | 12 => ("LinePredictModel", "corners", "[I", true)
  | 13 => ("LinePredictModel", "xs", "[I", true)
  | 14 => ("LinePredictModel", "ys", "[I", true)
  | 15 => ("LinePredictModel", "goingOn", "[Z", true)
  | 16 => ("LinePredictModel", "begun", "I", false)
  | 17 => ("LinePredictModel", "as", "[I", true)
  | 18 => ("LinePredictModel", "ns", "[I", true)
  | 19 => ("LinePredictModel", "bs", "[I", true)
  | 20 => ("LinePredictModel", "cs", "[I", true)
  | 21 => ("LinePredictModel", "a", "I", false)
  | 22 => ("LinePredictModel", "b", "I", false)
  | 23 => ("LinePredictModel", "c", "I", false)
  | 24 => ("LinePredictModel", "d", "I", false)
  | 25 => ("LinePredictModel", "inRun", "Z", false)
  | 26 => ("LinePredictModel", "where", "I", false)
  | 27 => ("LinePredictModel", "expected", "I", false)
  | 28 => ("LinePredictModel", "sign", "I", false)
  | 29 => ("LinePredictModel", "rebuilt", "I", false)
  | 30 => ("LinePredictModel", "last", "[I", true)
  | 31 => ("LinePredictModel", "lastContext", "I", false)
  | _ => ("LinePredictModel", "lastPredicted", "I", false)
def t_Mo : Nat → FieldType := fun k => match k with
  | 0 => .int
  | 1 => .int
  | 2 => .int
  | 3 => .int
  | 4 => .int
  | 5 => .int
  | 6 => .int
  | 7 => .int
  | 8 => .int
  | 9 => .int
  | 10 => .array .int
  | 11 => .array .int
  | 12 => .array .int
  | 13 => .array .int
  | 14 => .array .int
  | 15 => .array .boolean
  | 16 => .int
  | 17 => .array .int
  | 18 => .array .int
  | 19 => .array .int
  | 20 => .array .int
  | 21 => .int
  | 22 => .int
  | 23 => .int
  | 24 => .int
  | 25 => .boolean
  | 26 => .int
  | 27 => .int
  | 28 => .int
  | 29 => .int
  | 30 => .array .int
  | 31 => .int
  | _ => .int
theorem n_Mo : ∀ a, a < 33 → ∀ b, b < 33 → a ≠ b → (T_Mo a).2.1 ≠ (T_Mo b).2.1 := by decide +kernel
theorem t_Mo_ok : ∀ k, k < 33 → parseFieldDescriptor (T_Mo k).2.2.1 = some (t_Mo k) := by decide +kernel
abbrev vwCl : List vw_C := [(R_Lp, T_Lp, 7), (R_Sc, T_Sc, 8), (R_Si, T_Si, 9), (R_Ou, T_Ou, 9), (R_Co, T_Co, 5), (R_Mo, T_Mo, 33)]
abbrev b_Lp_init : ByteArray := prog_1_method_1_code
def y_Lp_init : MethodName := ⟨R_Lp, "<init>", "(III)V"⟩
abbrev b_Lp_within : ByteArray := prog_1_method_15_code
def y_Lp_within : MethodName := ⟨R_Lp, "within", "(III)I"⟩
abbrev b_Sc_init : ByteArray := prog_4_method_1_code
def y_Sc_init : MethodName := ⟨R_Sc, "<init>", "(II)V"⟩
abbrev b_Lp_divided : ByteArray := prog_1_method_16_code
def y_Lp_divided : MethodName := ⟨R_Lp, "divided", "(II)I"⟩
abbrev b_Sc_setFirstThresholds : ByteArray := prog_4_method_2_code
def y_Sc_setFirstThresholds : MethodName := ⟨R_Sc, "setFirstThresholds", "()V"⟩
abbrev b_Sc_thresholdOr : ByteArray := prog_4_method_3_code
def y_Sc_thresholdOr : MethodName := ⟨R_Sc, "thresholdOr", "(II)I"⟩
abbrev b_Si_init : ByteArray := prog_5_method_1_code
def y_Si_init : MethodName := ⟨R_Si, "<init>", "(ILLinePredict$Scale;)V"⟩
abbrev b_Co_init : ByteArray := prog_2_method_1_code
def y_Co_init : MethodName := ⟨R_Co, "<init>", "(LLinePredict$Scale;)V"⟩
abbrev b_Ar_fill : ByteArray := prog_16_method_103_code
def y_Ar_fill : MethodName := ⟨"java/util/Arrays", "fill", "([II)V"⟩
abbrev b_Ou_init : ByteArray := prog_3_method_1_code
def y_Ou_init : MethodName := ⟨R_Ou, "<init>", "()V"⟩
abbrev b_Lp_endRow : ByteArray := prog_1_method_6_code
def y_Lp_endRow : MethodName := ⟨R_Lp, "endRow", "()Z"⟩
abbrev b_Si_goToNextRow : ByteArray := prog_5_method_6_code
def y_Si_goToNextRow : MethodName := ⟨R_Si, "goToNextRow", "()Z"⟩
abbrev b_Lp_context : ByteArray := prog_1_method_7_code
def y_Lp_context : MethodName := ⟨R_Lp, "context", "()I"⟩
abbrev b_Lp_predicted : ByteArray := prog_1_method_8_code
def y_Lp_predicted : MethodName := ⟨R_Lp, "predicted", "()I"⟩
abbrev b_Lp_runs : ByteArray := prog_1_method_11_code
def y_Lp_runs : MethodName := ⟨R_Lp, "runs", "()I"⟩
abbrev b_La_cell : ByteArray := method_2_code
def y_La_cell : MethodName := ⟨R_La, "cell", "([II)I"⟩
abbrev b_La_thresholds : ByteArray := method_3_code
def y_La_thresholds : MethodName := ⟨R_La, "thresholds", "(LLinePredict;III[J)I"⟩
abbrev b_Lp_thresholds : ByteArray := prog_1_method_2_code
def y_Lp_thresholds : MethodName := ⟨R_Lp, "thresholds", "(III)Z"⟩
abbrev b_La_reset : ByteArray := method_4_code
def y_La_reset : MethodName := ⟨R_La, "reset", "(LLinePredict;I[J)I"⟩
abbrev b_Lp_reset : ByteArray := prog_1_method_3_code
def y_Lp_reset : MethodName := ⟨R_Lp, "reset", "(I)Z"⟩
abbrev b_La_sample : ByteArray := method_5_code
def y_La_sample : MethodName := ⟨R_La, "sample", "(LLinePredict;II[J)I"⟩
abbrev b_Lp_sample : ByteArray := prog_1_method_4_code
def y_Lp_sample : MethodName := ⟨R_Lp, "sample", "(II)I"⟩
abbrev b_Si_awaits : ByteArray := prog_5_method_2_code
def y_Si_awaits : MethodName := ⟨R_Si, "awaits", "(I)Z"⟩
abbrev b_Si_lookAhead : ByteArray := prog_5_method_3_code
def y_Si_lookAhead : MethodName := ⟨R_Si, "lookAhead", "(LLinePredict$Outlook;)V"⟩
abbrev b_Si_rowAt : ByteArray := prog_5_method_7_code
def y_Si_rowAt : MethodName := ⟨R_Si, "rowAt", "(I)I"⟩
abbrev b_Si_isFlatAround : ByteArray := prog_5_method_4_code
def y_Si_isFlatAround : MethodName := ⟨R_Si, "isFlatAround", "(LLinePredict$Outlook;)Z"⟩
abbrev b_Sc_isFlat : ByteArray := prog_4_method_4_code
def y_Sc_isFlat : MethodName := ⟨R_Sc, "isFlat", "(I)Z"⟩
abbrev b_Ou_expectRun : ByteArray := prog_3_method_2_code
def y_Ou_expectRun : MethodName := ⟨R_Ou, "expectRun", "()V"⟩
abbrev b_Ou_expectByGradients : ByteArray := prog_3_method_4_code
def y_Ou_expectByGradients : MethodName := ⟨R_Ou, "expectByGradients", "(LLinePredict$Scale;LLinePredict$Contexts;)V"⟩
abbrev b_Sc_steepness : ByteArray := prog_4_method_5_code
def y_Sc_steepness : MethodName := ⟨R_Sc, "steepness", "(I)I"⟩
abbrev b_Ou_median : ByteArray := prog_3_method_5_code
def y_Ou_median : MethodName := ⟨R_Ou, "median", "()I"⟩
abbrev b_Co_correction : ByteArray := prog_2_method_4_code
def y_Co_correction : MethodName := ⟨R_Co, "correction", "(I)I"⟩
abbrev b_Co_has : ByteArray := prog_2_method_2_code
def y_Co_has : MethodName := ⟨R_Co, "has", "(I)Z"⟩
abbrev b_Sc_asSample : ByteArray := prog_4_method_9_code
def y_Sc_asSample : MethodName := ⟨R_Sc, "asSample", "(I)I"⟩
abbrev b_Lp_tell : ByteArray := prog_1_method_14_code
def y_Lp_tell : MethodName := ⟨R_Lp, "tell", "(LLinePredict$Side;LLinePredict$Outlook;IZ)V"⟩
abbrev b_Si_keep : ByteArray := prog_5_method_5_code
def y_Si_keep : MethodName := ⟨R_Si, "keep", "(IZ)V"⟩
abbrev b_Ou_expectEnd : ByteArray := prog_3_method_3_code
def y_Ou_expectEnd : MethodName := ⟨R_Ou, "expectEnd", "(LLinePredict$Scale;)V"⟩
abbrev b_Sc_inSteps : ByteArray := prog_4_method_6_code
def y_Sc_inSteps : MethodName := ⟨R_Sc, "inSteps", "(I)I"⟩
abbrev b_Sc_inRange : ByteArray := prog_4_method_7_code
def y_Sc_inRange : MethodName := ⟨R_Sc, "inRange", "(I)I"⟩
abbrev b_Co_fold : ByteArray := prog_2_method_5_code
def y_Co_fold : MethodName := ⟨R_Co, "fold", "(II)I"⟩
abbrev b_Co_endsRun : ByteArray := prog_2_method_11_code
def y_Co_endsRun : MethodName := ⟨R_Co, "endsRun", "(I)Z"⟩
abbrev b_Co_turn : ByteArray := prog_2_method_13_code
def y_Co_turn : MethodName := ⟨R_Co, "turn", "(II)I"⟩
abbrev b_Co_turnsAbove : ByteArray := prog_2_method_14_code
def y_Co_turnsAbove : MethodName := ⟨R_Co, "turnsAbove", "(I)Z"⟩
abbrev b_Co_exponentIsZero : ByteArray := prog_2_method_16_code
def y_Co_exponentIsZero : MethodName := ⟨R_Co, "exponentIsZero", "(I)Z"⟩
abbrev b_Co_likeness : ByteArray := prog_2_method_12_code
def y_Co_likeness : MethodName := ⟨R_Co, "likeness", "(I)I"⟩
abbrev b_Co_leansBelow : ByteArray := prog_2_method_15_code
def y_Co_leansBelow : MethodName := ⟨R_Co, "leansBelow", "(I)Z"⟩
abbrev b_Co_learn : ByteArray := prog_2_method_8_code
def y_Co_learn : MethodName := ⟨R_Co, "learn", "(III)V"⟩
abbrev b_Co_learnEnd : ByteArray := prog_2_method_10_code
def y_Co_learnEnd : MethodName := ⟨R_Co, "learnEnd", "(III)V"⟩
abbrev b_Co_correct : ByteArray := prog_2_method_9_code
def y_Co_correct : MethodName := ⟨R_Co, "correct", "(I)V"⟩
abbrev b_Ou_moved : ByteArray := prog_3_method_6_code
def y_Ou_moved : MethodName := ⟨R_Ou, "moved", "(ILLinePredict$Scale;)I"⟩
abbrev b_La_back : ByteArray := method_6_code
def y_La_back : MethodName := ⟨R_La, "back", "(LLinePredict;II[J)I"⟩
abbrev b_Lp_back : ByteArray := prog_1_method_5_code
def y_Lp_back : MethodName := ⟨R_Lp, "back", "(II)I"⟩
abbrev b_Co_unfold : ByteArray := prog_2_method_6_code
def y_Co_unfold : MethodName := ⟨R_Co, "unfold", "(II)I"⟩
abbrev b_Co_unfoldEnd : ByteArray := prog_2_method_7_code
def y_Co_unfoldEnd : MethodName := ⟨R_Co, "unfoldEnd", "(II)I"⟩
abbrev b_Sc_turnedOver : ByteArray := prog_4_method_8_code
def y_Sc_turnedOver : MethodName := ⟨R_Sc, "turnedOver", "(I)I"⟩
abbrev b_La_neighbour : ByteArray := method_7_code
def y_La_neighbour : MethodName := ⟨R_La, "neighbour", "(LLinePredict;I[J)I"⟩
abbrev b_Lp_neighbour : ByteArray := prog_1_method_9_code
def y_Lp_neighbour : MethodName := ⟨R_Lp, "neighbour", "(I)I"⟩
abbrev b_La_state : ByteArray := method_8_code
def y_La_state : MethodName := ⟨R_La, "state", "(LLinePredict;III[J)I"⟩
abbrev b_Lp_state : ByteArray := prog_1_method_10_code
def y_Lp_state : MethodName := ⟨R_Lp, "state", "(III)I"⟩
abbrev b_Co_held : ByteArray := prog_2_method_3_code
def y_Co_held : MethodName := ⟨R_Co, "held", "(II)I"⟩
abbrev b_La_quantised : ByteArray := method_9_code
def y_La_quantised : MethodName := ⟨R_La, "quantised", "(LLinePredict;I[J)I"⟩
abbrev b_Lp_quantised : ByteArray := prog_1_method_12_code
def y_Lp_quantised : MethodName := ⟨R_Lp, "quantised", "(I)I"⟩
abbrev b_La_setting : ByteArray := method_10_code
def y_La_setting : MethodName := ⟨R_La, "setting", "(LLinePredict;I[J)I"⟩
abbrev b_Lp_setting : ByteArray := prog_1_method_13_code
def y_Lp_setting : MethodName := ⟨R_Lp, "setting", "(I)I"⟩
abbrev b_Mo_init : ByteArray := prog_7_method_1_code
def y_Mo_init : MethodName := ⟨R_Mo, "<init>", "(III)V"⟩
abbrev b_Mo_brought : ByteArray := prog_7_method_3_code
def y_Mo_brought : MethodName := ⟨R_Mo, "brought", "(III)I"⟩
abbrev b_Mo_layThresholds : ByteArray := prog_7_method_6_code
def y_Mo_layThresholds : MethodName := ⟨R_Mo, "layThresholds", "()V"⟩
abbrev b_Mo_greater : ByteArray := prog_7_method_5_code
def y_Mo_greater : MethodName := ⟨R_Mo, "greater", "(II)I"⟩
abbrev b_Mo_thrown : ByteArray := prog_7_method_2_code
def y_Mo_thrown : MethodName := ⟨R_Mo, "thrown", "()I"⟩
abbrev b_Mo_thresholds : ByteArray := prog_7_method_21_code
def y_Mo_thresholds : MethodName := ⟨R_Mo, "thresholds", "(III)Z"⟩
abbrev b_Mo_isFresh : ByteArray := prog_7_method_20_code
def y_Mo_isFresh : MethodName := ⟨R_Mo, "isFresh", "()Z"⟩
abbrev b_Mo_reset : ByteArray := prog_7_method_22_code
def y_Mo_reset : MethodName := ⟨R_Mo, "reset", "(I)Z"⟩
abbrev b_Mo_sample : ByteArray := prog_7_method_25_code
def y_Mo_sample : MethodName := ⟨R_Mo, "sample", "(II)I"⟩
abbrev b_Mo_isTurn : ByteArray := prog_7_method_23_code
def y_Mo_isTurn : MethodName := ⟨R_Mo, "isTurn", "(II)Z"⟩
abbrev b_Mo_look : ByteArray := prog_7_method_9_code
def y_Mo_look : MethodName := ⟨R_Mo, "look", "(I)V"⟩
abbrev b_Mo_isNear : ByteArray := prog_7_method_8_code
def y_Mo_isNear : MethodName := ⟨R_Mo, "isNear", "(I)Z"⟩
abbrev b_Mo_size : ByteArray := prog_7_method_4_code
def y_Mo_size : MethodName := ⟨R_Mo, "size", "(I)I"⟩
abbrev b_Mo_numberOf : ByteArray := prog_7_method_7_code
def y_Mo_numberOf : MethodName := ⟨R_Mo, "numberOf", "(I)I"⟩
abbrev b_Mo_lay : ByteArray := prog_7_method_24_code
def y_Mo_lay : MethodName := ⟨R_Mo, "lay", "(IZ)V"⟩
abbrev b_Mo_noteLast : ByteArray := prog_7_method_10_code
def y_Mo_noteLast : MethodName := ⟨R_Mo, "noteLast", "(II)V"⟩
abbrev b_Mo_quantise : ByteArray := prog_7_method_11_code
def y_Mo_quantise : MethodName := ⟨R_Mo, "quantise", "(I)I"⟩
abbrev b_Mo_around : ByteArray := prog_7_method_12_code
def y_Mo_around : MethodName := ⟨R_Mo, "around", "(I)I"⟩
abbrev b_Mo_fold : ByteArray := prog_7_method_16_code
def y_Mo_fold : MethodName := ⟨R_Mo, "fold", "(II)I"⟩
abbrev b_Mo_bitsOf : ByteArray := prog_7_method_13_code
def y_Mo_bitsOf : MethodName := ⟨R_Mo, "bitsOf", "(I)I"⟩
abbrev b_Mo_isEnd : ByteArray := prog_7_method_14_code
def y_Mo_isEnd : MethodName := ⟨R_Mo, "isEnd", "(I)Z"⟩
abbrev b_Mo_kindOf : ByteArray := prog_7_method_15_code
def y_Mo_kindOf : MethodName := ⟨R_Mo, "kindOf", "(I)I"⟩
abbrev b_Mo_learn : ByteArray := prog_7_method_19_code
def y_Mo_learn : MethodName := ⟨R_Mo, "learn", "(III)V"⟩
abbrev b_Mo_halve : ByteArray := prog_7_method_18_code
def y_Mo_halve : MethodName := ⟨R_Mo, "halve", "(I)V"⟩
abbrev b_Mo_back : ByteArray := prog_7_method_26_code
def y_Mo_back : MethodName := ⟨R_Mo, "back", "(II)I"⟩
abbrev b_Mo_unfold : ByteArray := prog_7_method_17_code
def y_Mo_unfold : MethodName := ⟨R_Mo, "unfold", "(II)I"⟩
abbrev b_Mo_endRow : ByteArray := prog_7_method_27_code
def y_Mo_endRow : MethodName := ⟨R_Mo, "endRow", "()Z"⟩
abbrev b_Mo_context : ByteArray := prog_7_method_28_code
def y_Mo_context : MethodName := ⟨R_Mo, "context", "()I"⟩
abbrev b_Mo_predicted : ByteArray := prog_7_method_29_code
def y_Mo_predicted : MethodName := ⟨R_Mo, "predicted", "()I"⟩
abbrev b_Mo_neighbour : ByteArray := prog_7_method_30_code
def y_Mo_neighbour : MethodName := ⟨R_Mo, "neighbour", "(I)I"⟩
abbrev b_Mo_state : ByteArray := prog_7_method_31_code
def y_Mo_state : MethodName := ⟨R_Mo, "state", "(III)I"⟩
abbrev b_Mo_runs : ByteArray := prog_7_method_32_code
def y_Mo_runs : MethodName := ⟨R_Mo, "runs", "()I"⟩
abbrev b_Mo_quantised : ByteArray := prog_7_method_33_code
def y_Mo_quantised : MethodName := ⟨R_Mo, "quantised", "(I)I"⟩
abbrev b_Mo_setting : ByteArray := prog_7_method_34_code
def y_Mo_setting : MethodName := ⟨R_Mo, "setting", "(I)I"⟩
def vU_0 : List Cond := [.selects R_Sc y_Sc_setFirstThresholds y_Sc_setFirstThresholds, .selects R_Sc y_Sc_thresholdOr y_Sc_thresholdOr, .selects "java/lang/Throwable" ⟨"java/lang/Throwable", "fillInStackTrace", "(I)Ljava/lang/Throwable;"⟩ ⟨"java/lang/Throwable", "fillInStackTrace", "(I)Ljava/lang/Throwable;"⟩, .selects R_Si y_Si_rowAt y_Si_rowAt, .selects R_Si y_Si_isFlatAround y_Si_isFlatAround, .selects R_Ou y_Ou_median y_Ou_median, .selects R_Lp y_Lp_tell y_Lp_tell, .selects R_Co y_Co_turn y_Co_turn, .selects R_Co y_Co_turnsAbove y_Co_turnsAbove, .selects R_Co y_Co_exponentIsZero y_Co_exponentIsZero, .selects R_Co y_Co_leansBelow y_Co_leansBelow, .selects R_Co y_Co_learnEnd y_Co_learnEnd, .selects R_Co y_Co_correct y_Co_correct, .selects R_Co y_Co_unfoldEnd y_Co_unfoldEnd, .selects R_Mo y_Mo_layThresholds y_Mo_layThresholds, .selects R_Mo y_Mo_isFresh y_Mo_isFresh, .selects R_Mo y_Mo_isTurn y_Mo_isTurn, .selects R_Mo y_Mo_look y_Mo_look, .selects R_Mo y_Mo_isNear y_Mo_isNear, .selects R_Mo y_Mo_numberOf y_Mo_numberOf, .selects R_Mo y_Mo_lay y_Mo_lay, .selects R_Mo y_Mo_noteLast y_Mo_noteLast, .selects R_Mo y_Mo_quantise y_Mo_quantise, .selects R_Mo y_Mo_around y_Mo_around, .selects R_Mo y_Mo_fold y_Mo_fold, .selects R_Mo y_Mo_bitsOf y_Mo_bitsOf, .selects R_Mo y_Mo_isEnd y_Mo_isEnd, .selects R_Mo y_Mo_kindOf y_Mo_kindOf, .selects R_Mo y_Mo_learn y_Mo_learn, .selects R_Mo y_Mo_halve y_Mo_halve, .selects R_Mo y_Mo_unfold y_Mo_unfold, .initialized R_La, .initialized R_Lp, .initialized "java/lang/Math", .initialized R_Sc, .initialized R_Si, .initialized R_Co, .initialized "java/util/Arrays", .initialized R_Ou, .initialized R_Mo, .initialized "java/lang/Throwable", .initialized "java/lang/Exception", .initialized "java/lang/RuntimeException", .initialized "java/lang/IllegalStateException", .initialized "java/lang/IllegalArgumentException", .initialized "java/lang/IndexOutOfBoundsException", .classLink R_La 8 R_Lp, .instantiable R_Lp 7, .methodLink R_La 50 y_Lp_init, .instanceMethod y_Lp_init, .code y_Lp_init b_Lp_init 5 none, .methodLink R_Lp 1 objectInit, .instanceMethod objectInit, .code objectInit ⟨#[0xb1]⟩ 1 none, .constant R_Lp 7 65536, .methodLink R_Lp 8 y_Lp_within, .static y_Lp_within, .code y_Lp_within b_Lp_within 3 (some .int), .methodLink R_Lp 217 Lib.Math.min.name, .static Lib.Math.min.name]
def vU_1 : List Cond := [.code Lib.Math.min.name Lib.Math.min.code 2 (some .int), .methodLink R_Lp 220 Lib.Math.max.name, .static Lib.Math.max.name, .code Lib.Math.max.name Lib.Math.max.code 2 (some .int), .classLink R_Lp 14 R_Sc, .instantiable R_Sc 8, .methodLink R_Lp 16 y_Sc_init, .instanceMethod y_Sc_init, .code y_Sc_init b_Sc_init 3 none, .methodLink R_Sc 1 objectInit, .methodLink R_Sc 19 Lib.Math.min.name, .static y_Lp_divided, .code y_Lp_divided b_Lp_divided 2 (some .int), .methodLink R_Sc 40 y_Sc_setFirstThresholds, .instanceMethod y_Sc_setFirstThresholds, .code y_Sc_setFirstThresholds b_Sc_setFirstThresholds 5 none, .methodLink R_Sc 43 Lib.Math.max.name, .methodLink R_Sc 45 y_Sc_thresholdOr, .instanceMethod y_Sc_thresholdOr, .code y_Sc_thresholdOr b_Sc_thresholdOr 3 (some .int), .fieldLink R_Sc 13 "LinePredict$Scale" "max" "I", .fieldLink R_Lp 63 "LinePredict$Scale" "max" "I", .fieldLink R_Sc 25 "LinePredict$Scale" "near" "I", .fieldLink R_Lp 60 "LinePredict$Scale" "near" "I", .fieldLink R_Co 92 "LinePredict$Scale" "near" "I", .fieldLink R_Sc 28 "LinePredict$Scale" "step" "I", .fieldLink R_Ou 64 "LinePredict$Scale" "step" "I", .fieldLink R_Co 76 "LinePredict$Scale" "step" "I", .fieldLink R_Co 28 "LinePredict$Scale" "range" "I", .fieldLink R_Sc 34 "LinePredict$Scale" "range" "I", .fieldLink R_Lp 150 "LinePredict$Scale" "range" "I", .fieldLink R_Lp 66 "LinePredict$Scale" "t1" "I", .fieldLink R_Sc 48 "LinePredict$Scale" "t1" "I", .fieldLink R_Lp 69 "LinePredict$Scale" "t2" "I", .fieldLink R_Sc 51 "LinePredict$Scale" "t2" "I", .fieldLink R_Lp 72 "LinePredict$Scale" "t3" "I", .fieldLink R_Sc 54 "LinePredict$Scale" "t3" "I", .fieldLink R_Sc 37 "LinePredict$Scale" "resetAt" "I", .fieldLink R_Lp 75 "LinePredict$Scale" "resetAt" "I", .fieldLink R_Co 79 "LinePredict$Scale" "resetAt" "I", .laysFinal R_Sc "LinePredict$Scale" "max" "I", .laysFinal R_Sc "LinePredict$Scale" "near" "I", .laysFinal R_Sc "LinePredict$Scale" "step" "I", .laysFinal R_Sc "LinePredict$Scale" "range" "I", .lays R_Sc "LinePredict$Scale" "t1" "I", .lays R_Sc "LinePredict$Scale" "t2" "I", .lays R_Sc "LinePredict$Scale" "t3" "I", .lays R_Sc "LinePredict$Scale" "resetAt" "I", .classLink R_Lp 23 R_Si, .instantiable R_Si 9, .methodLink R_Lp 25 y_Si_init, .instanceMethod y_Si_init, .code y_Si_init b_Si_init 3 none, .methodLink R_Si 1 objectInit, .classLink R_Si 17 R_Co, .instantiable R_Co 5, .methodLink R_Si 19 y_Co_init, .instanceMethod y_Co_init, .code y_Co_init b_Co_init 2 none, .methodLink R_Co 3 objectInit]
def vU_2 : List Cond := [.methodLink R_Co 34 Lib.Math.max.name, .methodLink R_Co 40 y_Ar_fill, .static y_Ar_fill, .code y_Ar_fill b_Ar_fill 4 none, .fieldLink R_Co 9 "LinePredict$Contexts" "scale" "LLinePredict$Scale;", .fieldLink R_Co 15 "LinePredict$Contexts" "sizes" "[I", .fieldLink R_Co 19 "LinePredict$Contexts" "leanings" "[I", .fieldLink R_Co 22 "LinePredict$Contexts" "corrections" "[I", .fieldLink R_Co 25 "LinePredict$Contexts" "counts" "[I", .laysFinal R_Co "LinePredict$Contexts" "scale" "LLinePredict$Scale;", .laysFinal R_Co "LinePredict$Contexts" "sizes" "[I", .laysFinal R_Co "LinePredict$Contexts" "leanings" "[I", .laysFinal R_Co "LinePredict$Contexts" "corrections" "[I", .laysFinal R_Co "LinePredict$Contexts" "counts" "[I", .arrayClass .int, .methodLink R_Si 26 Lib.Math.min.name, .methodLink R_Si 32 Lib.Math.max.name, .fieldLink R_Si 22 "LinePredict$Side" "contexts" "LLinePredict$Contexts;", .fieldLink R_Lp 126 "LinePredict$Side" "contexts" "LLinePredict$Contexts;", .fieldLink R_Si 13 "LinePredict$Side" "scale" "LLinePredict$Scale;", .fieldLink R_Si 7 "LinePredict$Side" "width" "I", .fieldLink R_Si 39 "LinePredict$Side" "place" "I", .fieldLink R_Lp 202 "LinePredict$Side" "place" "I", .fieldLink R_Si 42 "LinePredict$Side" "line" "I", .fieldLink R_Lp 205 "LinePredict$Side" "line" "I", .fieldLink R_Si 45 "LinePredict$Side" "running" "Z", .fieldLink R_Lp 210 "LinePredict$Side" "running" "Z", .fieldLink R_Si 35 "LinePredict$Side" "row" "[I", .fieldLink R_Si 49 "LinePredict$Side" "corner" "I", .fieldLink R_Si 52 "LinePredict$Side" "aboveFirst" "I", .laysFinal R_Si "LinePredict$Side" "contexts" "LLinePredict$Contexts;", .laysFinal R_Si "LinePredict$Side" "scale" "LLinePredict$Scale;", .laysFinal R_Si "LinePredict$Side" "width" "I", .lays R_Si "LinePredict$Side" "place" "I", .lays R_Si "LinePredict$Side" "line" "I", .lays R_Si "LinePredict$Side" "running" "Z", .laysFinal R_Si "LinePredict$Side" "row" "[I", .lays R_Si "LinePredict$Side" "corner" "I", .lays R_Si "LinePredict$Side" "aboveFirst" "I", .classLink R_Lp 35 R_Ou, .instantiable R_Ou 9, .instanceMethod y_Ou_init, .code y_Ou_init b_Ou_init 1 none, .methodLink R_Ou 3 objectInit, .fieldLink R_Ou 18 "LinePredict$Outlook" "a" "I", .fieldLink R_Si 64 "LinePredict$Outlook" "a" "I", .fieldLink R_Lp 96 "LinePredict$Outlook" "a" "I", .fieldLink R_Ou 24 "LinePredict$Outlook" "b" "I", .fieldLink R_Si 59 "LinePredict$Outlook" "b" "I", .fieldLink R_Lp 169 "LinePredict$Outlook" "b" "I", .fieldLink R_Si 67 "LinePredict$Outlook" "c" "I", .fieldLink R_Ou 40 "LinePredict$Outlook" "c" "I", .fieldLink R_Lp 172 "LinePredict$Outlook" "c" "I", .fieldLink R_Si 70 "LinePredict$Outlook" "d" "I", .fieldLink R_Ou 33 "LinePredict$Outlook" "d" "I", .fieldLink R_Lp 175 "LinePredict$Outlook" "d" "I", .fieldLink R_Si 77 "LinePredict$Outlook" "ofRun" "Z", .fieldLink R_Lp 93 "LinePredict$Outlook" "ofRun" "Z", .fieldLink R_Ou 9 "LinePredict$Outlook" "number" "I", .fieldLink R_Lp 130 "LinePredict$Outlook" "number" "I"]
def vU_3 : List Cond := [.fieldLink R_Ou 15 "LinePredict$Outlook" "sign" "I", .fieldLink R_Lp 114 "LinePredict$Outlook" "sign" "I", .fieldLink R_Ou 21 "LinePredict$Outlook" "expected" "I", .fieldLink R_Lp 117 "LinePredict$Outlook" "expected" "I", .fieldLink R_Lp 178 "LinePredict$Outlook" "rebuilt" "I", .lays R_Ou "LinePredict$Outlook" "a" "I", .lays R_Ou "LinePredict$Outlook" "b" "I", .lays R_Ou "LinePredict$Outlook" "c" "I", .lays R_Ou "LinePredict$Outlook" "d" "I", .lays R_Ou "LinePredict$Outlook" "ofRun" "Z", .lays R_Ou "LinePredict$Outlook" "number" "I", .lays R_Ou "LinePredict$Outlook" "sign" "I", .lays R_Ou "LinePredict$Outlook" "expected" "I", .lays R_Ou "LinePredict$Outlook" "rebuilt" "I", .fieldLink R_Lp 19 "LinePredict" "scale" "LLinePredict$Scale;", .fieldLink R_Lp 28 "LinePredict" "coder" "LLinePredict$Side;", .fieldLink R_Lp 32 "LinePredict" "decoder" "LLinePredict$Side;", .fieldLink R_Lp 38 "LinePredict" "last" "LLinePredict$Outlook;", .fieldLink R_Lp 42 "LinePredict" "spare" "LLinePredict$Outlook;", .fieldLink R_Lp 45 "LinePredict" "runsBegun" "I", .fieldLink R_Lp 49 "LinePredict" "anyTold" "Z", .laysFinal R_Lp "LinePredict" "scale" "LLinePredict$Scale;", .laysFinal R_Lp "LinePredict" "coder" "LLinePredict$Side;", .laysFinal R_Lp "LinePredict" "decoder" "LLinePredict$Side;", .lays R_Lp "LinePredict" "last" "LLinePredict$Outlook;", .lays R_Lp "LinePredict" "spare" "LLinePredict$Outlook;", .lays R_Lp "LinePredict" "runsBegun" "I", .lays R_Lp "LinePredict" "anyTold" "Z", .methodLink R_La 75 y_Lp_endRow, .instanceMethod y_Lp_endRow, .selects R_Lp y_Lp_endRow y_Lp_endRow, .code y_Lp_endRow b_Lp_endRow 3 (some .boolean), .methodLink R_Lp 165 y_Si_goToNextRow, .instanceMethod y_Si_goToNextRow, .selects R_Si y_Si_goToNextRow y_Si_goToNextRow, .code y_Si_goToNextRow b_Si_goToNextRow 1 (some .boolean), .methodLink R_La 80 y_Lp_context, .instanceMethod y_Lp_context, .selects R_Lp y_Lp_context y_Lp_context, .code y_Lp_context b_Lp_context 1 (some .int), .methodLink R_La 84 y_Lp_predicted, .instanceMethod y_Lp_predicted, .selects R_Lp y_Lp_predicted y_Lp_predicted, .code y_Lp_predicted b_Lp_predicted 1 (some .int), .methodLink R_La 94 y_Lp_runs, .instanceMethod y_Lp_runs, .selects R_Lp y_Lp_runs y_Lp_runs, .code y_Lp_runs b_Lp_runs 1 (some .int), .methodLink R_La 44 y_La_cell, .static y_La_cell, .code y_La_cell b_La_cell 2 (some .int), .methodLink R_La 56 y_La_thresholds, .static y_La_thresholds, .codeWith y_La_thresholds b_La_thresholds 6 (some .int) [(0, 19, 22, 13)], .classLink R_La 13 "java/lang/IllegalStateException", .methodLink R_La 7 y_Lp_thresholds, .instanceMethod y_Lp_thresholds, .selects R_Lp y_Lp_thresholds y_Lp_thresholds, .code y_Lp_thresholds b_Lp_thresholds 4 (some .boolean), .classLink R_Lp 53 "java/lang/IllegalStateException"]
def vU_4 : List Cond := [.instantiable "java/lang/IllegalStateException" 6, .selects "java/lang/IllegalStateException" ⟨"java/lang/Throwable", "fillInStackTrace", "(I)Ljava/lang/Throwable;"⟩ ⟨"java/lang/Throwable", "fillInStackTrace", "(I)Ljava/lang/Throwable;"⟩, .selects "java/lang/IllegalStateException" ⟨"java/lang/Throwable", "fillInStackTrace", "()Ljava/lang/Throwable;"⟩ ⟨"java/lang/Throwable", "fillInStackTrace", "()Ljava/lang/Throwable;"⟩, .lays "java/lang/IllegalStateException" "java/lang/Throwable" "cause" "Ljava/lang/Throwable;", .lays "java/lang/Throwable" "java/lang/Throwable" "cause" "Ljava/lang/Throwable;", .lays "java/lang/IllegalStateException" "java/lang/Throwable" "stackTrace" "[Ljava/lang/StackTraceElement;", .lays "java/lang/Throwable" "java/lang/Throwable" "stackTrace" "[Ljava/lang/StackTraceElement;", .lays "java/lang/IllegalStateException" "java/lang/Throwable" "suppressedExceptions" "Ljava/util/List;", .lays "java/lang/Throwable" "java/lang/Throwable" "suppressedExceptions" "Ljava/util/List;", .lays "java/lang/IllegalStateException" "java/lang/Throwable" "detailMessage" "Ljava/lang/String;", .lays "java/lang/Throwable" "java/lang/Throwable" "detailMessage" "Ljava/lang/String;", .lays "java/lang/IllegalStateException" "java/lang/Throwable" "backtrace" "Ljava/lang/Object;", .lays "java/lang/Throwable" "java/lang/Throwable" "backtrace" "Ljava/lang/Object;", .fieldLink "java/lang/Throwable" 198 "java/lang/Throwable" "backtrace" "Ljava/lang/Object;", .instanceMethod ⟨"java/lang/Throwable", "<init>", "()V"⟩, .code ⟨"java/lang/Throwable", "<init>", "()V"⟩ prog_15_method_1_code 1 none, .methodLink "java/lang/Throwable" 1 objectInit, .fieldLink "java/lang/Throwable" 13 "java/lang/Throwable" "UNASSIGNED_STACK" "[Ljava/lang/StackTraceElement;", .fieldLink "java/lang/Throwable" 20 "java/lang/Throwable" "SUPPRESSED_SENTINEL" "Ljava/util/List;", .methodLink "java/lang/Throwable" 27 ⟨"java/lang/Throwable", "fillInStackTrace", "()Ljava/lang/Throwable;"⟩, .instanceMethod ⟨"java/lang/Throwable", "fillInStackTrace", "()Ljava/lang/Throwable;"⟩, .selects "java/lang/IllegalArgumentException" ⟨"java/lang/Throwable", "fillInStackTrace", "()Ljava/lang/Throwable;"⟩ ⟨"java/lang/Throwable", "fillInStackTrace", "()Ljava/lang/Throwable;"⟩, .selects "java/lang/IndexOutOfBoundsException" ⟨"java/lang/Throwable", "fillInStackTrace", "()Ljava/lang/Throwable;"⟩ ⟨"java/lang/Throwable", "fillInStackTrace", "()Ljava/lang/Throwable;"⟩, .methodLink "java/lang/Throwable" 202 ⟨"java/lang/Throwable", "fillInStackTrace", "(I)Ljava/lang/Throwable;"⟩, .instanceMethod ⟨"java/lang/Throwable", "fillInStackTrace", "(I)Ljava/lang/Throwable;"⟩, .instantiable "java/lang/Throwable" 6, .native ⟨"java/lang/Throwable", "fillInStackTrace", "(I)Ljava/lang/Throwable;"⟩, .methodLink R_Lp 57 ⟨"java/lang/IllegalStateException", "<init>", "(Ljava/lang/String;)V"⟩, .instanceMethod ⟨"java/lang/IllegalStateException", "<init>", "(Ljava/lang/String;)V"⟩, .code ⟨"java/lang/IllegalStateException", "<init>", "(Ljava/lang/String;)V"⟩ prog_10_method_2_code 2 none, .methodLink "java/lang/IllegalStateException" 7 ⟨"java/lang/RuntimeException", "<init>", "(Ljava/lang/String;)V"⟩, .instanceMethod ⟨"java/lang/RuntimeException", "<init>", "(Ljava/lang/String;)V"⟩, .code ⟨"java/lang/RuntimeException", "<init>", "(Ljava/lang/String;)V"⟩ prog_13_method_2_code 2 none, .methodLink "java/lang/RuntimeException" 7 ⟨"java/lang/Exception", "<init>", "(Ljava/lang/String;)V"⟩, .instanceMethod ⟨"java/lang/Exception", "<init>", "(Ljava/lang/String;)V"⟩, .code ⟨"java/lang/Exception", "<init>", "(Ljava/lang/String;)V"⟩ prog_8_method_2_code 2 none, .methodLink "java/lang/Exception" 7 ⟨"java/lang/Throwable", "<init>", "(Ljava/lang/String;)V"⟩, .instanceMethod ⟨"java/lang/Throwable", "<init>", "(Ljava/lang/String;)V"⟩, .code ⟨"java/lang/Throwable", "<init>", "(Ljava/lang/String;)V"⟩ prog_15_method_2_code 2 none, .fieldLink "java/lang/Throwable" 198 "java/lang/Throwable" "backtrace" "Ljava/lang/Object;", .fieldLink "java/lang/Throwable" 31 "java/lang/Throwable" "detailMessage" "Ljava/lang/String;", .fieldLink "java/lang/Throwable" 7 "java/lang/Throwable" "cause" "Ljava/lang/Throwable;", .fieldLink "java/lang/Throwable" 17 "java/lang/Throwable" "stackTrace" "[Ljava/lang/StackTraceElement;", .fieldLink "java/lang/Throwable" 24 "java/lang/Throwable" "suppressedExceptions" "Ljava/util/List;", .lays "java/lang/IllegalStateException" "java/lang/Throwable" "depth" "I", .arrayClass .byte, .methodLink R_La 64 y_La_reset, .static y_La_reset, .codeWith y_La_reset b_La_reset 4 (some .int) [(0, 16, 19, 13)], .methodLink R_La 15 y_Lp_reset, .instanceMethod y_Lp_reset, .selects R_Lp y_Lp_reset y_Lp_reset, .code y_Lp_reset b_Lp_reset 2 (some .boolean), .methodLink R_La 68 y_La_sample, .static y_La_sample, .codeWith y_La_sample b_La_sample 5 (some .int) [(0, 10, 13, 13), (0, 10, 17, 23)], .classLink R_La 23 "java/lang/IllegalArgumentException", .methodLink R_La 19 y_Lp_sample, .instanceMethod y_Lp_sample, .selects R_Lp y_Lp_sample y_Lp_sample]
def vU_5 : List Cond := [.code y_Lp_sample b_Lp_sample 7 (some .int), .methodLink R_Lp 78 y_Si_awaits, .instanceMethod y_Si_awaits, .selects R_Si y_Si_awaits y_Si_awaits, .code y_Si_awaits b_Si_awaits 2 (some .boolean), .classLink R_Lp 84 "java/lang/IllegalArgumentException", .instantiable "java/lang/IllegalArgumentException" 6, .selects "java/lang/IllegalArgumentException" ⟨"java/lang/Throwable", "fillInStackTrace", "(I)Ljava/lang/Throwable;"⟩ ⟨"java/lang/Throwable", "fillInStackTrace", "(I)Ljava/lang/Throwable;"⟩, .lays "java/lang/IllegalArgumentException" "java/lang/Throwable" "cause" "Ljava/lang/Throwable;", .lays "java/lang/IllegalArgumentException" "java/lang/Throwable" "stackTrace" "[Ljava/lang/StackTraceElement;", .lays "java/lang/IllegalArgumentException" "java/lang/Throwable" "suppressedExceptions" "Ljava/util/List;", .lays "java/lang/IllegalArgumentException" "java/lang/Throwable" "detailMessage" "Ljava/lang/String;", .lays "java/lang/IllegalArgumentException" "java/lang/Throwable" "backtrace" "Ljava/lang/Object;", .methodLink R_Lp 88 ⟨"java/lang/IllegalArgumentException", "<init>", "(Ljava/lang/String;)V"⟩, .instanceMethod ⟨"java/lang/IllegalArgumentException", "<init>", "(Ljava/lang/String;)V"⟩, .code ⟨"java/lang/IllegalArgumentException", "<init>", "(Ljava/lang/String;)V"⟩ prog_9_method_2_code 2 none, .methodLink "java/lang/IllegalArgumentException" 7 ⟨"java/lang/RuntimeException", "<init>", "(Ljava/lang/String;)V"⟩, .lays "java/lang/IllegalArgumentException" "java/lang/Throwable" "depth" "I", .methodLink R_Lp 89 y_Si_lookAhead, .instanceMethod y_Si_lookAhead, .selects R_Si y_Si_lookAhead y_Si_lookAhead, .code y_Si_lookAhead b_Si_lookAhead 2 none, .methodLink R_Si 55 y_Si_rowAt, .instanceMethod y_Si_rowAt, .code y_Si_rowAt b_Si_rowAt 2 (some .int), .methodLink R_Si 73 y_Si_isFlatAround, .instanceMethod y_Si_isFlatAround, .code y_Si_isFlatAround b_Si_isFlatAround 2 (some .boolean), .methodLink R_Si 87 y_Sc_isFlat, .instanceMethod y_Sc_isFlat, .selects R_Sc y_Sc_isFlat y_Sc_isFlat, .code y_Sc_isFlat b_Sc_isFlat 2 (some .boolean), .methodLink R_Sc 57 Lib.Math.abs.name, .static Lib.Math.abs.name, .code Lib.Math.abs.name Lib.Math.abs.code 1 (some .int), .methodLink R_Si 80 y_Ou_expectRun, .instanceMethod y_Ou_expectRun, .selects R_Ou y_Ou_expectRun y_Ou_expectRun, .code y_Ou_expectRun b_Ou_expectRun 1 none, .methodLink R_Si 83 y_Ou_expectByGradients, .instanceMethod y_Ou_expectByGradients, .selects R_Ou y_Ou_expectByGradients y_Ou_expectByGradients, .code y_Ou_expectByGradients b_Ou_expectByGradients 4 none, .methodLink R_Ou 36 y_Sc_steepness, .instanceMethod y_Sc_steepness, .selects R_Sc y_Sc_steepness y_Sc_steepness, .code y_Sc_steepness b_Sc_steepness 4 (some .int), .methodLink R_Ou 43 y_Ou_median, .instanceMethod y_Ou_median, .code y_Ou_median b_Ou_median 1 (some .int), .methodLink R_Ou 55 Lib.Math.max.name, .methodLink R_Ou 61 Lib.Math.min.name, .methodLink R_Ou 47 y_Co_correction, .instanceMethod y_Co_correction, .selects R_Co y_Co_correction y_Co_correction, .code y_Co_correction b_Co_correction 2 (some .int), .methodLink R_Co 46 y_Co_has, .static y_Co_has, .code y_Co_has b_Co_has 1 (some .boolean), .methodLink R_Ou 52 y_Sc_asSample]
def vU_6 : List Cond := [.instanceMethod y_Sc_asSample, .selects R_Sc y_Sc_asSample y_Sc_asSample, .code y_Sc_asSample b_Sc_asSample 2 (some .int), .methodLink R_Lp 99 Lib.Math.abs.name, .methodLink R_Lp 105 y_Lp_tell, .instanceMethod y_Lp_tell, .code y_Lp_tell b_Lp_tell 5 none, .methodLink R_Lp 213 y_Si_keep, .instanceMethod y_Si_keep, .selects R_Si y_Si_keep y_Si_keep, .code y_Si_keep b_Si_keep 3 none, .constant R_Lp 109 (-2147483648), .methodLink R_Lp 110 y_Ou_expectEnd, .instanceMethod y_Ou_expectEnd, .selects R_Ou y_Ou_expectEnd y_Ou_expectEnd, .code y_Ou_expectEnd b_Ou_expectEnd 3 none, .methodLink R_Ou 27 y_Sc_isFlat, .methodLink R_Lp 120 y_Sc_inSteps, .instanceMethod y_Sc_inSteps, .selects R_Sc y_Sc_inSteps y_Sc_inSteps, .code y_Sc_inSteps b_Sc_inSteps 2 (some .int), .methodLink R_Lp 123 y_Sc_inRange, .instanceMethod y_Sc_inRange, .selects R_Sc y_Sc_inRange y_Sc_inRange, .code y_Sc_inRange b_Sc_inRange 3 (some .int), .methodLink R_Lp 133 y_Co_fold, .instanceMethod y_Co_fold, .selects R_Co y_Co_fold y_Co_fold, .code y_Co_fold b_Co_fold 3 (some .int), .methodLink R_Co 50 y_Co_endsRun, .static y_Co_endsRun, .code y_Co_endsRun b_Co_endsRun 1 (some .boolean), .methodLink R_Co 53 Lib.Math.abs.name, .methodLink R_Co 57 y_Co_turn, .instanceMethod y_Co_turn, .code y_Co_turn b_Co_turn 4 (some .int), .methodLink R_Co 69 y_Co_turnsAbove, .instanceMethod y_Co_turnsAbove, .code y_Co_turnsAbove b_Co_turnsAbove 2 (some .boolean), .methodLink R_Co 89 y_Co_exponentIsZero, .instanceMethod y_Co_exponentIsZero, .code y_Co_exponentIsZero b_Co_exponentIsZero 4 (some .boolean), .methodLink R_Co 60 y_Co_likeness, .static y_Co_likeness, .code y_Co_likeness b_Co_likeness 1 (some .int), .methodLink R_Co 63 y_Co_leansBelow, .instanceMethod y_Co_leansBelow, .code y_Co_leansBelow b_Co_leansBelow 2 (some .boolean), .methodLink R_Lp 139 y_Co_learn, .instanceMethod y_Co_learn, .selects R_Co y_Co_learn y_Co_learn, .code y_Co_learn b_Co_learn 4 none, .methodLink R_Co 72 y_Co_learnEnd, .instanceMethod y_Co_learnEnd, .code y_Co_learnEnd b_Co_learnEnd 4 none, .methodLink R_Co 82 y_Co_correct, .instanceMethod y_Co_correct, .code y_Co_correct b_Co_correct 3 none, .methodLink R_Co 86 Lib.Math.min.name, .methodLink R_Lp 143 y_Ou_moved]
def vU_7 : List Cond := [.instanceMethod y_Ou_moved, .selects R_Ou y_Ou_moved y_Ou_moved, .code y_Ou_moved b_Ou_moved 3 (some .int), .methodLink R_Lp 147 y_Sc_asSample, .methodLink R_La 72 y_La_back, .static y_La_back, .codeWith y_La_back b_La_back 5 (some .int) [(0, 10, 13, 13), (0, 10, 17, 23)], .methodLink R_La 25 y_Lp_back, .instanceMethod y_Lp_back, .selects R_Lp y_Lp_back y_Lp_back, .code y_Lp_back b_Lp_back 6 (some .int), .methodLink R_Lp 157 y_Co_unfold, .instanceMethod y_Co_unfold, .selects R_Co y_Co_unfold y_Co_unfold, .code y_Co_unfold b_Co_unfold 5 (some .int), .methodLink R_Co 66 y_Co_unfoldEnd, .instanceMethod y_Co_unfoldEnd, .code y_Co_unfoldEnd b_Co_unfoldEnd 6 (some .int), .methodLink R_Lp 162 y_Sc_turnedOver, .instanceMethod y_Sc_turnedOver, .selects R_Sc y_Sc_turnedOver y_Sc_turnedOver, .code y_Sc_turnedOver b_Sc_turnedOver 2 (some .int), .methodLink R_La 88 y_La_neighbour, .static y_La_neighbour, .codeWith y_La_neighbour b_La_neighbour 4 (some .int) [(0, 9, 12, 32)], .classLink R_La 32 "java/lang/IndexOutOfBoundsException", .methodLink R_La 28 y_Lp_neighbour, .instanceMethod y_Lp_neighbour, .selects R_Lp y_Lp_neighbour y_Lp_neighbour, .code y_Lp_neighbour b_Lp_neighbour 2 (some .int), .classLink R_Lp 181 "java/lang/IndexOutOfBoundsException", .instantiable "java/lang/IndexOutOfBoundsException" 6, .selects "java/lang/IndexOutOfBoundsException" ⟨"java/lang/Throwable", "fillInStackTrace", "(I)Ljava/lang/Throwable;"⟩ ⟨"java/lang/Throwable", "fillInStackTrace", "(I)Ljava/lang/Throwable;"⟩, .lays "java/lang/IndexOutOfBoundsException" "java/lang/Throwable" "cause" "Ljava/lang/Throwable;", .lays "java/lang/IndexOutOfBoundsException" "java/lang/Throwable" "stackTrace" "[Ljava/lang/StackTraceElement;", .lays "java/lang/IndexOutOfBoundsException" "java/lang/Throwable" "suppressedExceptions" "Ljava/util/List;", .lays "java/lang/IndexOutOfBoundsException" "java/lang/Throwable" "detailMessage" "Ljava/lang/String;", .lays "java/lang/IndexOutOfBoundsException" "java/lang/Throwable" "backtrace" "Ljava/lang/Object;", .methodLink R_Lp 185 ⟨"java/lang/IndexOutOfBoundsException", "<init>", "(Ljava/lang/String;)V"⟩, .instanceMethod ⟨"java/lang/IndexOutOfBoundsException", "<init>", "(Ljava/lang/String;)V"⟩, .code ⟨"java/lang/IndexOutOfBoundsException", "<init>", "(Ljava/lang/String;)V"⟩ prog_11_method_2_code 2 none, .methodLink "java/lang/IndexOutOfBoundsException" 7 ⟨"java/lang/RuntimeException", "<init>", "(Ljava/lang/String;)V"⟩, .lays "java/lang/IndexOutOfBoundsException" "java/lang/Throwable" "depth" "I", .methodLink R_La 91 y_La_state, .static y_La_state, .codeWith y_La_state b_La_state 6 (some .int) [(0, 12, 15, 32)], .methodLink R_La 34 y_Lp_state, .instanceMethod y_Lp_state, .selects R_Lp y_Lp_state y_Lp_state, .code y_Lp_state b_Lp_state 4 (some .int), .methodLink R_Lp 188 y_Co_has, .methodLink R_Lp 195 y_Co_held, .instanceMethod y_Co_held, .selects R_Co y_Co_held y_Co_held, .code y_Co_held b_Co_held 3 (some .int), .methodLink R_La 98 y_La_quantised, .static y_La_quantised, .codeWith y_La_quantised b_La_quantised 4 (some .int) [(0, 9, 12, 23)], .methodLink R_La 38 y_Lp_quantised, .instanceMethod y_Lp_quantised]
def vU_8 : List Cond := [.selects R_Lp y_Lp_quantised y_Lp_quantised, .code y_Lp_quantised b_Lp_quantised 2 (some .int), .constant R_Lp 198 (-70000), .constant R_Lp 199 70000, .methodLink R_La 101 y_La_setting, .static y_La_setting, .codeWith y_La_setting b_La_setting 4 (some .int) [(0, 9, 12, 32)], .methodLink R_La 41 y_Lp_setting, .instanceMethod y_Lp_setting, .selects R_Lp y_Lp_setting y_Lp_setting, .code y_Lp_setting b_Lp_setting 2 (some .int), .classLink R_La 53 R_Mo, .instantiable R_Mo 33, .methodLink R_La 55 y_Mo_init, .instanceMethod y_Mo_init, .code y_Mo_init b_Mo_init 5 none, .methodLink R_Mo 1 objectInit, .constant R_Mo 13 131072, .constant R_Mo 49 65536, .methodLink R_Mo 50 y_Mo_brought, .static y_Mo_brought, .code y_Mo_brought b_Mo_brought 3 (some .int), .methodLink R_Mo 69 y_Mo_layThresholds, .instanceMethod y_Mo_layThresholds, .code y_Mo_layThresholds b_Mo_layThresholds 2 none, .methodLink R_Mo 84 y_Mo_greater, .static y_Mo_greater, .code y_Mo_greater b_Mo_greater 2 (some .int), .fieldLink R_Mo 72 "LinePredictModel" "code" "I", .fieldLink R_Mo 54 "LinePredictModel" "width" "I", .fieldLink R_Mo 57 "LinePredictModel" "max" "I", .fieldLink R_Mo 60 "LinePredictModel" "near" "I", .fieldLink R_Mo 63 "LinePredictModel" "step" "I", .fieldLink R_Mo 66 "LinePredictModel" "range" "I", .fieldLink R_Mo 75 "LinePredictModel" "first" "I", .fieldLink R_Mo 78 "LinePredictModel" "second" "I", .fieldLink R_Mo 81 "LinePredictModel" "third" "I", .fieldLink R_Mo 7 "LinePredictModel" "halving" "I", .fieldLink R_Mo 14 "LinePredictModel" "rows" "[I", .fieldLink R_Mo 18 "LinePredictModel" "aboves" "[I", .fieldLink R_Mo 21 "LinePredictModel" "corners" "[I", .fieldLink R_Mo 24 "LinePredictModel" "xs" "[I", .fieldLink R_Mo 27 "LinePredictModel" "ys" "[I", .fieldLink R_Mo 30 "LinePredictModel" "goingOn" "[Z", .fieldLink R_Mo 156 "LinePredictModel" "begun" "I", .fieldLink R_Mo 34 "LinePredictModel" "as" "[I", .fieldLink R_Mo 37 "LinePredictModel" "ns" "[I", .fieldLink R_Mo 40 "LinePredictModel" "bs" "[I", .fieldLink R_Mo 43 "LinePredictModel" "cs" "[I", .fieldLink R_Mo 95 "LinePredictModel" "a" "I", .fieldLink R_Mo 92 "LinePredictModel" "b" "I", .fieldLink R_Mo 98 "LinePredictModel" "c" "I", .fieldLink R_Mo 101 "LinePredictModel" "d" "I", .fieldLink R_Mo 108 "LinePredictModel" "inRun" "Z", .fieldLink R_Mo 115 "LinePredictModel" "where" "I", .fieldLink R_Mo 118 "LinePredictModel" "expected" "I", .fieldLink R_Mo 112 "LinePredictModel" "sign" "I", .fieldLink R_Mo 124 "LinePredictModel" "rebuilt" "I", .fieldLink R_Mo 46 "LinePredictModel" "last" "[I", .fieldLink R_Mo 127 "LinePredictModel" "lastContext" "I"]
def vU_9 : List Cond := [.fieldLink R_Mo 130 "LinePredictModel" "lastPredicted" "I", .lays R_Mo "LinePredictModel" "code" "I", .laysFinal R_Mo "LinePredictModel" "width" "I", .laysFinal R_Mo "LinePredictModel" "max" "I", .laysFinal R_Mo "LinePredictModel" "near" "I", .laysFinal R_Mo "LinePredictModel" "step" "I", .laysFinal R_Mo "LinePredictModel" "range" "I", .lays R_Mo "LinePredictModel" "first" "I", .lays R_Mo "LinePredictModel" "second" "I", .lays R_Mo "LinePredictModel" "third" "I", .lays R_Mo "LinePredictModel" "halving" "I", .laysFinal R_Mo "LinePredictModel" "rows" "[I", .laysFinal R_Mo "LinePredictModel" "aboves" "[I", .laysFinal R_Mo "LinePredictModel" "corners" "[I", .laysFinal R_Mo "LinePredictModel" "xs" "[I", .laysFinal R_Mo "LinePredictModel" "ys" "[I", .laysFinal R_Mo "LinePredictModel" "goingOn" "[Z", .lays R_Mo "LinePredictModel" "begun" "I", .laysFinal R_Mo "LinePredictModel" "as" "[I", .laysFinal R_Mo "LinePredictModel" "ns" "[I", .laysFinal R_Mo "LinePredictModel" "bs" "[I", .laysFinal R_Mo "LinePredictModel" "cs" "[I", .lays R_Mo "LinePredictModel" "a" "I", .lays R_Mo "LinePredictModel" "b" "I", .lays R_Mo "LinePredictModel" "c" "I", .lays R_Mo "LinePredictModel" "d" "I", .lays R_Mo "LinePredictModel" "inRun" "Z", .lays R_Mo "LinePredictModel" "where" "I", .lays R_Mo "LinePredictModel" "expected" "I", .lays R_Mo "LinePredictModel" "sign" "I", .lays R_Mo "LinePredictModel" "rebuilt" "I", .laysFinal R_Mo "LinePredictModel" "last" "[I", .lays R_Mo "LinePredictModel" "lastContext" "I", .lays R_Mo "LinePredictModel" "lastPredicted" "I", .arrayClass .boolean, .methodLink R_La 60 y_Mo_thrown, .instanceMethod y_Mo_thrown, .selects R_Mo y_Mo_thrown y_Mo_thrown, .code y_Mo_thrown b_Mo_thrown 1 (some .int), .methodLink R_La 59 y_Mo_thresholds, .instanceMethod y_Mo_thresholds, .selects R_Mo y_Mo_thresholds y_Mo_thresholds, .code y_Mo_thresholds b_Mo_thresholds 5 (some .boolean), .methodLink R_Mo 152 y_Mo_isFresh, .instanceMethod y_Mo_isFresh, .code y_Mo_isFresh b_Mo_isFresh 1 (some .boolean), .methodLink R_La 67 y_Mo_reset, .instanceMethod y_Mo_reset, .selects R_Mo y_Mo_reset y_Mo_reset, .code y_Mo_reset b_Mo_reset 2 (some .boolean), .methodLink R_La 71 y_Mo_sample, .instanceMethod y_Mo_sample, .selects R_Mo y_Mo_sample y_Mo_sample, .code y_Mo_sample b_Mo_sample 6 (some .int), .methodLink R_Mo 163 y_Mo_isTurn, .instanceMethod y_Mo_isTurn, .code y_Mo_isTurn b_Mo_isTurn 3 (some .boolean), .methodLink R_Mo 167 y_Mo_look, .instanceMethod y_Mo_look, .code y_Mo_look b_Mo_look 8 none]
def vU_10 : List Cond := [.methodLink R_Mo 104 y_Mo_isNear, .instanceMethod y_Mo_isNear, .code y_Mo_isNear b_Mo_isNear 2 (some .boolean), .methodLink R_Mo 88 y_Mo_size, .static y_Mo_size, .code y_Mo_size b_Mo_size 1 (some .int), .methodLink R_Mo 121 y_Mo_numberOf, .instanceMethod y_Mo_numberOf, .code y_Mo_numberOf b_Mo_numberOf 2 (some .int), .methodLink R_Mo 170 y_Mo_lay, .instanceMethod y_Mo_lay, .code y_Mo_lay b_Mo_lay 3 none, .methodLink R_Mo 159 y_Mo_noteLast, .instanceMethod y_Mo_noteLast, .code y_Mo_noteLast b_Mo_noteLast 3 none, .constant R_Mo 174 (-2147483648), .methodLink R_Mo 175 y_Mo_quantise, .instanceMethod y_Mo_quantise, .code y_Mo_quantise b_Mo_quantise 2 (some .int), .methodLink R_Mo 142 y_Mo_around, .instanceMethod y_Mo_around, .code y_Mo_around b_Mo_around 3 (some .int), .methodLink R_Mo 145 y_Mo_fold, .instanceMethod y_Mo_fold, .code y_Mo_fold b_Mo_fold 6 (some .int), .methodLink R_Mo 133 y_Mo_bitsOf, .instanceMethod y_Mo_bitsOf, .code y_Mo_bitsOf b_Mo_bitsOf 5 (some .int), .methodLink R_Mo 136 y_Mo_isEnd, .instanceMethod y_Mo_isEnd, .code y_Mo_isEnd b_Mo_isEnd 2 (some .boolean), .methodLink R_Mo 139 y_Mo_kindOf, .instanceMethod y_Mo_kindOf, .code y_Mo_kindOf b_Mo_kindOf 2 (some .int), .methodLink R_Mo 178 y_Mo_learn, .instanceMethod y_Mo_learn, .code y_Mo_learn b_Mo_learn 4 none, .methodLink R_Mo 148 y_Mo_halve, .instanceMethod y_Mo_halve, .code y_Mo_halve b_Mo_halve 2 none, .methodLink R_La 74 y_Mo_back, .instanceMethod y_Mo_back, .selects R_Mo y_Mo_back y_Mo_back, .code y_Mo_back b_Mo_back 7 (some .int), .methodLink R_Mo 182 y_Mo_unfold, .instanceMethod y_Mo_unfold, .code y_Mo_unfold b_Mo_unfold 6 (some .int), .methodLink R_La 79 y_Mo_endRow, .instanceMethod y_Mo_endRow, .selects R_Mo y_Mo_endRow y_Mo_endRow, .code y_Mo_endRow b_Mo_endRow 4 (some .boolean), .methodLink R_La 83 y_Mo_context, .instanceMethod y_Mo_context, .selects R_Mo y_Mo_context y_Mo_context, .code y_Mo_context b_Mo_context 1 (some .int), .methodLink R_La 87 y_Mo_predicted, .instanceMethod y_Mo_predicted, .selects R_Mo y_Mo_predicted y_Mo_predicted, .code y_Mo_predicted b_Mo_predicted 1 (some .int), .methodLink R_La 90 y_Mo_neighbour]
def vU_11 : List Cond := [.instanceMethod y_Mo_neighbour, .selects R_Mo y_Mo_neighbour y_Mo_neighbour, .code y_Mo_neighbour b_Mo_neighbour 2 (some .int), .methodLink R_La 93 y_Mo_state, .instanceMethod y_Mo_state, .selects R_Mo y_Mo_state y_Mo_state, .code y_Mo_state b_Mo_state 5 (some .int), .methodLink R_La 97 y_Mo_runs, .instanceMethod y_Mo_runs, .selects R_Mo y_Mo_runs y_Mo_runs, .code y_Mo_runs b_Mo_runs 1 (some .int), .methodLink R_La 100 y_Mo_quantised, .instanceMethod y_Mo_quantised, .selects R_Mo y_Mo_quantised y_Mo_quantised, .code y_Mo_quantised b_Mo_quantised 2 (some .int), .constant R_Mo 185 (-70000), .constant R_Mo 186 70000, .methodLink R_La 103 y_Mo_setting, .instanceMethod y_Mo_setting, .selects R_Mo y_Mo_setting y_Mo_setting, .code y_Mo_setting b_Mo_setting 2 (some .int), .arrayClass .long]
/-- all words that the methods use -/
def vU : List Cond := (vU_0 ++ (vU_1 ++ (vU_2 ++ (vU_3 ++ (vU_4 ++ (vU_5 ++ (vU_6 ++ (vU_7 ++ (vU_8 ++ (vU_9 ++ (vU_10 ++ vU_11)))))))))))
theorem vU_0_in : ∀ w ∈ vU_0, w ∈ vU := fun w h => List.mem_append_left _ h
theorem vU_1_in : ∀ w ∈ vU_1, w ∈ vU := fun w h => List.mem_append_right _ (List.mem_append_left _ h)
theorem vU_2_in : ∀ w ∈ vU_2, w ∈ vU := fun w h => List.mem_append_right _ (List.mem_append_right _ (List.mem_append_left _ h))
theorem vU_3_in : ∀ w ∈ vU_3, w ∈ vU := fun w h => List.mem_append_right _ (List.mem_append_right _ (List.mem_append_right _ (List.mem_append_left _ h)))
theorem vU_4_in : ∀ w ∈ vU_4, w ∈ vU := fun w h => List.mem_append_right _ (List.mem_append_right _ (List.mem_append_right _ (List.mem_append_right _ (List.mem_append_left _ h))))
theorem vU_5_in : ∀ w ∈ vU_5, w ∈ vU := fun w h => List.mem_append_right _ (List.mem_append_right _ (List.mem_append_right _ (List.mem_append_right _ (List.mem_append_right _ (List.mem_append_left _ h)))))
theorem vU_6_in : ∀ w ∈ vU_6, w ∈ vU := fun w h => List.mem_append_right _ (List.mem_append_right _ (List.mem_append_right _ (List.mem_append_right _ (List.mem_append_right _ (List.mem_append_right _ (List.mem_append_left _ h))))))
theorem vU_7_in : ∀ w ∈ vU_7, w ∈ vU := fun w h => List.mem_append_right _ (List.mem_append_right _ (List.mem_append_right _ (List.mem_append_right _ (List.mem_append_right _ (List.mem_append_right _ (List.mem_append_right _ (List.mem_append_left _ h)))))))
theorem vU_8_in : ∀ w ∈ vU_8, w ∈ vU := fun w h => List.mem_append_right _ (List.mem_append_right _ (List.mem_append_right _ (List.mem_append_right _ (List.mem_append_right _ (List.mem_append_right _ (List.mem_append_right _ (List.mem_append_right _ (List.mem_append_left _ h))))))))
theorem vU_9_in : ∀ w ∈ vU_9, w ∈ vU := fun w h => List.mem_append_right _ (List.mem_append_right _ (List.mem_append_right _ (List.mem_append_right _ (List.mem_append_right _ (List.mem_append_right _ (List.mem_append_right _ (List.mem_append_right _ (List.mem_append_right _ (List.mem_append_left _ h)))))))))
theorem vU_10_in : ∀ w ∈ vU_10, w ∈ vU := fun w h => List.mem_append_right _ (List.mem_append_right _ (List.mem_append_right _ (List.mem_append_right _ (List.mem_append_right _ (List.mem_append_right _ (List.mem_append_right _ (List.mem_append_right _ (List.mem_append_right _ (List.mem_append_right _ (List.mem_append_left _ h))))))))))
theorem vU_11_in : ∀ w ∈ vU_11, w ∈ vU := fun w h => List.mem_append_right _ (List.mem_append_right _ (List.mem_append_right _ (List.mem_append_right _ (List.mem_append_right _ (List.mem_append_right _ (List.mem_append_right _ (List.mem_append_right _ (List.mem_append_right _ (List.mem_append_right _ (List.mem_append_right _ (h)))))))))))
theorem hw_0 : (Cond.selects R_Sc y_Sc_setFirstThresholds y_Sc_setFirstThresholds : Cond) ∈ vU := vU_0_in _ (List.mem_of_getElem? (i := 0) rfl)
theorem hw_1 : (Cond.selects R_Sc y_Sc_thresholdOr y_Sc_thresholdOr : Cond) ∈ vU := vU_0_in _ (List.mem_of_getElem? (i := 1) rfl)
theorem hw_2 : (Cond.selects "java/lang/Throwable" ⟨"java/lang/Throwable", "fillInStackTrace", "(I)Ljava/lang/Throwable;"⟩ ⟨"java/lang/Throwable", "fillInStackTrace", "(I)Ljava/lang/Throwable;"⟩ : Cond) ∈ vU := vU_0_in _ (List.mem_of_getElem? (i := 2) rfl)
theorem hw_3 : (Cond.selects R_Si y_Si_rowAt y_Si_rowAt : Cond) ∈ vU := vU_0_in _ (List.mem_of_getElem? (i := 3) rfl)
theorem hw_4 : (Cond.selects R_Si y_Si_isFlatAround y_Si_isFlatAround : Cond) ∈ vU := vU_0_in _ (List.mem_of_getElem? (i := 4) rfl)
theorem hw_5 : (Cond.selects R_Ou y_Ou_median y_Ou_median : Cond) ∈ vU := vU_0_in _ (List.mem_of_getElem? (i := 5) rfl)
theorem hw_6 : (Cond.selects R_Lp y_Lp_tell y_Lp_tell : Cond) ∈ vU := vU_0_in _ (List.mem_of_getElem? (i := 6) rfl)
theorem hw_7 : (Cond.selects R_Co y_Co_turn y_Co_turn : Cond) ∈ vU := vU_0_in _ (List.mem_of_getElem? (i := 7) rfl)
theorem hw_8 : (Cond.selects R_Co y_Co_turnsAbove y_Co_turnsAbove : Cond) ∈ vU := vU_0_in _ (List.mem_of_getElem? (i := 8) rfl)
theorem hw_9 : (Cond.selects R_Co y_Co_exponentIsZero y_Co_exponentIsZero : Cond) ∈ vU := vU_0_in _ (List.mem_of_getElem? (i := 9) rfl)
theorem hw_10 : (Cond.selects R_Co y_Co_leansBelow y_Co_leansBelow : Cond) ∈ vU := vU_0_in _ (List.mem_of_getElem? (i := 10) rfl)
theorem hw_11 : (Cond.selects R_Co y_Co_learnEnd y_Co_learnEnd : Cond) ∈ vU := vU_0_in _ (List.mem_of_getElem? (i := 11) rfl)
theorem hw_12 : (Cond.selects R_Co y_Co_correct y_Co_correct : Cond) ∈ vU := vU_0_in _ (List.mem_of_getElem? (i := 12) rfl)
theorem hw_13 : (Cond.selects R_Co y_Co_unfoldEnd y_Co_unfoldEnd : Cond) ∈ vU := vU_0_in _ (List.mem_of_getElem? (i := 13) rfl)
theorem hw_14 : (Cond.selects R_Mo y_Mo_layThresholds y_Mo_layThresholds : Cond) ∈ vU := vU_0_in _ (List.mem_of_getElem? (i := 14) rfl)
theorem hw_15 : (Cond.selects R_Mo y_Mo_isFresh y_Mo_isFresh : Cond) ∈ vU := vU_0_in _ (List.mem_of_getElem? (i := 15) rfl)
theorem hw_16 : (Cond.selects R_Mo y_Mo_isTurn y_Mo_isTurn : Cond) ∈ vU := vU_0_in _ (List.mem_of_getElem? (i := 16) rfl)
theorem hw_17 : (Cond.selects R_Mo y_Mo_look y_Mo_look : Cond) ∈ vU := vU_0_in _ (List.mem_of_getElem? (i := 17) rfl)
theorem hw_18 : (Cond.selects R_Mo y_Mo_isNear y_Mo_isNear : Cond) ∈ vU := vU_0_in _ (List.mem_of_getElem? (i := 18) rfl)
theorem hw_19 : (Cond.selects R_Mo y_Mo_numberOf y_Mo_numberOf : Cond) ∈ vU := vU_0_in _ (List.mem_of_getElem? (i := 19) rfl)
theorem hw_20 : (Cond.selects R_Mo y_Mo_lay y_Mo_lay : Cond) ∈ vU := vU_0_in _ (List.mem_of_getElem? (i := 20) rfl)
theorem hw_21 : (Cond.selects R_Mo y_Mo_noteLast y_Mo_noteLast : Cond) ∈ vU := vU_0_in _ (List.mem_of_getElem? (i := 21) rfl)
theorem hw_22 : (Cond.selects R_Mo y_Mo_quantise y_Mo_quantise : Cond) ∈ vU := vU_0_in _ (List.mem_of_getElem? (i := 22) rfl)
theorem hw_23 : (Cond.selects R_Mo y_Mo_around y_Mo_around : Cond) ∈ vU := vU_0_in _ (List.mem_of_getElem? (i := 23) rfl)
theorem hw_24 : (Cond.selects R_Mo y_Mo_fold y_Mo_fold : Cond) ∈ vU := vU_0_in _ (List.mem_of_getElem? (i := 24) rfl)
theorem hw_25 : (Cond.selects R_Mo y_Mo_bitsOf y_Mo_bitsOf : Cond) ∈ vU := vU_0_in _ (List.mem_of_getElem? (i := 25) rfl)
theorem hw_26 : (Cond.selects R_Mo y_Mo_isEnd y_Mo_isEnd : Cond) ∈ vU := vU_0_in _ (List.mem_of_getElem? (i := 26) rfl)
theorem hw_27 : (Cond.selects R_Mo y_Mo_kindOf y_Mo_kindOf : Cond) ∈ vU := vU_0_in _ (List.mem_of_getElem? (i := 27) rfl)
theorem hw_28 : (Cond.selects R_Mo y_Mo_learn y_Mo_learn : Cond) ∈ vU := vU_0_in _ (List.mem_of_getElem? (i := 28) rfl)
theorem hw_29 : (Cond.selects R_Mo y_Mo_halve y_Mo_halve : Cond) ∈ vU := vU_0_in _ (List.mem_of_getElem? (i := 29) rfl)
theorem hw_30 : (Cond.selects R_Mo y_Mo_unfold y_Mo_unfold : Cond) ∈ vU := vU_0_in _ (List.mem_of_getElem? (i := 30) rfl)
theorem hw_31 : (Cond.initialized R_La : Cond) ∈ vU := vU_0_in _ (List.mem_of_getElem? (i := 31) rfl)
theorem hw_32 : (Cond.initialized R_Lp : Cond) ∈ vU := vU_0_in _ (List.mem_of_getElem? (i := 32) rfl)
theorem hw_33 : (Cond.initialized "java/lang/Math" : Cond) ∈ vU := vU_0_in _ (List.mem_of_getElem? (i := 33) rfl)
theorem hw_34 : (Cond.initialized R_Sc : Cond) ∈ vU := vU_0_in _ (List.mem_of_getElem? (i := 34) rfl)
theorem hw_35 : (Cond.initialized R_Si : Cond) ∈ vU := vU_0_in _ (List.mem_of_getElem? (i := 35) rfl)
theorem hw_36 : (Cond.initialized R_Co : Cond) ∈ vU := vU_0_in _ (List.mem_of_getElem? (i := 36) rfl)
theorem hw_37 : (Cond.initialized "java/util/Arrays" : Cond) ∈ vU := vU_0_in _ (List.mem_of_getElem? (i := 37) rfl)
theorem hw_38 : (Cond.initialized R_Ou : Cond) ∈ vU := vU_0_in _ (List.mem_of_getElem? (i := 38) rfl)
theorem hw_39 : (Cond.initialized R_Mo : Cond) ∈ vU := vU_0_in _ (List.mem_of_getElem? (i := 39) rfl)
theorem hw_40 : (Cond.initialized "java/lang/Throwable" : Cond) ∈ vU := vU_0_in _ (List.mem_of_getElem? (i := 40) rfl)
theorem hw_41 : (Cond.initialized "java/lang/Exception" : Cond) ∈ vU := vU_0_in _ (List.mem_of_getElem? (i := 41) rfl)
theorem hw_42 : (Cond.initialized "java/lang/RuntimeException" : Cond) ∈ vU := vU_0_in _ (List.mem_of_getElem? (i := 42) rfl)
theorem hw_43 : (Cond.initialized "java/lang/IllegalStateException" : Cond) ∈ vU := vU_0_in _ (List.mem_of_getElem? (i := 43) rfl)
theorem hw_44 : (Cond.initialized "java/lang/IllegalArgumentException" : Cond) ∈ vU := vU_0_in _ (List.mem_of_getElem? (i := 44) rfl)
theorem hw_45 : (Cond.initialized "java/lang/IndexOutOfBoundsException" : Cond) ∈ vU := vU_0_in _ (List.mem_of_getElem? (i := 45) rfl)
theorem hw_46 : (Cond.classLink R_La 8 R_Lp : Cond) ∈ vU := vU_0_in _ (List.mem_of_getElem? (i := 46) rfl)
theorem hw_47 : (Cond.instantiable R_Lp 7 : Cond) ∈ vU := vU_0_in _ (List.mem_of_getElem? (i := 47) rfl)
theorem hw_48 : (Cond.methodLink R_La 50 y_Lp_init : Cond) ∈ vU := vU_0_in _ (List.mem_of_getElem? (i := 48) rfl)
theorem hw_49 : (Cond.instanceMethod y_Lp_init : Cond) ∈ vU := vU_0_in _ (List.mem_of_getElem? (i := 49) rfl)
theorem hw_50 : (Cond.code y_Lp_init b_Lp_init 5 none : Cond) ∈ vU := vU_0_in _ (List.mem_of_getElem? (i := 50) rfl)
theorem hw_51 : (Cond.methodLink R_Lp 1 objectInit : Cond) ∈ vU := vU_0_in _ (List.mem_of_getElem? (i := 51) rfl)
theorem hw_52 : (Cond.instanceMethod objectInit : Cond) ∈ vU := vU_0_in _ (List.mem_of_getElem? (i := 52) rfl)
theorem hw_53 : (Cond.code objectInit ⟨#[0xb1]⟩ 1 none : Cond) ∈ vU := vU_0_in _ (List.mem_of_getElem? (i := 53) rfl)
theorem hw_54 : (Cond.constant R_Lp 7 65536 : Cond) ∈ vU := vU_0_in _ (List.mem_of_getElem? (i := 54) rfl)
theorem hw_55 : (Cond.methodLink R_Lp 8 y_Lp_within : Cond) ∈ vU := vU_0_in _ (List.mem_of_getElem? (i := 55) rfl)
theorem hw_56 : (Cond.static y_Lp_within : Cond) ∈ vU := vU_0_in _ (List.mem_of_getElem? (i := 56) rfl)
theorem hw_57 : (Cond.code y_Lp_within b_Lp_within 3 (some .int) : Cond) ∈ vU := vU_0_in _ (List.mem_of_getElem? (i := 57) rfl)
theorem hw_58 : (Cond.methodLink R_Lp 217 Lib.Math.min.name : Cond) ∈ vU := vU_0_in _ (List.mem_of_getElem? (i := 58) rfl)
theorem hw_59 : (Cond.static Lib.Math.min.name : Cond) ∈ vU := vU_0_in _ (List.mem_of_getElem? (i := 59) rfl)
theorem hw_60 : (Cond.code Lib.Math.min.name Lib.Math.min.code 2 (some .int) : Cond) ∈ vU := vU_1_in _ (List.mem_of_getElem? (i := 0) rfl)
theorem hw_61 : (Cond.methodLink R_Lp 220 Lib.Math.max.name : Cond) ∈ vU := vU_1_in _ (List.mem_of_getElem? (i := 1) rfl)
theorem hw_62 : (Cond.static Lib.Math.max.name : Cond) ∈ vU := vU_1_in _ (List.mem_of_getElem? (i := 2) rfl)
theorem hw_63 : (Cond.code Lib.Math.max.name Lib.Math.max.code 2 (some .int) : Cond) ∈ vU := vU_1_in _ (List.mem_of_getElem? (i := 3) rfl)
theorem hw_64 : (Cond.classLink R_Lp 14 R_Sc : Cond) ∈ vU := vU_1_in _ (List.mem_of_getElem? (i := 4) rfl)
theorem hw_65 : (Cond.instantiable R_Sc 8 : Cond) ∈ vU := vU_1_in _ (List.mem_of_getElem? (i := 5) rfl)
theorem hw_66 : (Cond.methodLink R_Lp 16 y_Sc_init : Cond) ∈ vU := vU_1_in _ (List.mem_of_getElem? (i := 6) rfl)
theorem hw_67 : (Cond.instanceMethod y_Sc_init : Cond) ∈ vU := vU_1_in _ (List.mem_of_getElem? (i := 7) rfl)
theorem hw_68 : (Cond.code y_Sc_init b_Sc_init 3 none : Cond) ∈ vU := vU_1_in _ (List.mem_of_getElem? (i := 8) rfl)
theorem hw_69 : (Cond.methodLink R_Sc 1 objectInit : Cond) ∈ vU := vU_1_in _ (List.mem_of_getElem? (i := 9) rfl)
theorem hw_70 : (Cond.methodLink R_Sc 19 Lib.Math.min.name : Cond) ∈ vU := vU_1_in _ (List.mem_of_getElem? (i := 10) rfl)
theorem hw_71 : (Cond.static y_Lp_divided : Cond) ∈ vU := vU_1_in _ (List.mem_of_getElem? (i := 11) rfl)
theorem hw_72 : (Cond.code y_Lp_divided b_Lp_divided 2 (some .int) : Cond) ∈ vU := vU_1_in _ (List.mem_of_getElem? (i := 12) rfl)
theorem hw_73 : (Cond.methodLink R_Sc 40 y_Sc_setFirstThresholds : Cond) ∈ vU := vU_1_in _ (List.mem_of_getElem? (i := 13) rfl)
theorem hw_74 : (Cond.instanceMethod y_Sc_setFirstThresholds : Cond) ∈ vU := vU_1_in _ (List.mem_of_getElem? (i := 14) rfl)
theorem hw_75 : (Cond.code y_Sc_setFirstThresholds b_Sc_setFirstThresholds 5 none : Cond) ∈ vU := vU_1_in _ (List.mem_of_getElem? (i := 15) rfl)
theorem hw_76 : (Cond.methodLink R_Sc 43 Lib.Math.max.name : Cond) ∈ vU := vU_1_in _ (List.mem_of_getElem? (i := 16) rfl)
theorem hw_77 : (Cond.methodLink R_Sc 45 y_Sc_thresholdOr : Cond) ∈ vU := vU_1_in _ (List.mem_of_getElem? (i := 17) rfl)
theorem hw_78 : (Cond.instanceMethod y_Sc_thresholdOr : Cond) ∈ vU := vU_1_in _ (List.mem_of_getElem? (i := 18) rfl)
theorem hw_79 : (Cond.code y_Sc_thresholdOr b_Sc_thresholdOr 3 (some .int) : Cond) ∈ vU := vU_1_in _ (List.mem_of_getElem? (i := 19) rfl)
theorem hw_80 : (Cond.fieldLink R_Sc 13 "LinePredict$Scale" "max" "I" : Cond) ∈ vU := vU_1_in _ (List.mem_of_getElem? (i := 20) rfl)
theorem hw_81 : (Cond.fieldLink R_Lp 63 "LinePredict$Scale" "max" "I" : Cond) ∈ vU := vU_1_in _ (List.mem_of_getElem? (i := 21) rfl)
theorem hw_82 : (Cond.fieldLink R_Sc 25 "LinePredict$Scale" "near" "I" : Cond) ∈ vU := vU_1_in _ (List.mem_of_getElem? (i := 22) rfl)
theorem hw_83 : (Cond.fieldLink R_Lp 60 "LinePredict$Scale" "near" "I" : Cond) ∈ vU := vU_1_in _ (List.mem_of_getElem? (i := 23) rfl)
theorem hw_84 : (Cond.fieldLink R_Co 92 "LinePredict$Scale" "near" "I" : Cond) ∈ vU := vU_1_in _ (List.mem_of_getElem? (i := 24) rfl)
theorem hw_85 : (Cond.fieldLink R_Sc 28 "LinePredict$Scale" "step" "I" : Cond) ∈ vU := vU_1_in _ (List.mem_of_getElem? (i := 25) rfl)
theorem hw_86 : (Cond.fieldLink R_Ou 64 "LinePredict$Scale" "step" "I" : Cond) ∈ vU := vU_1_in _ (List.mem_of_getElem? (i := 26) rfl)
theorem hw_87 : (Cond.fieldLink R_Co 76 "LinePredict$Scale" "step" "I" : Cond) ∈ vU := vU_1_in _ (List.mem_of_getElem? (i := 27) rfl)
theorem hw_88 : (Cond.fieldLink R_Co 28 "LinePredict$Scale" "range" "I" : Cond) ∈ vU := vU_1_in _ (List.mem_of_getElem? (i := 28) rfl)
theorem hw_89 : (Cond.fieldLink R_Sc 34 "LinePredict$Scale" "range" "I" : Cond) ∈ vU := vU_1_in _ (List.mem_of_getElem? (i := 29) rfl)
theorem hw_90 : (Cond.fieldLink R_Lp 150 "LinePredict$Scale" "range" "I" : Cond) ∈ vU := vU_1_in _ (List.mem_of_getElem? (i := 30) rfl)
theorem hw_91 : (Cond.fieldLink R_Lp 66 "LinePredict$Scale" "t1" "I" : Cond) ∈ vU := vU_1_in _ (List.mem_of_getElem? (i := 31) rfl)
theorem hw_92 : (Cond.fieldLink R_Sc 48 "LinePredict$Scale" "t1" "I" : Cond) ∈ vU := vU_1_in _ (List.mem_of_getElem? (i := 32) rfl)
theorem hw_93 : (Cond.fieldLink R_Lp 69 "LinePredict$Scale" "t2" "I" : Cond) ∈ vU := vU_1_in _ (List.mem_of_getElem? (i := 33) rfl)
theorem hw_94 : (Cond.fieldLink R_Sc 51 "LinePredict$Scale" "t2" "I" : Cond) ∈ vU := vU_1_in _ (List.mem_of_getElem? (i := 34) rfl)
theorem hw_95 : (Cond.fieldLink R_Lp 72 "LinePredict$Scale" "t3" "I" : Cond) ∈ vU := vU_1_in _ (List.mem_of_getElem? (i := 35) rfl)
theorem hw_96 : (Cond.fieldLink R_Sc 54 "LinePredict$Scale" "t3" "I" : Cond) ∈ vU := vU_1_in _ (List.mem_of_getElem? (i := 36) rfl)
theorem hw_97 : (Cond.fieldLink R_Sc 37 "LinePredict$Scale" "resetAt" "I" : Cond) ∈ vU := vU_1_in _ (List.mem_of_getElem? (i := 37) rfl)
theorem hw_98 : (Cond.fieldLink R_Lp 75 "LinePredict$Scale" "resetAt" "I" : Cond) ∈ vU := vU_1_in _ (List.mem_of_getElem? (i := 38) rfl)
theorem hw_99 : (Cond.fieldLink R_Co 79 "LinePredict$Scale" "resetAt" "I" : Cond) ∈ vU := vU_1_in _ (List.mem_of_getElem? (i := 39) rfl)
theorem hw_100 : (Cond.laysFinal R_Sc "LinePredict$Scale" "max" "I" : Cond) ∈ vU := vU_1_in _ (List.mem_of_getElem? (i := 40) rfl)
theorem hw_101 : (Cond.laysFinal R_Sc "LinePredict$Scale" "near" "I" : Cond) ∈ vU := vU_1_in _ (List.mem_of_getElem? (i := 41) rfl)
theorem hw_102 : (Cond.laysFinal R_Sc "LinePredict$Scale" "step" "I" : Cond) ∈ vU := vU_1_in _ (List.mem_of_getElem? (i := 42) rfl)
theorem hw_103 : (Cond.laysFinal R_Sc "LinePredict$Scale" "range" "I" : Cond) ∈ vU := vU_1_in _ (List.mem_of_getElem? (i := 43) rfl)
theorem hw_104 : (Cond.lays R_Sc "LinePredict$Scale" "t1" "I" : Cond) ∈ vU := vU_1_in _ (List.mem_of_getElem? (i := 44) rfl)
theorem hw_105 : (Cond.lays R_Sc "LinePredict$Scale" "t2" "I" : Cond) ∈ vU := vU_1_in _ (List.mem_of_getElem? (i := 45) rfl)
theorem hw_106 : (Cond.lays R_Sc "LinePredict$Scale" "t3" "I" : Cond) ∈ vU := vU_1_in _ (List.mem_of_getElem? (i := 46) rfl)
theorem hw_107 : (Cond.lays R_Sc "LinePredict$Scale" "resetAt" "I" : Cond) ∈ vU := vU_1_in _ (List.mem_of_getElem? (i := 47) rfl)
theorem hw_108 : (Cond.classLink R_Lp 23 R_Si : Cond) ∈ vU := vU_1_in _ (List.mem_of_getElem? (i := 48) rfl)
theorem hw_109 : (Cond.instantiable R_Si 9 : Cond) ∈ vU := vU_1_in _ (List.mem_of_getElem? (i := 49) rfl)
theorem hw_110 : (Cond.methodLink R_Lp 25 y_Si_init : Cond) ∈ vU := vU_1_in _ (List.mem_of_getElem? (i := 50) rfl)
theorem hw_111 : (Cond.instanceMethod y_Si_init : Cond) ∈ vU := vU_1_in _ (List.mem_of_getElem? (i := 51) rfl)
theorem hw_112 : (Cond.code y_Si_init b_Si_init 3 none : Cond) ∈ vU := vU_1_in _ (List.mem_of_getElem? (i := 52) rfl)
theorem hw_113 : (Cond.methodLink R_Si 1 objectInit : Cond) ∈ vU := vU_1_in _ (List.mem_of_getElem? (i := 53) rfl)
theorem hw_114 : (Cond.classLink R_Si 17 R_Co : Cond) ∈ vU := vU_1_in _ (List.mem_of_getElem? (i := 54) rfl)
theorem hw_115 : (Cond.instantiable R_Co 5 : Cond) ∈ vU := vU_1_in _ (List.mem_of_getElem? (i := 55) rfl)
theorem hw_116 : (Cond.methodLink R_Si 19 y_Co_init : Cond) ∈ vU := vU_1_in _ (List.mem_of_getElem? (i := 56) rfl)
theorem hw_117 : (Cond.instanceMethod y_Co_init : Cond) ∈ vU := vU_1_in _ (List.mem_of_getElem? (i := 57) rfl)
theorem hw_118 : (Cond.code y_Co_init b_Co_init 2 none : Cond) ∈ vU := vU_1_in _ (List.mem_of_getElem? (i := 58) rfl)
theorem hw_119 : (Cond.methodLink R_Co 3 objectInit : Cond) ∈ vU := vU_1_in _ (List.mem_of_getElem? (i := 59) rfl)
theorem hw_120 : (Cond.methodLink R_Co 34 Lib.Math.max.name : Cond) ∈ vU := vU_2_in _ (List.mem_of_getElem? (i := 0) rfl)
theorem hw_121 : (Cond.methodLink R_Co 40 y_Ar_fill : Cond) ∈ vU := vU_2_in _ (List.mem_of_getElem? (i := 1) rfl)
theorem hw_122 : (Cond.static y_Ar_fill : Cond) ∈ vU := vU_2_in _ (List.mem_of_getElem? (i := 2) rfl)
theorem hw_123 : (Cond.code y_Ar_fill b_Ar_fill 4 none : Cond) ∈ vU := vU_2_in _ (List.mem_of_getElem? (i := 3) rfl)
theorem hw_124 : (Cond.fieldLink R_Co 9 "LinePredict$Contexts" "scale" "LLinePredict$Scale;" : Cond) ∈ vU := vU_2_in _ (List.mem_of_getElem? (i := 4) rfl)
theorem hw_125 : (Cond.fieldLink R_Co 15 "LinePredict$Contexts" "sizes" "[I" : Cond) ∈ vU := vU_2_in _ (List.mem_of_getElem? (i := 5) rfl)
theorem hw_126 : (Cond.fieldLink R_Co 19 "LinePredict$Contexts" "leanings" "[I" : Cond) ∈ vU := vU_2_in _ (List.mem_of_getElem? (i := 6) rfl)
theorem hw_127 : (Cond.fieldLink R_Co 22 "LinePredict$Contexts" "corrections" "[I" : Cond) ∈ vU := vU_2_in _ (List.mem_of_getElem? (i := 7) rfl)
theorem hw_128 : (Cond.fieldLink R_Co 25 "LinePredict$Contexts" "counts" "[I" : Cond) ∈ vU := vU_2_in _ (List.mem_of_getElem? (i := 8) rfl)
theorem hw_129 : (Cond.laysFinal R_Co "LinePredict$Contexts" "scale" "LLinePredict$Scale;" : Cond) ∈ vU := vU_2_in _ (List.mem_of_getElem? (i := 9) rfl)
theorem hw_130 : (Cond.laysFinal R_Co "LinePredict$Contexts" "sizes" "[I" : Cond) ∈ vU := vU_2_in _ (List.mem_of_getElem? (i := 10) rfl)
theorem hw_131 : (Cond.laysFinal R_Co "LinePredict$Contexts" "leanings" "[I" : Cond) ∈ vU := vU_2_in _ (List.mem_of_getElem? (i := 11) rfl)
theorem hw_132 : (Cond.laysFinal R_Co "LinePredict$Contexts" "corrections" "[I" : Cond) ∈ vU := vU_2_in _ (List.mem_of_getElem? (i := 12) rfl)
theorem hw_133 : (Cond.laysFinal R_Co "LinePredict$Contexts" "counts" "[I" : Cond) ∈ vU := vU_2_in _ (List.mem_of_getElem? (i := 13) rfl)
theorem hw_134 : (Cond.arrayClass .int : Cond) ∈ vU := vU_2_in _ (List.mem_of_getElem? (i := 14) rfl)
theorem hw_135 : (Cond.methodLink R_Si 26 Lib.Math.min.name : Cond) ∈ vU := vU_2_in _ (List.mem_of_getElem? (i := 15) rfl)
theorem hw_136 : (Cond.methodLink R_Si 32 Lib.Math.max.name : Cond) ∈ vU := vU_2_in _ (List.mem_of_getElem? (i := 16) rfl)
theorem hw_137 : (Cond.fieldLink R_Si 22 "LinePredict$Side" "contexts" "LLinePredict$Contexts;" : Cond) ∈ vU := vU_2_in _ (List.mem_of_getElem? (i := 17) rfl)
theorem hw_138 : (Cond.fieldLink R_Lp 126 "LinePredict$Side" "contexts" "LLinePredict$Contexts;" : Cond) ∈ vU := vU_2_in _ (List.mem_of_getElem? (i := 18) rfl)
theorem hw_139 : (Cond.fieldLink R_Si 13 "LinePredict$Side" "scale" "LLinePredict$Scale;" : Cond) ∈ vU := vU_2_in _ (List.mem_of_getElem? (i := 19) rfl)
theorem hw_140 : (Cond.fieldLink R_Si 7 "LinePredict$Side" "width" "I" : Cond) ∈ vU := vU_2_in _ (List.mem_of_getElem? (i := 20) rfl)
theorem hw_141 : (Cond.fieldLink R_Si 39 "LinePredict$Side" "place" "I" : Cond) ∈ vU := vU_2_in _ (List.mem_of_getElem? (i := 21) rfl)
theorem hw_142 : (Cond.fieldLink R_Lp 202 "LinePredict$Side" "place" "I" : Cond) ∈ vU := vU_2_in _ (List.mem_of_getElem? (i := 22) rfl)
theorem hw_143 : (Cond.fieldLink R_Si 42 "LinePredict$Side" "line" "I" : Cond) ∈ vU := vU_2_in _ (List.mem_of_getElem? (i := 23) rfl)
theorem hw_144 : (Cond.fieldLink R_Lp 205 "LinePredict$Side" "line" "I" : Cond) ∈ vU := vU_2_in _ (List.mem_of_getElem? (i := 24) rfl)
theorem hw_145 : (Cond.fieldLink R_Si 45 "LinePredict$Side" "running" "Z" : Cond) ∈ vU := vU_2_in _ (List.mem_of_getElem? (i := 25) rfl)
theorem hw_146 : (Cond.fieldLink R_Lp 210 "LinePredict$Side" "running" "Z" : Cond) ∈ vU := vU_2_in _ (List.mem_of_getElem? (i := 26) rfl)
theorem hw_147 : (Cond.fieldLink R_Si 35 "LinePredict$Side" "row" "[I" : Cond) ∈ vU := vU_2_in _ (List.mem_of_getElem? (i := 27) rfl)
theorem hw_148 : (Cond.fieldLink R_Si 49 "LinePredict$Side" "corner" "I" : Cond) ∈ vU := vU_2_in _ (List.mem_of_getElem? (i := 28) rfl)
theorem hw_149 : (Cond.fieldLink R_Si 52 "LinePredict$Side" "aboveFirst" "I" : Cond) ∈ vU := vU_2_in _ (List.mem_of_getElem? (i := 29) rfl)
theorem hw_150 : (Cond.laysFinal R_Si "LinePredict$Side" "contexts" "LLinePredict$Contexts;" : Cond) ∈ vU := vU_2_in _ (List.mem_of_getElem? (i := 30) rfl)
theorem hw_151 : (Cond.laysFinal R_Si "LinePredict$Side" "scale" "LLinePredict$Scale;" : Cond) ∈ vU := vU_2_in _ (List.mem_of_getElem? (i := 31) rfl)
theorem hw_152 : (Cond.laysFinal R_Si "LinePredict$Side" "width" "I" : Cond) ∈ vU := vU_2_in _ (List.mem_of_getElem? (i := 32) rfl)
theorem hw_153 : (Cond.lays R_Si "LinePredict$Side" "place" "I" : Cond) ∈ vU := vU_2_in _ (List.mem_of_getElem? (i := 33) rfl)
theorem hw_154 : (Cond.lays R_Si "LinePredict$Side" "line" "I" : Cond) ∈ vU := vU_2_in _ (List.mem_of_getElem? (i := 34) rfl)
theorem hw_155 : (Cond.lays R_Si "LinePredict$Side" "running" "Z" : Cond) ∈ vU := vU_2_in _ (List.mem_of_getElem? (i := 35) rfl)
theorem hw_156 : (Cond.laysFinal R_Si "LinePredict$Side" "row" "[I" : Cond) ∈ vU := vU_2_in _ (List.mem_of_getElem? (i := 36) rfl)
theorem hw_157 : (Cond.lays R_Si "LinePredict$Side" "corner" "I" : Cond) ∈ vU := vU_2_in _ (List.mem_of_getElem? (i := 37) rfl)
theorem hw_158 : (Cond.lays R_Si "LinePredict$Side" "aboveFirst" "I" : Cond) ∈ vU := vU_2_in _ (List.mem_of_getElem? (i := 38) rfl)
theorem hw_159 : (Cond.classLink R_Lp 35 R_Ou : Cond) ∈ vU := vU_2_in _ (List.mem_of_getElem? (i := 39) rfl)
theorem hw_160 : (Cond.instantiable R_Ou 9 : Cond) ∈ vU := vU_2_in _ (List.mem_of_getElem? (i := 40) rfl)
theorem hw_161 : (Cond.instanceMethod y_Ou_init : Cond) ∈ vU := vU_2_in _ (List.mem_of_getElem? (i := 41) rfl)
theorem hw_162 : (Cond.code y_Ou_init b_Ou_init 1 none : Cond) ∈ vU := vU_2_in _ (List.mem_of_getElem? (i := 42) rfl)
theorem hw_163 : (Cond.methodLink R_Ou 3 objectInit : Cond) ∈ vU := vU_2_in _ (List.mem_of_getElem? (i := 43) rfl)
theorem hw_164 : (Cond.fieldLink R_Ou 18 "LinePredict$Outlook" "a" "I" : Cond) ∈ vU := vU_2_in _ (List.mem_of_getElem? (i := 44) rfl)
theorem hw_165 : (Cond.fieldLink R_Si 64 "LinePredict$Outlook" "a" "I" : Cond) ∈ vU := vU_2_in _ (List.mem_of_getElem? (i := 45) rfl)
theorem hw_166 : (Cond.fieldLink R_Lp 96 "LinePredict$Outlook" "a" "I" : Cond) ∈ vU := vU_2_in _ (List.mem_of_getElem? (i := 46) rfl)
theorem hw_167 : (Cond.fieldLink R_Ou 24 "LinePredict$Outlook" "b" "I" : Cond) ∈ vU := vU_2_in _ (List.mem_of_getElem? (i := 47) rfl)
theorem hw_168 : (Cond.fieldLink R_Si 59 "LinePredict$Outlook" "b" "I" : Cond) ∈ vU := vU_2_in _ (List.mem_of_getElem? (i := 48) rfl)
theorem hw_169 : (Cond.fieldLink R_Lp 169 "LinePredict$Outlook" "b" "I" : Cond) ∈ vU := vU_2_in _ (List.mem_of_getElem? (i := 49) rfl)
theorem hw_170 : (Cond.fieldLink R_Si 67 "LinePredict$Outlook" "c" "I" : Cond) ∈ vU := vU_2_in _ (List.mem_of_getElem? (i := 50) rfl)
theorem hw_171 : (Cond.fieldLink R_Ou 40 "LinePredict$Outlook" "c" "I" : Cond) ∈ vU := vU_2_in _ (List.mem_of_getElem? (i := 51) rfl)
theorem hw_172 : (Cond.fieldLink R_Lp 172 "LinePredict$Outlook" "c" "I" : Cond) ∈ vU := vU_2_in _ (List.mem_of_getElem? (i := 52) rfl)
theorem hw_173 : (Cond.fieldLink R_Si 70 "LinePredict$Outlook" "d" "I" : Cond) ∈ vU := vU_2_in _ (List.mem_of_getElem? (i := 53) rfl)
theorem hw_174 : (Cond.fieldLink R_Ou 33 "LinePredict$Outlook" "d" "I" : Cond) ∈ vU := vU_2_in _ (List.mem_of_getElem? (i := 54) rfl)
theorem hw_175 : (Cond.fieldLink R_Lp 175 "LinePredict$Outlook" "d" "I" : Cond) ∈ vU := vU_2_in _ (List.mem_of_getElem? (i := 55) rfl)
theorem hw_176 : (Cond.fieldLink R_Si 77 "LinePredict$Outlook" "ofRun" "Z" : Cond) ∈ vU := vU_2_in _ (List.mem_of_getElem? (i := 56) rfl)
theorem hw_177 : (Cond.fieldLink R_Lp 93 "LinePredict$Outlook" "ofRun" "Z" : Cond) ∈ vU := vU_2_in _ (List.mem_of_getElem? (i := 57) rfl)
theorem hw_178 : (Cond.fieldLink R_Ou 9 "LinePredict$Outlook" "number" "I" : Cond) ∈ vU := vU_2_in _ (List.mem_of_getElem? (i := 58) rfl)
theorem hw_179 : (Cond.fieldLink R_Lp 130 "LinePredict$Outlook" "number" "I" : Cond) ∈ vU := vU_2_in _ (List.mem_of_getElem? (i := 59) rfl)
theorem hw_180 : (Cond.fieldLink R_Ou 15 "LinePredict$Outlook" "sign" "I" : Cond) ∈ vU := vU_3_in _ (List.mem_of_getElem? (i := 0) rfl)
theorem hw_181 : (Cond.fieldLink R_Lp 114 "LinePredict$Outlook" "sign" "I" : Cond) ∈ vU := vU_3_in _ (List.mem_of_getElem? (i := 1) rfl)
theorem hw_182 : (Cond.fieldLink R_Ou 21 "LinePredict$Outlook" "expected" "I" : Cond) ∈ vU := vU_3_in _ (List.mem_of_getElem? (i := 2) rfl)
theorem hw_183 : (Cond.fieldLink R_Lp 117 "LinePredict$Outlook" "expected" "I" : Cond) ∈ vU := vU_3_in _ (List.mem_of_getElem? (i := 3) rfl)
theorem hw_184 : (Cond.fieldLink R_Lp 178 "LinePredict$Outlook" "rebuilt" "I" : Cond) ∈ vU := vU_3_in _ (List.mem_of_getElem? (i := 4) rfl)
theorem hw_185 : (Cond.lays R_Ou "LinePredict$Outlook" "a" "I" : Cond) ∈ vU := vU_3_in _ (List.mem_of_getElem? (i := 5) rfl)
theorem hw_186 : (Cond.lays R_Ou "LinePredict$Outlook" "b" "I" : Cond) ∈ vU := vU_3_in _ (List.mem_of_getElem? (i := 6) rfl)
theorem hw_187 : (Cond.lays R_Ou "LinePredict$Outlook" "c" "I" : Cond) ∈ vU := vU_3_in _ (List.mem_of_getElem? (i := 7) rfl)
theorem hw_188 : (Cond.lays R_Ou "LinePredict$Outlook" "d" "I" : Cond) ∈ vU := vU_3_in _ (List.mem_of_getElem? (i := 8) rfl)
theorem hw_189 : (Cond.lays R_Ou "LinePredict$Outlook" "ofRun" "Z" : Cond) ∈ vU := vU_3_in _ (List.mem_of_getElem? (i := 9) rfl)
theorem hw_190 : (Cond.lays R_Ou "LinePredict$Outlook" "number" "I" : Cond) ∈ vU := vU_3_in _ (List.mem_of_getElem? (i := 10) rfl)
theorem hw_191 : (Cond.lays R_Ou "LinePredict$Outlook" "sign" "I" : Cond) ∈ vU := vU_3_in _ (List.mem_of_getElem? (i := 11) rfl)
theorem hw_192 : (Cond.lays R_Ou "LinePredict$Outlook" "expected" "I" : Cond) ∈ vU := vU_3_in _ (List.mem_of_getElem? (i := 12) rfl)
theorem hw_193 : (Cond.lays R_Ou "LinePredict$Outlook" "rebuilt" "I" : Cond) ∈ vU := vU_3_in _ (List.mem_of_getElem? (i := 13) rfl)
theorem hw_194 : (Cond.fieldLink R_Lp 19 "LinePredict" "scale" "LLinePredict$Scale;" : Cond) ∈ vU := vU_3_in _ (List.mem_of_getElem? (i := 14) rfl)
theorem hw_195 : (Cond.fieldLink R_Lp 28 "LinePredict" "coder" "LLinePredict$Side;" : Cond) ∈ vU := vU_3_in _ (List.mem_of_getElem? (i := 15) rfl)
theorem hw_196 : (Cond.fieldLink R_Lp 32 "LinePredict" "decoder" "LLinePredict$Side;" : Cond) ∈ vU := vU_3_in _ (List.mem_of_getElem? (i := 16) rfl)
theorem hw_197 : (Cond.fieldLink R_Lp 38 "LinePredict" "last" "LLinePredict$Outlook;" : Cond) ∈ vU := vU_3_in _ (List.mem_of_getElem? (i := 17) rfl)
theorem hw_198 : (Cond.fieldLink R_Lp 42 "LinePredict" "spare" "LLinePredict$Outlook;" : Cond) ∈ vU := vU_3_in _ (List.mem_of_getElem? (i := 18) rfl)
theorem hw_199 : (Cond.fieldLink R_Lp 45 "LinePredict" "runsBegun" "I" : Cond) ∈ vU := vU_3_in _ (List.mem_of_getElem? (i := 19) rfl)
theorem hw_200 : (Cond.fieldLink R_Lp 49 "LinePredict" "anyTold" "Z" : Cond) ∈ vU := vU_3_in _ (List.mem_of_getElem? (i := 20) rfl)
theorem hw_201 : (Cond.laysFinal R_Lp "LinePredict" "scale" "LLinePredict$Scale;" : Cond) ∈ vU := vU_3_in _ (List.mem_of_getElem? (i := 21) rfl)
theorem hw_202 : (Cond.laysFinal R_Lp "LinePredict" "coder" "LLinePredict$Side;" : Cond) ∈ vU := vU_3_in _ (List.mem_of_getElem? (i := 22) rfl)
theorem hw_203 : (Cond.laysFinal R_Lp "LinePredict" "decoder" "LLinePredict$Side;" : Cond) ∈ vU := vU_3_in _ (List.mem_of_getElem? (i := 23) rfl)
theorem hw_204 : (Cond.lays R_Lp "LinePredict" "last" "LLinePredict$Outlook;" : Cond) ∈ vU := vU_3_in _ (List.mem_of_getElem? (i := 24) rfl)
theorem hw_205 : (Cond.lays R_Lp "LinePredict" "spare" "LLinePredict$Outlook;" : Cond) ∈ vU := vU_3_in _ (List.mem_of_getElem? (i := 25) rfl)
theorem hw_206 : (Cond.lays R_Lp "LinePredict" "runsBegun" "I" : Cond) ∈ vU := vU_3_in _ (List.mem_of_getElem? (i := 26) rfl)
theorem hw_207 : (Cond.lays R_Lp "LinePredict" "anyTold" "Z" : Cond) ∈ vU := vU_3_in _ (List.mem_of_getElem? (i := 27) rfl)
theorem hw_208 : (Cond.methodLink R_La 75 y_Lp_endRow : Cond) ∈ vU := vU_3_in _ (List.mem_of_getElem? (i := 28) rfl)
theorem hw_209 : (Cond.instanceMethod y_Lp_endRow : Cond) ∈ vU := vU_3_in _ (List.mem_of_getElem? (i := 29) rfl)
theorem hw_210 : (Cond.selects R_Lp y_Lp_endRow y_Lp_endRow : Cond) ∈ vU := vU_3_in _ (List.mem_of_getElem? (i := 30) rfl)
theorem hw_211 : (Cond.code y_Lp_endRow b_Lp_endRow 3 (some .boolean) : Cond) ∈ vU := vU_3_in _ (List.mem_of_getElem? (i := 31) rfl)
theorem hw_212 : (Cond.methodLink R_Lp 165 y_Si_goToNextRow : Cond) ∈ vU := vU_3_in _ (List.mem_of_getElem? (i := 32) rfl)
theorem hw_213 : (Cond.instanceMethod y_Si_goToNextRow : Cond) ∈ vU := vU_3_in _ (List.mem_of_getElem? (i := 33) rfl)
theorem hw_214 : (Cond.selects R_Si y_Si_goToNextRow y_Si_goToNextRow : Cond) ∈ vU := vU_3_in _ (List.mem_of_getElem? (i := 34) rfl)
theorem hw_215 : (Cond.code y_Si_goToNextRow b_Si_goToNextRow 1 (some .boolean) : Cond) ∈ vU := vU_3_in _ (List.mem_of_getElem? (i := 35) rfl)
theorem hw_216 : (Cond.methodLink R_La 80 y_Lp_context : Cond) ∈ vU := vU_3_in _ (List.mem_of_getElem? (i := 36) rfl)
theorem hw_217 : (Cond.instanceMethod y_Lp_context : Cond) ∈ vU := vU_3_in _ (List.mem_of_getElem? (i := 37) rfl)
theorem hw_218 : (Cond.selects R_Lp y_Lp_context y_Lp_context : Cond) ∈ vU := vU_3_in _ (List.mem_of_getElem? (i := 38) rfl)
theorem hw_219 : (Cond.code y_Lp_context b_Lp_context 1 (some .int) : Cond) ∈ vU := vU_3_in _ (List.mem_of_getElem? (i := 39) rfl)
theorem hw_220 : (Cond.methodLink R_La 84 y_Lp_predicted : Cond) ∈ vU := vU_3_in _ (List.mem_of_getElem? (i := 40) rfl)
theorem hw_221 : (Cond.instanceMethod y_Lp_predicted : Cond) ∈ vU := vU_3_in _ (List.mem_of_getElem? (i := 41) rfl)
theorem hw_222 : (Cond.selects R_Lp y_Lp_predicted y_Lp_predicted : Cond) ∈ vU := vU_3_in _ (List.mem_of_getElem? (i := 42) rfl)
theorem hw_223 : (Cond.code y_Lp_predicted b_Lp_predicted 1 (some .int) : Cond) ∈ vU := vU_3_in _ (List.mem_of_getElem? (i := 43) rfl)
theorem hw_224 : (Cond.methodLink R_La 94 y_Lp_runs : Cond) ∈ vU := vU_3_in _ (List.mem_of_getElem? (i := 44) rfl)
theorem hw_225 : (Cond.instanceMethod y_Lp_runs : Cond) ∈ vU := vU_3_in _ (List.mem_of_getElem? (i := 45) rfl)
theorem hw_226 : (Cond.selects R_Lp y_Lp_runs y_Lp_runs : Cond) ∈ vU := vU_3_in _ (List.mem_of_getElem? (i := 46) rfl)
theorem hw_227 : (Cond.code y_Lp_runs b_Lp_runs 1 (some .int) : Cond) ∈ vU := vU_3_in _ (List.mem_of_getElem? (i := 47) rfl)
theorem hw_228 : (Cond.methodLink R_La 44 y_La_cell : Cond) ∈ vU := vU_3_in _ (List.mem_of_getElem? (i := 48) rfl)
theorem hw_229 : (Cond.static y_La_cell : Cond) ∈ vU := vU_3_in _ (List.mem_of_getElem? (i := 49) rfl)
theorem hw_230 : (Cond.code y_La_cell b_La_cell 2 (some .int) : Cond) ∈ vU := vU_3_in _ (List.mem_of_getElem? (i := 50) rfl)
theorem hw_231 : (Cond.methodLink R_La 56 y_La_thresholds : Cond) ∈ vU := vU_3_in _ (List.mem_of_getElem? (i := 51) rfl)
theorem hw_232 : (Cond.static y_La_thresholds : Cond) ∈ vU := vU_3_in _ (List.mem_of_getElem? (i := 52) rfl)
theorem hw_233 : (Cond.codeWith y_La_thresholds b_La_thresholds 6 (some .int) [(0, 19, 22, 13)] : Cond) ∈ vU := vU_3_in _ (List.mem_of_getElem? (i := 53) rfl)
theorem hw_234 : (Cond.classLink R_La 13 "java/lang/IllegalStateException" : Cond) ∈ vU := vU_3_in _ (List.mem_of_getElem? (i := 54) rfl)
theorem hw_235 : (Cond.methodLink R_La 7 y_Lp_thresholds : Cond) ∈ vU := vU_3_in _ (List.mem_of_getElem? (i := 55) rfl)
theorem hw_236 : (Cond.instanceMethod y_Lp_thresholds : Cond) ∈ vU := vU_3_in _ (List.mem_of_getElem? (i := 56) rfl)
theorem hw_237 : (Cond.selects R_Lp y_Lp_thresholds y_Lp_thresholds : Cond) ∈ vU := vU_3_in _ (List.mem_of_getElem? (i := 57) rfl)
theorem hw_238 : (Cond.code y_Lp_thresholds b_Lp_thresholds 4 (some .boolean) : Cond) ∈ vU := vU_3_in _ (List.mem_of_getElem? (i := 58) rfl)
theorem hw_239 : (Cond.classLink R_Lp 53 "java/lang/IllegalStateException" : Cond) ∈ vU := vU_3_in _ (List.mem_of_getElem? (i := 59) rfl)
theorem hw_240 : (Cond.instantiable "java/lang/IllegalStateException" 6 : Cond) ∈ vU := vU_4_in _ (List.mem_of_getElem? (i := 0) rfl)
theorem hw_241 : (Cond.selects "java/lang/IllegalStateException" ⟨"java/lang/Throwable", "fillInStackTrace", "(I)Ljava/lang/Throwable;"⟩ ⟨"java/lang/Throwable", "fillInStackTrace", "(I)Ljava/lang/Throwable;"⟩ : Cond) ∈ vU := vU_4_in _ (List.mem_of_getElem? (i := 1) rfl)
theorem hw_242 : (Cond.selects "java/lang/IllegalStateException" ⟨"java/lang/Throwable", "fillInStackTrace", "()Ljava/lang/Throwable;"⟩ ⟨"java/lang/Throwable", "fillInStackTrace", "()Ljava/lang/Throwable;"⟩ : Cond) ∈ vU := vU_4_in _ (List.mem_of_getElem? (i := 2) rfl)
theorem hw_243 : (Cond.lays "java/lang/IllegalStateException" "java/lang/Throwable" "cause" "Ljava/lang/Throwable;" : Cond) ∈ vU := vU_4_in _ (List.mem_of_getElem? (i := 3) rfl)
theorem hw_244 : (Cond.lays "java/lang/Throwable" "java/lang/Throwable" "cause" "Ljava/lang/Throwable;" : Cond) ∈ vU := vU_4_in _ (List.mem_of_getElem? (i := 4) rfl)
theorem hw_245 : (Cond.lays "java/lang/IllegalStateException" "java/lang/Throwable" "stackTrace" "[Ljava/lang/StackTraceElement;" : Cond) ∈ vU := vU_4_in _ (List.mem_of_getElem? (i := 5) rfl)
theorem hw_246 : (Cond.lays "java/lang/Throwable" "java/lang/Throwable" "stackTrace" "[Ljava/lang/StackTraceElement;" : Cond) ∈ vU := vU_4_in _ (List.mem_of_getElem? (i := 6) rfl)
theorem hw_247 : (Cond.lays "java/lang/IllegalStateException" "java/lang/Throwable" "suppressedExceptions" "Ljava/util/List;" : Cond) ∈ vU := vU_4_in _ (List.mem_of_getElem? (i := 7) rfl)
theorem hw_248 : (Cond.lays "java/lang/Throwable" "java/lang/Throwable" "suppressedExceptions" "Ljava/util/List;" : Cond) ∈ vU := vU_4_in _ (List.mem_of_getElem? (i := 8) rfl)
theorem hw_249 : (Cond.lays "java/lang/IllegalStateException" "java/lang/Throwable" "detailMessage" "Ljava/lang/String;" : Cond) ∈ vU := vU_4_in _ (List.mem_of_getElem? (i := 9) rfl)
theorem hw_250 : (Cond.lays "java/lang/Throwable" "java/lang/Throwable" "detailMessage" "Ljava/lang/String;" : Cond) ∈ vU := vU_4_in _ (List.mem_of_getElem? (i := 10) rfl)
theorem hw_251 : (Cond.lays "java/lang/IllegalStateException" "java/lang/Throwable" "backtrace" "Ljava/lang/Object;" : Cond) ∈ vU := vU_4_in _ (List.mem_of_getElem? (i := 11) rfl)
theorem hw_252 : (Cond.lays "java/lang/Throwable" "java/lang/Throwable" "backtrace" "Ljava/lang/Object;" : Cond) ∈ vU := vU_4_in _ (List.mem_of_getElem? (i := 12) rfl)
theorem hw_253 : (Cond.fieldLink "java/lang/Throwable" 198 "java/lang/Throwable" "backtrace" "Ljava/lang/Object;" : Cond) ∈ vU := vU_4_in _ (List.mem_of_getElem? (i := 13) rfl)
theorem hw_254 : (Cond.instanceMethod ⟨"java/lang/Throwable", "<init>", "()V"⟩ : Cond) ∈ vU := vU_4_in _ (List.mem_of_getElem? (i := 14) rfl)
theorem hw_255 : (Cond.code ⟨"java/lang/Throwable", "<init>", "()V"⟩ prog_15_method_1_code 1 none : Cond) ∈ vU := vU_4_in _ (List.mem_of_getElem? (i := 15) rfl)
theorem hw_256 : (Cond.methodLink "java/lang/Throwable" 1 objectInit : Cond) ∈ vU := vU_4_in _ (List.mem_of_getElem? (i := 16) rfl)
theorem hw_257 : (Cond.fieldLink "java/lang/Throwable" 13 "java/lang/Throwable" "UNASSIGNED_STACK" "[Ljava/lang/StackTraceElement;" : Cond) ∈ vU := vU_4_in _ (List.mem_of_getElem? (i := 17) rfl)
theorem hw_258 : (Cond.fieldLink "java/lang/Throwable" 20 "java/lang/Throwable" "SUPPRESSED_SENTINEL" "Ljava/util/List;" : Cond) ∈ vU := vU_4_in _ (List.mem_of_getElem? (i := 18) rfl)
theorem hw_259 : (Cond.methodLink "java/lang/Throwable" 27 ⟨"java/lang/Throwable", "fillInStackTrace", "()Ljava/lang/Throwable;"⟩ : Cond) ∈ vU := vU_4_in _ (List.mem_of_getElem? (i := 19) rfl)
theorem hw_260 : (Cond.instanceMethod ⟨"java/lang/Throwable", "fillInStackTrace", "()Ljava/lang/Throwable;"⟩ : Cond) ∈ vU := vU_4_in _ (List.mem_of_getElem? (i := 20) rfl)
theorem hw_261 : (Cond.selects "java/lang/IllegalArgumentException" ⟨"java/lang/Throwable", "fillInStackTrace", "()Ljava/lang/Throwable;"⟩ ⟨"java/lang/Throwable", "fillInStackTrace", "()Ljava/lang/Throwable;"⟩ : Cond) ∈ vU := vU_4_in _ (List.mem_of_getElem? (i := 21) rfl)
theorem hw_262 : (Cond.selects "java/lang/IndexOutOfBoundsException" ⟨"java/lang/Throwable", "fillInStackTrace", "()Ljava/lang/Throwable;"⟩ ⟨"java/lang/Throwable", "fillInStackTrace", "()Ljava/lang/Throwable;"⟩ : Cond) ∈ vU := vU_4_in _ (List.mem_of_getElem? (i := 22) rfl)
theorem hw_263 : (Cond.methodLink "java/lang/Throwable" 202 ⟨"java/lang/Throwable", "fillInStackTrace", "(I)Ljava/lang/Throwable;"⟩ : Cond) ∈ vU := vU_4_in _ (List.mem_of_getElem? (i := 23) rfl)
theorem hw_264 : (Cond.instanceMethod ⟨"java/lang/Throwable", "fillInStackTrace", "(I)Ljava/lang/Throwable;"⟩ : Cond) ∈ vU := vU_4_in _ (List.mem_of_getElem? (i := 24) rfl)
theorem hw_265 : (Cond.instantiable "java/lang/Throwable" 6 : Cond) ∈ vU := vU_4_in _ (List.mem_of_getElem? (i := 25) rfl)
theorem hw_266 : (Cond.native ⟨"java/lang/Throwable", "fillInStackTrace", "(I)Ljava/lang/Throwable;"⟩ : Cond) ∈ vU := vU_4_in _ (List.mem_of_getElem? (i := 26) rfl)
theorem hw_267 : (Cond.methodLink R_Lp 57 ⟨"java/lang/IllegalStateException", "<init>", "(Ljava/lang/String;)V"⟩ : Cond) ∈ vU := vU_4_in _ (List.mem_of_getElem? (i := 27) rfl)
theorem hw_268 : (Cond.instanceMethod ⟨"java/lang/IllegalStateException", "<init>", "(Ljava/lang/String;)V"⟩ : Cond) ∈ vU := vU_4_in _ (List.mem_of_getElem? (i := 28) rfl)
theorem hw_269 : (Cond.code ⟨"java/lang/IllegalStateException", "<init>", "(Ljava/lang/String;)V"⟩ prog_10_method_2_code 2 none : Cond) ∈ vU := vU_4_in _ (List.mem_of_getElem? (i := 29) rfl)
theorem hw_270 : (Cond.methodLink "java/lang/IllegalStateException" 7 ⟨"java/lang/RuntimeException", "<init>", "(Ljava/lang/String;)V"⟩ : Cond) ∈ vU := vU_4_in _ (List.mem_of_getElem? (i := 30) rfl)
theorem hw_271 : (Cond.instanceMethod ⟨"java/lang/RuntimeException", "<init>", "(Ljava/lang/String;)V"⟩ : Cond) ∈ vU := vU_4_in _ (List.mem_of_getElem? (i := 31) rfl)
theorem hw_272 : (Cond.code ⟨"java/lang/RuntimeException", "<init>", "(Ljava/lang/String;)V"⟩ prog_13_method_2_code 2 none : Cond) ∈ vU := vU_4_in _ (List.mem_of_getElem? (i := 32) rfl)
theorem hw_273 : (Cond.methodLink "java/lang/RuntimeException" 7 ⟨"java/lang/Exception", "<init>", "(Ljava/lang/String;)V"⟩ : Cond) ∈ vU := vU_4_in _ (List.mem_of_getElem? (i := 33) rfl)
theorem hw_274 : (Cond.instanceMethod ⟨"java/lang/Exception", "<init>", "(Ljava/lang/String;)V"⟩ : Cond) ∈ vU := vU_4_in _ (List.mem_of_getElem? (i := 34) rfl)
theorem hw_275 : (Cond.code ⟨"java/lang/Exception", "<init>", "(Ljava/lang/String;)V"⟩ prog_8_method_2_code 2 none : Cond) ∈ vU := vU_4_in _ (List.mem_of_getElem? (i := 35) rfl)
theorem hw_276 : (Cond.methodLink "java/lang/Exception" 7 ⟨"java/lang/Throwable", "<init>", "(Ljava/lang/String;)V"⟩ : Cond) ∈ vU := vU_4_in _ (List.mem_of_getElem? (i := 36) rfl)
theorem hw_277 : (Cond.instanceMethod ⟨"java/lang/Throwable", "<init>", "(Ljava/lang/String;)V"⟩ : Cond) ∈ vU := vU_4_in _ (List.mem_of_getElem? (i := 37) rfl)
theorem hw_278 : (Cond.code ⟨"java/lang/Throwable", "<init>", "(Ljava/lang/String;)V"⟩ prog_15_method_2_code 2 none : Cond) ∈ vU := vU_4_in _ (List.mem_of_getElem? (i := 38) rfl)
theorem hw_279 : (Cond.fieldLink "java/lang/Throwable" 198 "java/lang/Throwable" "backtrace" "Ljava/lang/Object;" : Cond) ∈ vU := vU_4_in _ (List.mem_of_getElem? (i := 39) rfl)
theorem hw_280 : (Cond.fieldLink "java/lang/Throwable" 31 "java/lang/Throwable" "detailMessage" "Ljava/lang/String;" : Cond) ∈ vU := vU_4_in _ (List.mem_of_getElem? (i := 40) rfl)
theorem hw_281 : (Cond.fieldLink "java/lang/Throwable" 7 "java/lang/Throwable" "cause" "Ljava/lang/Throwable;" : Cond) ∈ vU := vU_4_in _ (List.mem_of_getElem? (i := 41) rfl)
theorem hw_282 : (Cond.fieldLink "java/lang/Throwable" 17 "java/lang/Throwable" "stackTrace" "[Ljava/lang/StackTraceElement;" : Cond) ∈ vU := vU_4_in _ (List.mem_of_getElem? (i := 42) rfl)
theorem hw_283 : (Cond.fieldLink "java/lang/Throwable" 24 "java/lang/Throwable" "suppressedExceptions" "Ljava/util/List;" : Cond) ∈ vU := vU_4_in _ (List.mem_of_getElem? (i := 43) rfl)
theorem hw_284 : (Cond.lays "java/lang/IllegalStateException" "java/lang/Throwable" "depth" "I" : Cond) ∈ vU := vU_4_in _ (List.mem_of_getElem? (i := 44) rfl)
theorem hw_285 : (Cond.arrayClass .byte : Cond) ∈ vU := vU_4_in _ (List.mem_of_getElem? (i := 45) rfl)
theorem hw_286 : (Cond.methodLink R_La 64 y_La_reset : Cond) ∈ vU := vU_4_in _ (List.mem_of_getElem? (i := 46) rfl)
theorem hw_287 : (Cond.static y_La_reset : Cond) ∈ vU := vU_4_in _ (List.mem_of_getElem? (i := 47) rfl)
theorem hw_288 : (Cond.codeWith y_La_reset b_La_reset 4 (some .int) [(0, 16, 19, 13)] : Cond) ∈ vU := vU_4_in _ (List.mem_of_getElem? (i := 48) rfl)
theorem hw_289 : (Cond.methodLink R_La 15 y_Lp_reset : Cond) ∈ vU := vU_4_in _ (List.mem_of_getElem? (i := 49) rfl)
theorem hw_290 : (Cond.instanceMethod y_Lp_reset : Cond) ∈ vU := vU_4_in _ (List.mem_of_getElem? (i := 50) rfl)
theorem hw_291 : (Cond.selects R_Lp y_Lp_reset y_Lp_reset : Cond) ∈ vU := vU_4_in _ (List.mem_of_getElem? (i := 51) rfl)
theorem hw_292 : (Cond.code y_Lp_reset b_Lp_reset 2 (some .boolean) : Cond) ∈ vU := vU_4_in _ (List.mem_of_getElem? (i := 52) rfl)
theorem hw_293 : (Cond.methodLink R_La 68 y_La_sample : Cond) ∈ vU := vU_4_in _ (List.mem_of_getElem? (i := 53) rfl)
theorem hw_294 : (Cond.static y_La_sample : Cond) ∈ vU := vU_4_in _ (List.mem_of_getElem? (i := 54) rfl)
theorem hw_295 : (Cond.codeWith y_La_sample b_La_sample 5 (some .int) [(0, 10, 13, 13), (0, 10, 17, 23)] : Cond) ∈ vU := vU_4_in _ (List.mem_of_getElem? (i := 55) rfl)
theorem hw_296 : (Cond.classLink R_La 23 "java/lang/IllegalArgumentException" : Cond) ∈ vU := vU_4_in _ (List.mem_of_getElem? (i := 56) rfl)
theorem hw_297 : (Cond.methodLink R_La 19 y_Lp_sample : Cond) ∈ vU := vU_4_in _ (List.mem_of_getElem? (i := 57) rfl)
theorem hw_298 : (Cond.instanceMethod y_Lp_sample : Cond) ∈ vU := vU_4_in _ (List.mem_of_getElem? (i := 58) rfl)
theorem hw_299 : (Cond.selects R_Lp y_Lp_sample y_Lp_sample : Cond) ∈ vU := vU_4_in _ (List.mem_of_getElem? (i := 59) rfl)
theorem hw_300 : (Cond.code y_Lp_sample b_Lp_sample 7 (some .int) : Cond) ∈ vU := vU_5_in _ (List.mem_of_getElem? (i := 0) rfl)
theorem hw_301 : (Cond.methodLink R_Lp 78 y_Si_awaits : Cond) ∈ vU := vU_5_in _ (List.mem_of_getElem? (i := 1) rfl)
theorem hw_302 : (Cond.instanceMethod y_Si_awaits : Cond) ∈ vU := vU_5_in _ (List.mem_of_getElem? (i := 2) rfl)
theorem hw_303 : (Cond.selects R_Si y_Si_awaits y_Si_awaits : Cond) ∈ vU := vU_5_in _ (List.mem_of_getElem? (i := 3) rfl)
theorem hw_304 : (Cond.code y_Si_awaits b_Si_awaits 2 (some .boolean) : Cond) ∈ vU := vU_5_in _ (List.mem_of_getElem? (i := 4) rfl)
theorem hw_305 : (Cond.classLink R_Lp 84 "java/lang/IllegalArgumentException" : Cond) ∈ vU := vU_5_in _ (List.mem_of_getElem? (i := 5) rfl)
theorem hw_306 : (Cond.instantiable "java/lang/IllegalArgumentException" 6 : Cond) ∈ vU := vU_5_in _ (List.mem_of_getElem? (i := 6) rfl)
theorem hw_307 : (Cond.selects "java/lang/IllegalArgumentException" ⟨"java/lang/Throwable", "fillInStackTrace", "(I)Ljava/lang/Throwable;"⟩ ⟨"java/lang/Throwable", "fillInStackTrace", "(I)Ljava/lang/Throwable;"⟩ : Cond) ∈ vU := vU_5_in _ (List.mem_of_getElem? (i := 7) rfl)
theorem hw_308 : (Cond.lays "java/lang/IllegalArgumentException" "java/lang/Throwable" "cause" "Ljava/lang/Throwable;" : Cond) ∈ vU := vU_5_in _ (List.mem_of_getElem? (i := 8) rfl)
theorem hw_309 : (Cond.lays "java/lang/IllegalArgumentException" "java/lang/Throwable" "stackTrace" "[Ljava/lang/StackTraceElement;" : Cond) ∈ vU := vU_5_in _ (List.mem_of_getElem? (i := 9) rfl)
theorem hw_310 : (Cond.lays "java/lang/IllegalArgumentException" "java/lang/Throwable" "suppressedExceptions" "Ljava/util/List;" : Cond) ∈ vU := vU_5_in _ (List.mem_of_getElem? (i := 10) rfl)
theorem hw_311 : (Cond.lays "java/lang/IllegalArgumentException" "java/lang/Throwable" "detailMessage" "Ljava/lang/String;" : Cond) ∈ vU := vU_5_in _ (List.mem_of_getElem? (i := 11) rfl)
theorem hw_312 : (Cond.lays "java/lang/IllegalArgumentException" "java/lang/Throwable" "backtrace" "Ljava/lang/Object;" : Cond) ∈ vU := vU_5_in _ (List.mem_of_getElem? (i := 12) rfl)
theorem hw_313 : (Cond.methodLink R_Lp 88 ⟨"java/lang/IllegalArgumentException", "<init>", "(Ljava/lang/String;)V"⟩ : Cond) ∈ vU := vU_5_in _ (List.mem_of_getElem? (i := 13) rfl)
theorem hw_314 : (Cond.instanceMethod ⟨"java/lang/IllegalArgumentException", "<init>", "(Ljava/lang/String;)V"⟩ : Cond) ∈ vU := vU_5_in _ (List.mem_of_getElem? (i := 14) rfl)
theorem hw_315 : (Cond.code ⟨"java/lang/IllegalArgumentException", "<init>", "(Ljava/lang/String;)V"⟩ prog_9_method_2_code 2 none : Cond) ∈ vU := vU_5_in _ (List.mem_of_getElem? (i := 15) rfl)
theorem hw_316 : (Cond.methodLink "java/lang/IllegalArgumentException" 7 ⟨"java/lang/RuntimeException", "<init>", "(Ljava/lang/String;)V"⟩ : Cond) ∈ vU := vU_5_in _ (List.mem_of_getElem? (i := 16) rfl)
theorem hw_317 : (Cond.lays "java/lang/IllegalArgumentException" "java/lang/Throwable" "depth" "I" : Cond) ∈ vU := vU_5_in _ (List.mem_of_getElem? (i := 17) rfl)
theorem hw_318 : (Cond.methodLink R_Lp 89 y_Si_lookAhead : Cond) ∈ vU := vU_5_in _ (List.mem_of_getElem? (i := 18) rfl)
theorem hw_319 : (Cond.instanceMethod y_Si_lookAhead : Cond) ∈ vU := vU_5_in _ (List.mem_of_getElem? (i := 19) rfl)
theorem hw_320 : (Cond.selects R_Si y_Si_lookAhead y_Si_lookAhead : Cond) ∈ vU := vU_5_in _ (List.mem_of_getElem? (i := 20) rfl)
theorem hw_321 : (Cond.code y_Si_lookAhead b_Si_lookAhead 2 none : Cond) ∈ vU := vU_5_in _ (List.mem_of_getElem? (i := 21) rfl)
theorem hw_322 : (Cond.methodLink R_Si 55 y_Si_rowAt : Cond) ∈ vU := vU_5_in _ (List.mem_of_getElem? (i := 22) rfl)
theorem hw_323 : (Cond.instanceMethod y_Si_rowAt : Cond) ∈ vU := vU_5_in _ (List.mem_of_getElem? (i := 23) rfl)
theorem hw_324 : (Cond.code y_Si_rowAt b_Si_rowAt 2 (some .int) : Cond) ∈ vU := vU_5_in _ (List.mem_of_getElem? (i := 24) rfl)
theorem hw_325 : (Cond.methodLink R_Si 73 y_Si_isFlatAround : Cond) ∈ vU := vU_5_in _ (List.mem_of_getElem? (i := 25) rfl)
theorem hw_326 : (Cond.instanceMethod y_Si_isFlatAround : Cond) ∈ vU := vU_5_in _ (List.mem_of_getElem? (i := 26) rfl)
theorem hw_327 : (Cond.code y_Si_isFlatAround b_Si_isFlatAround 2 (some .boolean) : Cond) ∈ vU := vU_5_in _ (List.mem_of_getElem? (i := 27) rfl)
theorem hw_328 : (Cond.methodLink R_Si 87 y_Sc_isFlat : Cond) ∈ vU := vU_5_in _ (List.mem_of_getElem? (i := 28) rfl)
theorem hw_329 : (Cond.instanceMethod y_Sc_isFlat : Cond) ∈ vU := vU_5_in _ (List.mem_of_getElem? (i := 29) rfl)
theorem hw_330 : (Cond.selects R_Sc y_Sc_isFlat y_Sc_isFlat : Cond) ∈ vU := vU_5_in _ (List.mem_of_getElem? (i := 30) rfl)
theorem hw_331 : (Cond.code y_Sc_isFlat b_Sc_isFlat 2 (some .boolean) : Cond) ∈ vU := vU_5_in _ (List.mem_of_getElem? (i := 31) rfl)
theorem hw_332 : (Cond.methodLink R_Sc 57 Lib.Math.abs.name : Cond) ∈ vU := vU_5_in _ (List.mem_of_getElem? (i := 32) rfl)
theorem hw_333 : (Cond.static Lib.Math.abs.name : Cond) ∈ vU := vU_5_in _ (List.mem_of_getElem? (i := 33) rfl)
theorem hw_334 : (Cond.code Lib.Math.abs.name Lib.Math.abs.code 1 (some .int) : Cond) ∈ vU := vU_5_in _ (List.mem_of_getElem? (i := 34) rfl)
theorem hw_335 : (Cond.methodLink R_Si 80 y_Ou_expectRun : Cond) ∈ vU := vU_5_in _ (List.mem_of_getElem? (i := 35) rfl)
theorem hw_336 : (Cond.instanceMethod y_Ou_expectRun : Cond) ∈ vU := vU_5_in _ (List.mem_of_getElem? (i := 36) rfl)
theorem hw_337 : (Cond.selects R_Ou y_Ou_expectRun y_Ou_expectRun : Cond) ∈ vU := vU_5_in _ (List.mem_of_getElem? (i := 37) rfl)
theorem hw_338 : (Cond.code y_Ou_expectRun b_Ou_expectRun 1 none : Cond) ∈ vU := vU_5_in _ (List.mem_of_getElem? (i := 38) rfl)
theorem hw_339 : (Cond.methodLink R_Si 83 y_Ou_expectByGradients : Cond) ∈ vU := vU_5_in _ (List.mem_of_getElem? (i := 39) rfl)
theorem hw_340 : (Cond.instanceMethod y_Ou_expectByGradients : Cond) ∈ vU := vU_5_in _ (List.mem_of_getElem? (i := 40) rfl)
theorem hw_341 : (Cond.selects R_Ou y_Ou_expectByGradients y_Ou_expectByGradients : Cond) ∈ vU := vU_5_in _ (List.mem_of_getElem? (i := 41) rfl)
theorem hw_342 : (Cond.code y_Ou_expectByGradients b_Ou_expectByGradients 4 none : Cond) ∈ vU := vU_5_in _ (List.mem_of_getElem? (i := 42) rfl)
theorem hw_343 : (Cond.methodLink R_Ou 36 y_Sc_steepness : Cond) ∈ vU := vU_5_in _ (List.mem_of_getElem? (i := 43) rfl)
theorem hw_344 : (Cond.instanceMethod y_Sc_steepness : Cond) ∈ vU := vU_5_in _ (List.mem_of_getElem? (i := 44) rfl)
theorem hw_345 : (Cond.selects R_Sc y_Sc_steepness y_Sc_steepness : Cond) ∈ vU := vU_5_in _ (List.mem_of_getElem? (i := 45) rfl)
theorem hw_346 : (Cond.code y_Sc_steepness b_Sc_steepness 4 (some .int) : Cond) ∈ vU := vU_5_in _ (List.mem_of_getElem? (i := 46) rfl)
theorem hw_347 : (Cond.methodLink R_Ou 43 y_Ou_median : Cond) ∈ vU := vU_5_in _ (List.mem_of_getElem? (i := 47) rfl)
theorem hw_348 : (Cond.instanceMethod y_Ou_median : Cond) ∈ vU := vU_5_in _ (List.mem_of_getElem? (i := 48) rfl)
theorem hw_349 : (Cond.code y_Ou_median b_Ou_median 1 (some .int) : Cond) ∈ vU := vU_5_in _ (List.mem_of_getElem? (i := 49) rfl)
theorem hw_350 : (Cond.methodLink R_Ou 55 Lib.Math.max.name : Cond) ∈ vU := vU_5_in _ (List.mem_of_getElem? (i := 50) rfl)
theorem hw_351 : (Cond.methodLink R_Ou 61 Lib.Math.min.name : Cond) ∈ vU := vU_5_in _ (List.mem_of_getElem? (i := 51) rfl)
theorem hw_352 : (Cond.methodLink R_Ou 47 y_Co_correction : Cond) ∈ vU := vU_5_in _ (List.mem_of_getElem? (i := 52) rfl)
theorem hw_353 : (Cond.instanceMethod y_Co_correction : Cond) ∈ vU := vU_5_in _ (List.mem_of_getElem? (i := 53) rfl)
theorem hw_354 : (Cond.selects R_Co y_Co_correction y_Co_correction : Cond) ∈ vU := vU_5_in _ (List.mem_of_getElem? (i := 54) rfl)
theorem hw_355 : (Cond.code y_Co_correction b_Co_correction 2 (some .int) : Cond) ∈ vU := vU_5_in _ (List.mem_of_getElem? (i := 55) rfl)
theorem hw_356 : (Cond.methodLink R_Co 46 y_Co_has : Cond) ∈ vU := vU_5_in _ (List.mem_of_getElem? (i := 56) rfl)
theorem hw_357 : (Cond.static y_Co_has : Cond) ∈ vU := vU_5_in _ (List.mem_of_getElem? (i := 57) rfl)
theorem hw_358 : (Cond.code y_Co_has b_Co_has 1 (some .boolean) : Cond) ∈ vU := vU_5_in _ (List.mem_of_getElem? (i := 58) rfl)
theorem hw_359 : (Cond.methodLink R_Ou 52 y_Sc_asSample : Cond) ∈ vU := vU_5_in _ (List.mem_of_getElem? (i := 59) rfl)
theorem hw_360 : (Cond.instanceMethod y_Sc_asSample : Cond) ∈ vU := vU_6_in _ (List.mem_of_getElem? (i := 0) rfl)
theorem hw_361 : (Cond.selects R_Sc y_Sc_asSample y_Sc_asSample : Cond) ∈ vU := vU_6_in _ (List.mem_of_getElem? (i := 1) rfl)
theorem hw_362 : (Cond.code y_Sc_asSample b_Sc_asSample 2 (some .int) : Cond) ∈ vU := vU_6_in _ (List.mem_of_getElem? (i := 2) rfl)
theorem hw_363 : (Cond.methodLink R_Lp 99 Lib.Math.abs.name : Cond) ∈ vU := vU_6_in _ (List.mem_of_getElem? (i := 3) rfl)
theorem hw_364 : (Cond.methodLink R_Lp 105 y_Lp_tell : Cond) ∈ vU := vU_6_in _ (List.mem_of_getElem? (i := 4) rfl)
theorem hw_365 : (Cond.instanceMethod y_Lp_tell : Cond) ∈ vU := vU_6_in _ (List.mem_of_getElem? (i := 5) rfl)
theorem hw_366 : (Cond.code y_Lp_tell b_Lp_tell 5 none : Cond) ∈ vU := vU_6_in _ (List.mem_of_getElem? (i := 6) rfl)
theorem hw_367 : (Cond.methodLink R_Lp 213 y_Si_keep : Cond) ∈ vU := vU_6_in _ (List.mem_of_getElem? (i := 7) rfl)
theorem hw_368 : (Cond.instanceMethod y_Si_keep : Cond) ∈ vU := vU_6_in _ (List.mem_of_getElem? (i := 8) rfl)
theorem hw_369 : (Cond.selects R_Si y_Si_keep y_Si_keep : Cond) ∈ vU := vU_6_in _ (List.mem_of_getElem? (i := 9) rfl)
theorem hw_370 : (Cond.code y_Si_keep b_Si_keep 3 none : Cond) ∈ vU := vU_6_in _ (List.mem_of_getElem? (i := 10) rfl)
theorem hw_371 : (Cond.constant R_Lp 109 (-2147483648) : Cond) ∈ vU := vU_6_in _ (List.mem_of_getElem? (i := 11) rfl)
theorem hw_372 : (Cond.methodLink R_Lp 110 y_Ou_expectEnd : Cond) ∈ vU := vU_6_in _ (List.mem_of_getElem? (i := 12) rfl)
theorem hw_373 : (Cond.instanceMethod y_Ou_expectEnd : Cond) ∈ vU := vU_6_in _ (List.mem_of_getElem? (i := 13) rfl)
theorem hw_374 : (Cond.selects R_Ou y_Ou_expectEnd y_Ou_expectEnd : Cond) ∈ vU := vU_6_in _ (List.mem_of_getElem? (i := 14) rfl)
theorem hw_375 : (Cond.code y_Ou_expectEnd b_Ou_expectEnd 3 none : Cond) ∈ vU := vU_6_in _ (List.mem_of_getElem? (i := 15) rfl)
theorem hw_376 : (Cond.methodLink R_Ou 27 y_Sc_isFlat : Cond) ∈ vU := vU_6_in _ (List.mem_of_getElem? (i := 16) rfl)
theorem hw_377 : (Cond.methodLink R_Lp 120 y_Sc_inSteps : Cond) ∈ vU := vU_6_in _ (List.mem_of_getElem? (i := 17) rfl)
theorem hw_378 : (Cond.instanceMethod y_Sc_inSteps : Cond) ∈ vU := vU_6_in _ (List.mem_of_getElem? (i := 18) rfl)
theorem hw_379 : (Cond.selects R_Sc y_Sc_inSteps y_Sc_inSteps : Cond) ∈ vU := vU_6_in _ (List.mem_of_getElem? (i := 19) rfl)
theorem hw_380 : (Cond.code y_Sc_inSteps b_Sc_inSteps 2 (some .int) : Cond) ∈ vU := vU_6_in _ (List.mem_of_getElem? (i := 20) rfl)
theorem hw_381 : (Cond.methodLink R_Lp 123 y_Sc_inRange : Cond) ∈ vU := vU_6_in _ (List.mem_of_getElem? (i := 21) rfl)
theorem hw_382 : (Cond.instanceMethod y_Sc_inRange : Cond) ∈ vU := vU_6_in _ (List.mem_of_getElem? (i := 22) rfl)
theorem hw_383 : (Cond.selects R_Sc y_Sc_inRange y_Sc_inRange : Cond) ∈ vU := vU_6_in _ (List.mem_of_getElem? (i := 23) rfl)
theorem hw_384 : (Cond.code y_Sc_inRange b_Sc_inRange 3 (some .int) : Cond) ∈ vU := vU_6_in _ (List.mem_of_getElem? (i := 24) rfl)
theorem hw_385 : (Cond.methodLink R_Lp 133 y_Co_fold : Cond) ∈ vU := vU_6_in _ (List.mem_of_getElem? (i := 25) rfl)
theorem hw_386 : (Cond.instanceMethod y_Co_fold : Cond) ∈ vU := vU_6_in _ (List.mem_of_getElem? (i := 26) rfl)
theorem hw_387 : (Cond.selects R_Co y_Co_fold y_Co_fold : Cond) ∈ vU := vU_6_in _ (List.mem_of_getElem? (i := 27) rfl)
theorem hw_388 : (Cond.code y_Co_fold b_Co_fold 3 (some .int) : Cond) ∈ vU := vU_6_in _ (List.mem_of_getElem? (i := 28) rfl)
theorem hw_389 : (Cond.methodLink R_Co 50 y_Co_endsRun : Cond) ∈ vU := vU_6_in _ (List.mem_of_getElem? (i := 29) rfl)
theorem hw_390 : (Cond.static y_Co_endsRun : Cond) ∈ vU := vU_6_in _ (List.mem_of_getElem? (i := 30) rfl)
theorem hw_391 : (Cond.code y_Co_endsRun b_Co_endsRun 1 (some .boolean) : Cond) ∈ vU := vU_6_in _ (List.mem_of_getElem? (i := 31) rfl)
theorem hw_392 : (Cond.methodLink R_Co 53 Lib.Math.abs.name : Cond) ∈ vU := vU_6_in _ (List.mem_of_getElem? (i := 32) rfl)
theorem hw_393 : (Cond.methodLink R_Co 57 y_Co_turn : Cond) ∈ vU := vU_6_in _ (List.mem_of_getElem? (i := 33) rfl)
theorem hw_394 : (Cond.instanceMethod y_Co_turn : Cond) ∈ vU := vU_6_in _ (List.mem_of_getElem? (i := 34) rfl)
theorem hw_395 : (Cond.code y_Co_turn b_Co_turn 4 (some .int) : Cond) ∈ vU := vU_6_in _ (List.mem_of_getElem? (i := 35) rfl)
theorem hw_396 : (Cond.methodLink R_Co 69 y_Co_turnsAbove : Cond) ∈ vU := vU_6_in _ (List.mem_of_getElem? (i := 36) rfl)
theorem hw_397 : (Cond.instanceMethod y_Co_turnsAbove : Cond) ∈ vU := vU_6_in _ (List.mem_of_getElem? (i := 37) rfl)
theorem hw_398 : (Cond.code y_Co_turnsAbove b_Co_turnsAbove 2 (some .boolean) : Cond) ∈ vU := vU_6_in _ (List.mem_of_getElem? (i := 38) rfl)
theorem hw_399 : (Cond.methodLink R_Co 89 y_Co_exponentIsZero : Cond) ∈ vU := vU_6_in _ (List.mem_of_getElem? (i := 39) rfl)
theorem hw_400 : (Cond.instanceMethod y_Co_exponentIsZero : Cond) ∈ vU := vU_6_in _ (List.mem_of_getElem? (i := 40) rfl)
theorem hw_401 : (Cond.code y_Co_exponentIsZero b_Co_exponentIsZero 4 (some .boolean) : Cond) ∈ vU := vU_6_in _ (List.mem_of_getElem? (i := 41) rfl)
theorem hw_402 : (Cond.methodLink R_Co 60 y_Co_likeness : Cond) ∈ vU := vU_6_in _ (List.mem_of_getElem? (i := 42) rfl)
theorem hw_403 : (Cond.static y_Co_likeness : Cond) ∈ vU := vU_6_in _ (List.mem_of_getElem? (i := 43) rfl)
theorem hw_404 : (Cond.code y_Co_likeness b_Co_likeness 1 (some .int) : Cond) ∈ vU := vU_6_in _ (List.mem_of_getElem? (i := 44) rfl)
theorem hw_405 : (Cond.methodLink R_Co 63 y_Co_leansBelow : Cond) ∈ vU := vU_6_in _ (List.mem_of_getElem? (i := 45) rfl)
theorem hw_406 : (Cond.instanceMethod y_Co_leansBelow : Cond) ∈ vU := vU_6_in _ (List.mem_of_getElem? (i := 46) rfl)
theorem hw_407 : (Cond.code y_Co_leansBelow b_Co_leansBelow 2 (some .boolean) : Cond) ∈ vU := vU_6_in _ (List.mem_of_getElem? (i := 47) rfl)
theorem hw_408 : (Cond.methodLink R_Lp 139 y_Co_learn : Cond) ∈ vU := vU_6_in _ (List.mem_of_getElem? (i := 48) rfl)
theorem hw_409 : (Cond.instanceMethod y_Co_learn : Cond) ∈ vU := vU_6_in _ (List.mem_of_getElem? (i := 49) rfl)
theorem hw_410 : (Cond.selects R_Co y_Co_learn y_Co_learn : Cond) ∈ vU := vU_6_in _ (List.mem_of_getElem? (i := 50) rfl)
theorem hw_411 : (Cond.code y_Co_learn b_Co_learn 4 none : Cond) ∈ vU := vU_6_in _ (List.mem_of_getElem? (i := 51) rfl)
theorem hw_412 : (Cond.methodLink R_Co 72 y_Co_learnEnd : Cond) ∈ vU := vU_6_in _ (List.mem_of_getElem? (i := 52) rfl)
theorem hw_413 : (Cond.instanceMethod y_Co_learnEnd : Cond) ∈ vU := vU_6_in _ (List.mem_of_getElem? (i := 53) rfl)
theorem hw_414 : (Cond.code y_Co_learnEnd b_Co_learnEnd 4 none : Cond) ∈ vU := vU_6_in _ (List.mem_of_getElem? (i := 54) rfl)
theorem hw_415 : (Cond.methodLink R_Co 82 y_Co_correct : Cond) ∈ vU := vU_6_in _ (List.mem_of_getElem? (i := 55) rfl)
theorem hw_416 : (Cond.instanceMethod y_Co_correct : Cond) ∈ vU := vU_6_in _ (List.mem_of_getElem? (i := 56) rfl)
theorem hw_417 : (Cond.code y_Co_correct b_Co_correct 3 none : Cond) ∈ vU := vU_6_in _ (List.mem_of_getElem? (i := 57) rfl)
theorem hw_418 : (Cond.methodLink R_Co 86 Lib.Math.min.name : Cond) ∈ vU := vU_6_in _ (List.mem_of_getElem? (i := 58) rfl)
theorem hw_419 : (Cond.methodLink R_Lp 143 y_Ou_moved : Cond) ∈ vU := vU_6_in _ (List.mem_of_getElem? (i := 59) rfl)
theorem hw_420 : (Cond.instanceMethod y_Ou_moved : Cond) ∈ vU := vU_7_in _ (List.mem_of_getElem? (i := 0) rfl)
theorem hw_421 : (Cond.selects R_Ou y_Ou_moved y_Ou_moved : Cond) ∈ vU := vU_7_in _ (List.mem_of_getElem? (i := 1) rfl)
theorem hw_422 : (Cond.code y_Ou_moved b_Ou_moved 3 (some .int) : Cond) ∈ vU := vU_7_in _ (List.mem_of_getElem? (i := 2) rfl)
theorem hw_423 : (Cond.methodLink R_Lp 147 y_Sc_asSample : Cond) ∈ vU := vU_7_in _ (List.mem_of_getElem? (i := 3) rfl)
theorem hw_424 : (Cond.methodLink R_La 72 y_La_back : Cond) ∈ vU := vU_7_in _ (List.mem_of_getElem? (i := 4) rfl)
theorem hw_425 : (Cond.static y_La_back : Cond) ∈ vU := vU_7_in _ (List.mem_of_getElem? (i := 5) rfl)
theorem hw_426 : (Cond.codeWith y_La_back b_La_back 5 (some .int) [(0, 10, 13, 13), (0, 10, 17, 23)] : Cond) ∈ vU := vU_7_in _ (List.mem_of_getElem? (i := 6) rfl)
theorem hw_427 : (Cond.methodLink R_La 25 y_Lp_back : Cond) ∈ vU := vU_7_in _ (List.mem_of_getElem? (i := 7) rfl)
theorem hw_428 : (Cond.instanceMethod y_Lp_back : Cond) ∈ vU := vU_7_in _ (List.mem_of_getElem? (i := 8) rfl)
theorem hw_429 : (Cond.selects R_Lp y_Lp_back y_Lp_back : Cond) ∈ vU := vU_7_in _ (List.mem_of_getElem? (i := 9) rfl)
theorem hw_430 : (Cond.code y_Lp_back b_Lp_back 6 (some .int) : Cond) ∈ vU := vU_7_in _ (List.mem_of_getElem? (i := 10) rfl)
theorem hw_431 : (Cond.methodLink R_Lp 157 y_Co_unfold : Cond) ∈ vU := vU_7_in _ (List.mem_of_getElem? (i := 11) rfl)
theorem hw_432 : (Cond.instanceMethod y_Co_unfold : Cond) ∈ vU := vU_7_in _ (List.mem_of_getElem? (i := 12) rfl)
theorem hw_433 : (Cond.selects R_Co y_Co_unfold y_Co_unfold : Cond) ∈ vU := vU_7_in _ (List.mem_of_getElem? (i := 13) rfl)
theorem hw_434 : (Cond.code y_Co_unfold b_Co_unfold 5 (some .int) : Cond) ∈ vU := vU_7_in _ (List.mem_of_getElem? (i := 14) rfl)
theorem hw_435 : (Cond.methodLink R_Co 66 y_Co_unfoldEnd : Cond) ∈ vU := vU_7_in _ (List.mem_of_getElem? (i := 15) rfl)
theorem hw_436 : (Cond.instanceMethod y_Co_unfoldEnd : Cond) ∈ vU := vU_7_in _ (List.mem_of_getElem? (i := 16) rfl)
theorem hw_437 : (Cond.code y_Co_unfoldEnd b_Co_unfoldEnd 6 (some .int) : Cond) ∈ vU := vU_7_in _ (List.mem_of_getElem? (i := 17) rfl)
theorem hw_438 : (Cond.methodLink R_Lp 162 y_Sc_turnedOver : Cond) ∈ vU := vU_7_in _ (List.mem_of_getElem? (i := 18) rfl)
theorem hw_439 : (Cond.instanceMethod y_Sc_turnedOver : Cond) ∈ vU := vU_7_in _ (List.mem_of_getElem? (i := 19) rfl)
theorem hw_440 : (Cond.selects R_Sc y_Sc_turnedOver y_Sc_turnedOver : Cond) ∈ vU := vU_7_in _ (List.mem_of_getElem? (i := 20) rfl)
theorem hw_441 : (Cond.code y_Sc_turnedOver b_Sc_turnedOver 2 (some .int) : Cond) ∈ vU := vU_7_in _ (List.mem_of_getElem? (i := 21) rfl)
theorem hw_442 : (Cond.methodLink R_La 88 y_La_neighbour : Cond) ∈ vU := vU_7_in _ (List.mem_of_getElem? (i := 22) rfl)
theorem hw_443 : (Cond.static y_La_neighbour : Cond) ∈ vU := vU_7_in _ (List.mem_of_getElem? (i := 23) rfl)
theorem hw_444 : (Cond.codeWith y_La_neighbour b_La_neighbour 4 (some .int) [(0, 9, 12, 32)] : Cond) ∈ vU := vU_7_in _ (List.mem_of_getElem? (i := 24) rfl)
theorem hw_445 : (Cond.classLink R_La 32 "java/lang/IndexOutOfBoundsException" : Cond) ∈ vU := vU_7_in _ (List.mem_of_getElem? (i := 25) rfl)
theorem hw_446 : (Cond.methodLink R_La 28 y_Lp_neighbour : Cond) ∈ vU := vU_7_in _ (List.mem_of_getElem? (i := 26) rfl)
theorem hw_447 : (Cond.instanceMethod y_Lp_neighbour : Cond) ∈ vU := vU_7_in _ (List.mem_of_getElem? (i := 27) rfl)
theorem hw_448 : (Cond.selects R_Lp y_Lp_neighbour y_Lp_neighbour : Cond) ∈ vU := vU_7_in _ (List.mem_of_getElem? (i := 28) rfl)
theorem hw_449 : (Cond.code y_Lp_neighbour b_Lp_neighbour 2 (some .int) : Cond) ∈ vU := vU_7_in _ (List.mem_of_getElem? (i := 29) rfl)
theorem hw_450 : (Cond.classLink R_Lp 181 "java/lang/IndexOutOfBoundsException" : Cond) ∈ vU := vU_7_in _ (List.mem_of_getElem? (i := 30) rfl)
theorem hw_451 : (Cond.instantiable "java/lang/IndexOutOfBoundsException" 6 : Cond) ∈ vU := vU_7_in _ (List.mem_of_getElem? (i := 31) rfl)
theorem hw_452 : (Cond.selects "java/lang/IndexOutOfBoundsException" ⟨"java/lang/Throwable", "fillInStackTrace", "(I)Ljava/lang/Throwable;"⟩ ⟨"java/lang/Throwable", "fillInStackTrace", "(I)Ljava/lang/Throwable;"⟩ : Cond) ∈ vU := vU_7_in _ (List.mem_of_getElem? (i := 32) rfl)
theorem hw_453 : (Cond.lays "java/lang/IndexOutOfBoundsException" "java/lang/Throwable" "cause" "Ljava/lang/Throwable;" : Cond) ∈ vU := vU_7_in _ (List.mem_of_getElem? (i := 33) rfl)
theorem hw_454 : (Cond.lays "java/lang/IndexOutOfBoundsException" "java/lang/Throwable" "stackTrace" "[Ljava/lang/StackTraceElement;" : Cond) ∈ vU := vU_7_in _ (List.mem_of_getElem? (i := 34) rfl)
theorem hw_455 : (Cond.lays "java/lang/IndexOutOfBoundsException" "java/lang/Throwable" "suppressedExceptions" "Ljava/util/List;" : Cond) ∈ vU := vU_7_in _ (List.mem_of_getElem? (i := 35) rfl)
theorem hw_456 : (Cond.lays "java/lang/IndexOutOfBoundsException" "java/lang/Throwable" "detailMessage" "Ljava/lang/String;" : Cond) ∈ vU := vU_7_in _ (List.mem_of_getElem? (i := 36) rfl)
theorem hw_457 : (Cond.lays "java/lang/IndexOutOfBoundsException" "java/lang/Throwable" "backtrace" "Ljava/lang/Object;" : Cond) ∈ vU := vU_7_in _ (List.mem_of_getElem? (i := 37) rfl)
theorem hw_458 : (Cond.methodLink R_Lp 185 ⟨"java/lang/IndexOutOfBoundsException", "<init>", "(Ljava/lang/String;)V"⟩ : Cond) ∈ vU := vU_7_in _ (List.mem_of_getElem? (i := 38) rfl)
theorem hw_459 : (Cond.instanceMethod ⟨"java/lang/IndexOutOfBoundsException", "<init>", "(Ljava/lang/String;)V"⟩ : Cond) ∈ vU := vU_7_in _ (List.mem_of_getElem? (i := 39) rfl)
theorem hw_460 : (Cond.code ⟨"java/lang/IndexOutOfBoundsException", "<init>", "(Ljava/lang/String;)V"⟩ prog_11_method_2_code 2 none : Cond) ∈ vU := vU_7_in _ (List.mem_of_getElem? (i := 40) rfl)
theorem hw_461 : (Cond.methodLink "java/lang/IndexOutOfBoundsException" 7 ⟨"java/lang/RuntimeException", "<init>", "(Ljava/lang/String;)V"⟩ : Cond) ∈ vU := vU_7_in _ (List.mem_of_getElem? (i := 41) rfl)
theorem hw_462 : (Cond.lays "java/lang/IndexOutOfBoundsException" "java/lang/Throwable" "depth" "I" : Cond) ∈ vU := vU_7_in _ (List.mem_of_getElem? (i := 42) rfl)
theorem hw_463 : (Cond.methodLink R_La 91 y_La_state : Cond) ∈ vU := vU_7_in _ (List.mem_of_getElem? (i := 43) rfl)
theorem hw_464 : (Cond.static y_La_state : Cond) ∈ vU := vU_7_in _ (List.mem_of_getElem? (i := 44) rfl)
theorem hw_465 : (Cond.codeWith y_La_state b_La_state 6 (some .int) [(0, 12, 15, 32)] : Cond) ∈ vU := vU_7_in _ (List.mem_of_getElem? (i := 45) rfl)
theorem hw_466 : (Cond.methodLink R_La 34 y_Lp_state : Cond) ∈ vU := vU_7_in _ (List.mem_of_getElem? (i := 46) rfl)
theorem hw_467 : (Cond.instanceMethod y_Lp_state : Cond) ∈ vU := vU_7_in _ (List.mem_of_getElem? (i := 47) rfl)
theorem hw_468 : (Cond.selects R_Lp y_Lp_state y_Lp_state : Cond) ∈ vU := vU_7_in _ (List.mem_of_getElem? (i := 48) rfl)
theorem hw_469 : (Cond.code y_Lp_state b_Lp_state 4 (some .int) : Cond) ∈ vU := vU_7_in _ (List.mem_of_getElem? (i := 49) rfl)
theorem hw_470 : (Cond.methodLink R_Lp 188 y_Co_has : Cond) ∈ vU := vU_7_in _ (List.mem_of_getElem? (i := 50) rfl)
theorem hw_471 : (Cond.methodLink R_Lp 195 y_Co_held : Cond) ∈ vU := vU_7_in _ (List.mem_of_getElem? (i := 51) rfl)
theorem hw_472 : (Cond.instanceMethod y_Co_held : Cond) ∈ vU := vU_7_in _ (List.mem_of_getElem? (i := 52) rfl)
theorem hw_473 : (Cond.selects R_Co y_Co_held y_Co_held : Cond) ∈ vU := vU_7_in _ (List.mem_of_getElem? (i := 53) rfl)
theorem hw_474 : (Cond.code y_Co_held b_Co_held 3 (some .int) : Cond) ∈ vU := vU_7_in _ (List.mem_of_getElem? (i := 54) rfl)
theorem hw_475 : (Cond.methodLink R_La 98 y_La_quantised : Cond) ∈ vU := vU_7_in _ (List.mem_of_getElem? (i := 55) rfl)
theorem hw_476 : (Cond.static y_La_quantised : Cond) ∈ vU := vU_7_in _ (List.mem_of_getElem? (i := 56) rfl)
theorem hw_477 : (Cond.codeWith y_La_quantised b_La_quantised 4 (some .int) [(0, 9, 12, 23)] : Cond) ∈ vU := vU_7_in _ (List.mem_of_getElem? (i := 57) rfl)
theorem hw_478 : (Cond.methodLink R_La 38 y_Lp_quantised : Cond) ∈ vU := vU_7_in _ (List.mem_of_getElem? (i := 58) rfl)
theorem hw_479 : (Cond.instanceMethod y_Lp_quantised : Cond) ∈ vU := vU_7_in _ (List.mem_of_getElem? (i := 59) rfl)
theorem hw_480 : (Cond.selects R_Lp y_Lp_quantised y_Lp_quantised : Cond) ∈ vU := vU_8_in _ (List.mem_of_getElem? (i := 0) rfl)
theorem hw_481 : (Cond.code y_Lp_quantised b_Lp_quantised 2 (some .int) : Cond) ∈ vU := vU_8_in _ (List.mem_of_getElem? (i := 1) rfl)
theorem hw_482 : (Cond.constant R_Lp 198 (-70000) : Cond) ∈ vU := vU_8_in _ (List.mem_of_getElem? (i := 2) rfl)
theorem hw_483 : (Cond.constant R_Lp 199 70000 : Cond) ∈ vU := vU_8_in _ (List.mem_of_getElem? (i := 3) rfl)
theorem hw_484 : (Cond.methodLink R_La 101 y_La_setting : Cond) ∈ vU := vU_8_in _ (List.mem_of_getElem? (i := 4) rfl)
theorem hw_485 : (Cond.static y_La_setting : Cond) ∈ vU := vU_8_in _ (List.mem_of_getElem? (i := 5) rfl)
theorem hw_486 : (Cond.codeWith y_La_setting b_La_setting 4 (some .int) [(0, 9, 12, 32)] : Cond) ∈ vU := vU_8_in _ (List.mem_of_getElem? (i := 6) rfl)
theorem hw_487 : (Cond.methodLink R_La 41 y_Lp_setting : Cond) ∈ vU := vU_8_in _ (List.mem_of_getElem? (i := 7) rfl)
theorem hw_488 : (Cond.instanceMethod y_Lp_setting : Cond) ∈ vU := vU_8_in _ (List.mem_of_getElem? (i := 8) rfl)
theorem hw_489 : (Cond.selects R_Lp y_Lp_setting y_Lp_setting : Cond) ∈ vU := vU_8_in _ (List.mem_of_getElem? (i := 9) rfl)
theorem hw_490 : (Cond.code y_Lp_setting b_Lp_setting 2 (some .int) : Cond) ∈ vU := vU_8_in _ (List.mem_of_getElem? (i := 10) rfl)
theorem hw_491 : (Cond.classLink R_La 53 R_Mo : Cond) ∈ vU := vU_8_in _ (List.mem_of_getElem? (i := 11) rfl)
theorem hw_492 : (Cond.instantiable R_Mo 33 : Cond) ∈ vU := vU_8_in _ (List.mem_of_getElem? (i := 12) rfl)
theorem hw_493 : (Cond.methodLink R_La 55 y_Mo_init : Cond) ∈ vU := vU_8_in _ (List.mem_of_getElem? (i := 13) rfl)
theorem hw_494 : (Cond.instanceMethod y_Mo_init : Cond) ∈ vU := vU_8_in _ (List.mem_of_getElem? (i := 14) rfl)
theorem hw_495 : (Cond.code y_Mo_init b_Mo_init 5 none : Cond) ∈ vU := vU_8_in _ (List.mem_of_getElem? (i := 15) rfl)
theorem hw_496 : (Cond.methodLink R_Mo 1 objectInit : Cond) ∈ vU := vU_8_in _ (List.mem_of_getElem? (i := 16) rfl)
theorem hw_497 : (Cond.constant R_Mo 13 131072 : Cond) ∈ vU := vU_8_in _ (List.mem_of_getElem? (i := 17) rfl)
theorem hw_498 : (Cond.constant R_Mo 49 65536 : Cond) ∈ vU := vU_8_in _ (List.mem_of_getElem? (i := 18) rfl)
theorem hw_499 : (Cond.methodLink R_Mo 50 y_Mo_brought : Cond) ∈ vU := vU_8_in _ (List.mem_of_getElem? (i := 19) rfl)
theorem hw_500 : (Cond.static y_Mo_brought : Cond) ∈ vU := vU_8_in _ (List.mem_of_getElem? (i := 20) rfl)
theorem hw_501 : (Cond.code y_Mo_brought b_Mo_brought 3 (some .int) : Cond) ∈ vU := vU_8_in _ (List.mem_of_getElem? (i := 21) rfl)
theorem hw_502 : (Cond.methodLink R_Mo 69 y_Mo_layThresholds : Cond) ∈ vU := vU_8_in _ (List.mem_of_getElem? (i := 22) rfl)
theorem hw_503 : (Cond.instanceMethod y_Mo_layThresholds : Cond) ∈ vU := vU_8_in _ (List.mem_of_getElem? (i := 23) rfl)
theorem hw_504 : (Cond.code y_Mo_layThresholds b_Mo_layThresholds 2 none : Cond) ∈ vU := vU_8_in _ (List.mem_of_getElem? (i := 24) rfl)
theorem hw_505 : (Cond.methodLink R_Mo 84 y_Mo_greater : Cond) ∈ vU := vU_8_in _ (List.mem_of_getElem? (i := 25) rfl)
theorem hw_506 : (Cond.static y_Mo_greater : Cond) ∈ vU := vU_8_in _ (List.mem_of_getElem? (i := 26) rfl)
theorem hw_507 : (Cond.code y_Mo_greater b_Mo_greater 2 (some .int) : Cond) ∈ vU := vU_8_in _ (List.mem_of_getElem? (i := 27) rfl)
theorem hw_508 : (Cond.fieldLink R_Mo 72 "LinePredictModel" "code" "I" : Cond) ∈ vU := vU_8_in _ (List.mem_of_getElem? (i := 28) rfl)
theorem hw_509 : (Cond.fieldLink R_Mo 54 "LinePredictModel" "width" "I" : Cond) ∈ vU := vU_8_in _ (List.mem_of_getElem? (i := 29) rfl)
theorem hw_510 : (Cond.fieldLink R_Mo 57 "LinePredictModel" "max" "I" : Cond) ∈ vU := vU_8_in _ (List.mem_of_getElem? (i := 30) rfl)
theorem hw_511 : (Cond.fieldLink R_Mo 60 "LinePredictModel" "near" "I" : Cond) ∈ vU := vU_8_in _ (List.mem_of_getElem? (i := 31) rfl)
theorem hw_512 : (Cond.fieldLink R_Mo 63 "LinePredictModel" "step" "I" : Cond) ∈ vU := vU_8_in _ (List.mem_of_getElem? (i := 32) rfl)
theorem hw_513 : (Cond.fieldLink R_Mo 66 "LinePredictModel" "range" "I" : Cond) ∈ vU := vU_8_in _ (List.mem_of_getElem? (i := 33) rfl)
theorem hw_514 : (Cond.fieldLink R_Mo 75 "LinePredictModel" "first" "I" : Cond) ∈ vU := vU_8_in _ (List.mem_of_getElem? (i := 34) rfl)
theorem hw_515 : (Cond.fieldLink R_Mo 78 "LinePredictModel" "second" "I" : Cond) ∈ vU := vU_8_in _ (List.mem_of_getElem? (i := 35) rfl)
theorem hw_516 : (Cond.fieldLink R_Mo 81 "LinePredictModel" "third" "I" : Cond) ∈ vU := vU_8_in _ (List.mem_of_getElem? (i := 36) rfl)
theorem hw_517 : (Cond.fieldLink R_Mo 7 "LinePredictModel" "halving" "I" : Cond) ∈ vU := vU_8_in _ (List.mem_of_getElem? (i := 37) rfl)
theorem hw_518 : (Cond.fieldLink R_Mo 14 "LinePredictModel" "rows" "[I" : Cond) ∈ vU := vU_8_in _ (List.mem_of_getElem? (i := 38) rfl)
theorem hw_519 : (Cond.fieldLink R_Mo 18 "LinePredictModel" "aboves" "[I" : Cond) ∈ vU := vU_8_in _ (List.mem_of_getElem? (i := 39) rfl)
theorem hw_520 : (Cond.fieldLink R_Mo 21 "LinePredictModel" "corners" "[I" : Cond) ∈ vU := vU_8_in _ (List.mem_of_getElem? (i := 40) rfl)
theorem hw_521 : (Cond.fieldLink R_Mo 24 "LinePredictModel" "xs" "[I" : Cond) ∈ vU := vU_8_in _ (List.mem_of_getElem? (i := 41) rfl)
theorem hw_522 : (Cond.fieldLink R_Mo 27 "LinePredictModel" "ys" "[I" : Cond) ∈ vU := vU_8_in _ (List.mem_of_getElem? (i := 42) rfl)
theorem hw_523 : (Cond.fieldLink R_Mo 30 "LinePredictModel" "goingOn" "[Z" : Cond) ∈ vU := vU_8_in _ (List.mem_of_getElem? (i := 43) rfl)
theorem hw_524 : (Cond.fieldLink R_Mo 156 "LinePredictModel" "begun" "I" : Cond) ∈ vU := vU_8_in _ (List.mem_of_getElem? (i := 44) rfl)
theorem hw_525 : (Cond.fieldLink R_Mo 34 "LinePredictModel" "as" "[I" : Cond) ∈ vU := vU_8_in _ (List.mem_of_getElem? (i := 45) rfl)
theorem hw_526 : (Cond.fieldLink R_Mo 37 "LinePredictModel" "ns" "[I" : Cond) ∈ vU := vU_8_in _ (List.mem_of_getElem? (i := 46) rfl)
theorem hw_527 : (Cond.fieldLink R_Mo 40 "LinePredictModel" "bs" "[I" : Cond) ∈ vU := vU_8_in _ (List.mem_of_getElem? (i := 47) rfl)
theorem hw_528 : (Cond.fieldLink R_Mo 43 "LinePredictModel" "cs" "[I" : Cond) ∈ vU := vU_8_in _ (List.mem_of_getElem? (i := 48) rfl)
theorem hw_529 : (Cond.fieldLink R_Mo 95 "LinePredictModel" "a" "I" : Cond) ∈ vU := vU_8_in _ (List.mem_of_getElem? (i := 49) rfl)
theorem hw_530 : (Cond.fieldLink R_Mo 92 "LinePredictModel" "b" "I" : Cond) ∈ vU := vU_8_in _ (List.mem_of_getElem? (i := 50) rfl)
theorem hw_531 : (Cond.fieldLink R_Mo 98 "LinePredictModel" "c" "I" : Cond) ∈ vU := vU_8_in _ (List.mem_of_getElem? (i := 51) rfl)
theorem hw_532 : (Cond.fieldLink R_Mo 101 "LinePredictModel" "d" "I" : Cond) ∈ vU := vU_8_in _ (List.mem_of_getElem? (i := 52) rfl)
theorem hw_533 : (Cond.fieldLink R_Mo 108 "LinePredictModel" "inRun" "Z" : Cond) ∈ vU := vU_8_in _ (List.mem_of_getElem? (i := 53) rfl)
theorem hw_534 : (Cond.fieldLink R_Mo 115 "LinePredictModel" "where" "I" : Cond) ∈ vU := vU_8_in _ (List.mem_of_getElem? (i := 54) rfl)
theorem hw_535 : (Cond.fieldLink R_Mo 118 "LinePredictModel" "expected" "I" : Cond) ∈ vU := vU_8_in _ (List.mem_of_getElem? (i := 55) rfl)
theorem hw_536 : (Cond.fieldLink R_Mo 112 "LinePredictModel" "sign" "I" : Cond) ∈ vU := vU_8_in _ (List.mem_of_getElem? (i := 56) rfl)
theorem hw_537 : (Cond.fieldLink R_Mo 124 "LinePredictModel" "rebuilt" "I" : Cond) ∈ vU := vU_8_in _ (List.mem_of_getElem? (i := 57) rfl)
theorem hw_538 : (Cond.fieldLink R_Mo 46 "LinePredictModel" "last" "[I" : Cond) ∈ vU := vU_8_in _ (List.mem_of_getElem? (i := 58) rfl)
theorem hw_539 : (Cond.fieldLink R_Mo 127 "LinePredictModel" "lastContext" "I" : Cond) ∈ vU := vU_8_in _ (List.mem_of_getElem? (i := 59) rfl)
theorem hw_540 : (Cond.fieldLink R_Mo 130 "LinePredictModel" "lastPredicted" "I" : Cond) ∈ vU := vU_9_in _ (List.mem_of_getElem? (i := 0) rfl)
theorem hw_541 : (Cond.lays R_Mo "LinePredictModel" "code" "I" : Cond) ∈ vU := vU_9_in _ (List.mem_of_getElem? (i := 1) rfl)
theorem hw_542 : (Cond.laysFinal R_Mo "LinePredictModel" "width" "I" : Cond) ∈ vU := vU_9_in _ (List.mem_of_getElem? (i := 2) rfl)
theorem hw_543 : (Cond.laysFinal R_Mo "LinePredictModel" "max" "I" : Cond) ∈ vU := vU_9_in _ (List.mem_of_getElem? (i := 3) rfl)
theorem hw_544 : (Cond.laysFinal R_Mo "LinePredictModel" "near" "I" : Cond) ∈ vU := vU_9_in _ (List.mem_of_getElem? (i := 4) rfl)
theorem hw_545 : (Cond.laysFinal R_Mo "LinePredictModel" "step" "I" : Cond) ∈ vU := vU_9_in _ (List.mem_of_getElem? (i := 5) rfl)
theorem hw_546 : (Cond.laysFinal R_Mo "LinePredictModel" "range" "I" : Cond) ∈ vU := vU_9_in _ (List.mem_of_getElem? (i := 6) rfl)
theorem hw_547 : (Cond.lays R_Mo "LinePredictModel" "first" "I" : Cond) ∈ vU := vU_9_in _ (List.mem_of_getElem? (i := 7) rfl)
theorem hw_548 : (Cond.lays R_Mo "LinePredictModel" "second" "I" : Cond) ∈ vU := vU_9_in _ (List.mem_of_getElem? (i := 8) rfl)
theorem hw_549 : (Cond.lays R_Mo "LinePredictModel" "third" "I" : Cond) ∈ vU := vU_9_in _ (List.mem_of_getElem? (i := 9) rfl)
theorem hw_550 : (Cond.lays R_Mo "LinePredictModel" "halving" "I" : Cond) ∈ vU := vU_9_in _ (List.mem_of_getElem? (i := 10) rfl)
theorem hw_551 : (Cond.laysFinal R_Mo "LinePredictModel" "rows" "[I" : Cond) ∈ vU := vU_9_in _ (List.mem_of_getElem? (i := 11) rfl)
theorem hw_552 : (Cond.laysFinal R_Mo "LinePredictModel" "aboves" "[I" : Cond) ∈ vU := vU_9_in _ (List.mem_of_getElem? (i := 12) rfl)
theorem hw_553 : (Cond.laysFinal R_Mo "LinePredictModel" "corners" "[I" : Cond) ∈ vU := vU_9_in _ (List.mem_of_getElem? (i := 13) rfl)
theorem hw_554 : (Cond.laysFinal R_Mo "LinePredictModel" "xs" "[I" : Cond) ∈ vU := vU_9_in _ (List.mem_of_getElem? (i := 14) rfl)
theorem hw_555 : (Cond.laysFinal R_Mo "LinePredictModel" "ys" "[I" : Cond) ∈ vU := vU_9_in _ (List.mem_of_getElem? (i := 15) rfl)
theorem hw_556 : (Cond.laysFinal R_Mo "LinePredictModel" "goingOn" "[Z" : Cond) ∈ vU := vU_9_in _ (List.mem_of_getElem? (i := 16) rfl)
theorem hw_557 : (Cond.lays R_Mo "LinePredictModel" "begun" "I" : Cond) ∈ vU := vU_9_in _ (List.mem_of_getElem? (i := 17) rfl)
theorem hw_558 : (Cond.laysFinal R_Mo "LinePredictModel" "as" "[I" : Cond) ∈ vU := vU_9_in _ (List.mem_of_getElem? (i := 18) rfl)
theorem hw_559 : (Cond.laysFinal R_Mo "LinePredictModel" "ns" "[I" : Cond) ∈ vU := vU_9_in _ (List.mem_of_getElem? (i := 19) rfl)
theorem hw_560 : (Cond.laysFinal R_Mo "LinePredictModel" "bs" "[I" : Cond) ∈ vU := vU_9_in _ (List.mem_of_getElem? (i := 20) rfl)
theorem hw_561 : (Cond.laysFinal R_Mo "LinePredictModel" "cs" "[I" : Cond) ∈ vU := vU_9_in _ (List.mem_of_getElem? (i := 21) rfl)
theorem hw_562 : (Cond.lays R_Mo "LinePredictModel" "a" "I" : Cond) ∈ vU := vU_9_in _ (List.mem_of_getElem? (i := 22) rfl)
theorem hw_563 : (Cond.lays R_Mo "LinePredictModel" "b" "I" : Cond) ∈ vU := vU_9_in _ (List.mem_of_getElem? (i := 23) rfl)
theorem hw_564 : (Cond.lays R_Mo "LinePredictModel" "c" "I" : Cond) ∈ vU := vU_9_in _ (List.mem_of_getElem? (i := 24) rfl)
theorem hw_565 : (Cond.lays R_Mo "LinePredictModel" "d" "I" : Cond) ∈ vU := vU_9_in _ (List.mem_of_getElem? (i := 25) rfl)
theorem hw_566 : (Cond.lays R_Mo "LinePredictModel" "inRun" "Z" : Cond) ∈ vU := vU_9_in _ (List.mem_of_getElem? (i := 26) rfl)
theorem hw_567 : (Cond.lays R_Mo "LinePredictModel" "where" "I" : Cond) ∈ vU := vU_9_in _ (List.mem_of_getElem? (i := 27) rfl)
theorem hw_568 : (Cond.lays R_Mo "LinePredictModel" "expected" "I" : Cond) ∈ vU := vU_9_in _ (List.mem_of_getElem? (i := 28) rfl)
theorem hw_569 : (Cond.lays R_Mo "LinePredictModel" "sign" "I" : Cond) ∈ vU := vU_9_in _ (List.mem_of_getElem? (i := 29) rfl)
theorem hw_570 : (Cond.lays R_Mo "LinePredictModel" "rebuilt" "I" : Cond) ∈ vU := vU_9_in _ (List.mem_of_getElem? (i := 30) rfl)
theorem hw_571 : (Cond.laysFinal R_Mo "LinePredictModel" "last" "[I" : Cond) ∈ vU := vU_9_in _ (List.mem_of_getElem? (i := 31) rfl)
theorem hw_572 : (Cond.lays R_Mo "LinePredictModel" "lastContext" "I" : Cond) ∈ vU := vU_9_in _ (List.mem_of_getElem? (i := 32) rfl)
theorem hw_573 : (Cond.lays R_Mo "LinePredictModel" "lastPredicted" "I" : Cond) ∈ vU := vU_9_in _ (List.mem_of_getElem? (i := 33) rfl)
theorem hw_574 : (Cond.arrayClass .boolean : Cond) ∈ vU := vU_9_in _ (List.mem_of_getElem? (i := 34) rfl)
theorem hw_575 : (Cond.methodLink R_La 60 y_Mo_thrown : Cond) ∈ vU := vU_9_in _ (List.mem_of_getElem? (i := 35) rfl)
theorem hw_576 : (Cond.instanceMethod y_Mo_thrown : Cond) ∈ vU := vU_9_in _ (List.mem_of_getElem? (i := 36) rfl)
theorem hw_577 : (Cond.selects R_Mo y_Mo_thrown y_Mo_thrown : Cond) ∈ vU := vU_9_in _ (List.mem_of_getElem? (i := 37) rfl)
theorem hw_578 : (Cond.code y_Mo_thrown b_Mo_thrown 1 (some .int) : Cond) ∈ vU := vU_9_in _ (List.mem_of_getElem? (i := 38) rfl)
theorem hw_579 : (Cond.methodLink R_La 59 y_Mo_thresholds : Cond) ∈ vU := vU_9_in _ (List.mem_of_getElem? (i := 39) rfl)
theorem hw_580 : (Cond.instanceMethod y_Mo_thresholds : Cond) ∈ vU := vU_9_in _ (List.mem_of_getElem? (i := 40) rfl)
theorem hw_581 : (Cond.selects R_Mo y_Mo_thresholds y_Mo_thresholds : Cond) ∈ vU := vU_9_in _ (List.mem_of_getElem? (i := 41) rfl)
theorem hw_582 : (Cond.code y_Mo_thresholds b_Mo_thresholds 5 (some .boolean) : Cond) ∈ vU := vU_9_in _ (List.mem_of_getElem? (i := 42) rfl)
theorem hw_583 : (Cond.methodLink R_Mo 152 y_Mo_isFresh : Cond) ∈ vU := vU_9_in _ (List.mem_of_getElem? (i := 43) rfl)
theorem hw_584 : (Cond.instanceMethod y_Mo_isFresh : Cond) ∈ vU := vU_9_in _ (List.mem_of_getElem? (i := 44) rfl)
theorem hw_585 : (Cond.code y_Mo_isFresh b_Mo_isFresh 1 (some .boolean) : Cond) ∈ vU := vU_9_in _ (List.mem_of_getElem? (i := 45) rfl)
theorem hw_586 : (Cond.methodLink R_La 67 y_Mo_reset : Cond) ∈ vU := vU_9_in _ (List.mem_of_getElem? (i := 46) rfl)
theorem hw_587 : (Cond.instanceMethod y_Mo_reset : Cond) ∈ vU := vU_9_in _ (List.mem_of_getElem? (i := 47) rfl)
theorem hw_588 : (Cond.selects R_Mo y_Mo_reset y_Mo_reset : Cond) ∈ vU := vU_9_in _ (List.mem_of_getElem? (i := 48) rfl)
theorem hw_589 : (Cond.code y_Mo_reset b_Mo_reset 2 (some .boolean) : Cond) ∈ vU := vU_9_in _ (List.mem_of_getElem? (i := 49) rfl)
theorem hw_590 : (Cond.methodLink R_La 71 y_Mo_sample : Cond) ∈ vU := vU_9_in _ (List.mem_of_getElem? (i := 50) rfl)
theorem hw_591 : (Cond.instanceMethod y_Mo_sample : Cond) ∈ vU := vU_9_in _ (List.mem_of_getElem? (i := 51) rfl)
theorem hw_592 : (Cond.selects R_Mo y_Mo_sample y_Mo_sample : Cond) ∈ vU := vU_9_in _ (List.mem_of_getElem? (i := 52) rfl)
theorem hw_593 : (Cond.code y_Mo_sample b_Mo_sample 6 (some .int) : Cond) ∈ vU := vU_9_in _ (List.mem_of_getElem? (i := 53) rfl)
theorem hw_594 : (Cond.methodLink R_Mo 163 y_Mo_isTurn : Cond) ∈ vU := vU_9_in _ (List.mem_of_getElem? (i := 54) rfl)
theorem hw_595 : (Cond.instanceMethod y_Mo_isTurn : Cond) ∈ vU := vU_9_in _ (List.mem_of_getElem? (i := 55) rfl)
theorem hw_596 : (Cond.code y_Mo_isTurn b_Mo_isTurn 3 (some .boolean) : Cond) ∈ vU := vU_9_in _ (List.mem_of_getElem? (i := 56) rfl)
theorem hw_597 : (Cond.methodLink R_Mo 167 y_Mo_look : Cond) ∈ vU := vU_9_in _ (List.mem_of_getElem? (i := 57) rfl)
theorem hw_598 : (Cond.instanceMethod y_Mo_look : Cond) ∈ vU := vU_9_in _ (List.mem_of_getElem? (i := 58) rfl)
theorem hw_599 : (Cond.code y_Mo_look b_Mo_look 8 none : Cond) ∈ vU := vU_9_in _ (List.mem_of_getElem? (i := 59) rfl)
theorem hw_600 : (Cond.methodLink R_Mo 104 y_Mo_isNear : Cond) ∈ vU := vU_10_in _ (List.mem_of_getElem? (i := 0) rfl)
theorem hw_601 : (Cond.instanceMethod y_Mo_isNear : Cond) ∈ vU := vU_10_in _ (List.mem_of_getElem? (i := 1) rfl)
theorem hw_602 : (Cond.code y_Mo_isNear b_Mo_isNear 2 (some .boolean) : Cond) ∈ vU := vU_10_in _ (List.mem_of_getElem? (i := 2) rfl)
theorem hw_603 : (Cond.methodLink R_Mo 88 y_Mo_size : Cond) ∈ vU := vU_10_in _ (List.mem_of_getElem? (i := 3) rfl)
theorem hw_604 : (Cond.static y_Mo_size : Cond) ∈ vU := vU_10_in _ (List.mem_of_getElem? (i := 4) rfl)
theorem hw_605 : (Cond.code y_Mo_size b_Mo_size 1 (some .int) : Cond) ∈ vU := vU_10_in _ (List.mem_of_getElem? (i := 5) rfl)
theorem hw_606 : (Cond.methodLink R_Mo 121 y_Mo_numberOf : Cond) ∈ vU := vU_10_in _ (List.mem_of_getElem? (i := 6) rfl)
theorem hw_607 : (Cond.instanceMethod y_Mo_numberOf : Cond) ∈ vU := vU_10_in _ (List.mem_of_getElem? (i := 7) rfl)
theorem hw_608 : (Cond.code y_Mo_numberOf b_Mo_numberOf 2 (some .int) : Cond) ∈ vU := vU_10_in _ (List.mem_of_getElem? (i := 8) rfl)
theorem hw_609 : (Cond.methodLink R_Mo 170 y_Mo_lay : Cond) ∈ vU := vU_10_in _ (List.mem_of_getElem? (i := 9) rfl)
theorem hw_610 : (Cond.instanceMethod y_Mo_lay : Cond) ∈ vU := vU_10_in _ (List.mem_of_getElem? (i := 10) rfl)
theorem hw_611 : (Cond.code y_Mo_lay b_Mo_lay 3 none : Cond) ∈ vU := vU_10_in _ (List.mem_of_getElem? (i := 11) rfl)
theorem hw_612 : (Cond.methodLink R_Mo 159 y_Mo_noteLast : Cond) ∈ vU := vU_10_in _ (List.mem_of_getElem? (i := 12) rfl)
theorem hw_613 : (Cond.instanceMethod y_Mo_noteLast : Cond) ∈ vU := vU_10_in _ (List.mem_of_getElem? (i := 13) rfl)
theorem hw_614 : (Cond.code y_Mo_noteLast b_Mo_noteLast 3 none : Cond) ∈ vU := vU_10_in _ (List.mem_of_getElem? (i := 14) rfl)
theorem hw_615 : (Cond.constant R_Mo 174 (-2147483648) : Cond) ∈ vU := vU_10_in _ (List.mem_of_getElem? (i := 15) rfl)
theorem hw_616 : (Cond.methodLink R_Mo 175 y_Mo_quantise : Cond) ∈ vU := vU_10_in _ (List.mem_of_getElem? (i := 16) rfl)
theorem hw_617 : (Cond.instanceMethod y_Mo_quantise : Cond) ∈ vU := vU_10_in _ (List.mem_of_getElem? (i := 17) rfl)
theorem hw_618 : (Cond.code y_Mo_quantise b_Mo_quantise 2 (some .int) : Cond) ∈ vU := vU_10_in _ (List.mem_of_getElem? (i := 18) rfl)
theorem hw_619 : (Cond.methodLink R_Mo 142 y_Mo_around : Cond) ∈ vU := vU_10_in _ (List.mem_of_getElem? (i := 19) rfl)
theorem hw_620 : (Cond.instanceMethod y_Mo_around : Cond) ∈ vU := vU_10_in _ (List.mem_of_getElem? (i := 20) rfl)
theorem hw_621 : (Cond.code y_Mo_around b_Mo_around 3 (some .int) : Cond) ∈ vU := vU_10_in _ (List.mem_of_getElem? (i := 21) rfl)
theorem hw_622 : (Cond.methodLink R_Mo 145 y_Mo_fold : Cond) ∈ vU := vU_10_in _ (List.mem_of_getElem? (i := 22) rfl)
theorem hw_623 : (Cond.instanceMethod y_Mo_fold : Cond) ∈ vU := vU_10_in _ (List.mem_of_getElem? (i := 23) rfl)
theorem hw_624 : (Cond.code y_Mo_fold b_Mo_fold 6 (some .int) : Cond) ∈ vU := vU_10_in _ (List.mem_of_getElem? (i := 24) rfl)
theorem hw_625 : (Cond.methodLink R_Mo 133 y_Mo_bitsOf : Cond) ∈ vU := vU_10_in _ (List.mem_of_getElem? (i := 25) rfl)
theorem hw_626 : (Cond.instanceMethod y_Mo_bitsOf : Cond) ∈ vU := vU_10_in _ (List.mem_of_getElem? (i := 26) rfl)
theorem hw_627 : (Cond.code y_Mo_bitsOf b_Mo_bitsOf 5 (some .int) : Cond) ∈ vU := vU_10_in _ (List.mem_of_getElem? (i := 27) rfl)
theorem hw_628 : (Cond.methodLink R_Mo 136 y_Mo_isEnd : Cond) ∈ vU := vU_10_in _ (List.mem_of_getElem? (i := 28) rfl)
theorem hw_629 : (Cond.instanceMethod y_Mo_isEnd : Cond) ∈ vU := vU_10_in _ (List.mem_of_getElem? (i := 29) rfl)
theorem hw_630 : (Cond.code y_Mo_isEnd b_Mo_isEnd 2 (some .boolean) : Cond) ∈ vU := vU_10_in _ (List.mem_of_getElem? (i := 30) rfl)
theorem hw_631 : (Cond.methodLink R_Mo 139 y_Mo_kindOf : Cond) ∈ vU := vU_10_in _ (List.mem_of_getElem? (i := 31) rfl)
theorem hw_632 : (Cond.instanceMethod y_Mo_kindOf : Cond) ∈ vU := vU_10_in _ (List.mem_of_getElem? (i := 32) rfl)
theorem hw_633 : (Cond.code y_Mo_kindOf b_Mo_kindOf 2 (some .int) : Cond) ∈ vU := vU_10_in _ (List.mem_of_getElem? (i := 33) rfl)
theorem hw_634 : (Cond.methodLink R_Mo 178 y_Mo_learn : Cond) ∈ vU := vU_10_in _ (List.mem_of_getElem? (i := 34) rfl)
theorem hw_635 : (Cond.instanceMethod y_Mo_learn : Cond) ∈ vU := vU_10_in _ (List.mem_of_getElem? (i := 35) rfl)
theorem hw_636 : (Cond.code y_Mo_learn b_Mo_learn 4 none : Cond) ∈ vU := vU_10_in _ (List.mem_of_getElem? (i := 36) rfl)
theorem hw_637 : (Cond.methodLink R_Mo 148 y_Mo_halve : Cond) ∈ vU := vU_10_in _ (List.mem_of_getElem? (i := 37) rfl)
theorem hw_638 : (Cond.instanceMethod y_Mo_halve : Cond) ∈ vU := vU_10_in _ (List.mem_of_getElem? (i := 38) rfl)
theorem hw_639 : (Cond.code y_Mo_halve b_Mo_halve 2 none : Cond) ∈ vU := vU_10_in _ (List.mem_of_getElem? (i := 39) rfl)
theorem hw_640 : (Cond.methodLink R_La 74 y_Mo_back : Cond) ∈ vU := vU_10_in _ (List.mem_of_getElem? (i := 40) rfl)
theorem hw_641 : (Cond.instanceMethod y_Mo_back : Cond) ∈ vU := vU_10_in _ (List.mem_of_getElem? (i := 41) rfl)
theorem hw_642 : (Cond.selects R_Mo y_Mo_back y_Mo_back : Cond) ∈ vU := vU_10_in _ (List.mem_of_getElem? (i := 42) rfl)
theorem hw_643 : (Cond.code y_Mo_back b_Mo_back 7 (some .int) : Cond) ∈ vU := vU_10_in _ (List.mem_of_getElem? (i := 43) rfl)
theorem hw_644 : (Cond.methodLink R_Mo 182 y_Mo_unfold : Cond) ∈ vU := vU_10_in _ (List.mem_of_getElem? (i := 44) rfl)
theorem hw_645 : (Cond.instanceMethod y_Mo_unfold : Cond) ∈ vU := vU_10_in _ (List.mem_of_getElem? (i := 45) rfl)
theorem hw_646 : (Cond.code y_Mo_unfold b_Mo_unfold 6 (some .int) : Cond) ∈ vU := vU_10_in _ (List.mem_of_getElem? (i := 46) rfl)
theorem hw_647 : (Cond.methodLink R_La 79 y_Mo_endRow : Cond) ∈ vU := vU_10_in _ (List.mem_of_getElem? (i := 47) rfl)
theorem hw_648 : (Cond.instanceMethod y_Mo_endRow : Cond) ∈ vU := vU_10_in _ (List.mem_of_getElem? (i := 48) rfl)
theorem hw_649 : (Cond.selects R_Mo y_Mo_endRow y_Mo_endRow : Cond) ∈ vU := vU_10_in _ (List.mem_of_getElem? (i := 49) rfl)
theorem hw_650 : (Cond.code y_Mo_endRow b_Mo_endRow 4 (some .boolean) : Cond) ∈ vU := vU_10_in _ (List.mem_of_getElem? (i := 50) rfl)
theorem hw_651 : (Cond.methodLink R_La 83 y_Mo_context : Cond) ∈ vU := vU_10_in _ (List.mem_of_getElem? (i := 51) rfl)
theorem hw_652 : (Cond.instanceMethod y_Mo_context : Cond) ∈ vU := vU_10_in _ (List.mem_of_getElem? (i := 52) rfl)
theorem hw_653 : (Cond.selects R_Mo y_Mo_context y_Mo_context : Cond) ∈ vU := vU_10_in _ (List.mem_of_getElem? (i := 53) rfl)
theorem hw_654 : (Cond.code y_Mo_context b_Mo_context 1 (some .int) : Cond) ∈ vU := vU_10_in _ (List.mem_of_getElem? (i := 54) rfl)
theorem hw_655 : (Cond.methodLink R_La 87 y_Mo_predicted : Cond) ∈ vU := vU_10_in _ (List.mem_of_getElem? (i := 55) rfl)
theorem hw_656 : (Cond.instanceMethod y_Mo_predicted : Cond) ∈ vU := vU_10_in _ (List.mem_of_getElem? (i := 56) rfl)
theorem hw_657 : (Cond.selects R_Mo y_Mo_predicted y_Mo_predicted : Cond) ∈ vU := vU_10_in _ (List.mem_of_getElem? (i := 57) rfl)
theorem hw_658 : (Cond.code y_Mo_predicted b_Mo_predicted 1 (some .int) : Cond) ∈ vU := vU_10_in _ (List.mem_of_getElem? (i := 58) rfl)
theorem hw_659 : (Cond.methodLink R_La 90 y_Mo_neighbour : Cond) ∈ vU := vU_10_in _ (List.mem_of_getElem? (i := 59) rfl)
theorem hw_660 : (Cond.instanceMethod y_Mo_neighbour : Cond) ∈ vU := vU_11_in _ (List.mem_of_getElem? (i := 0) rfl)
theorem hw_661 : (Cond.selects R_Mo y_Mo_neighbour y_Mo_neighbour : Cond) ∈ vU := vU_11_in _ (List.mem_of_getElem? (i := 1) rfl)
theorem hw_662 : (Cond.code y_Mo_neighbour b_Mo_neighbour 2 (some .int) : Cond) ∈ vU := vU_11_in _ (List.mem_of_getElem? (i := 2) rfl)
theorem hw_663 : (Cond.methodLink R_La 93 y_Mo_state : Cond) ∈ vU := vU_11_in _ (List.mem_of_getElem? (i := 3) rfl)
theorem hw_664 : (Cond.instanceMethod y_Mo_state : Cond) ∈ vU := vU_11_in _ (List.mem_of_getElem? (i := 4) rfl)
theorem hw_665 : (Cond.selects R_Mo y_Mo_state y_Mo_state : Cond) ∈ vU := vU_11_in _ (List.mem_of_getElem? (i := 5) rfl)
theorem hw_666 : (Cond.code y_Mo_state b_Mo_state 5 (some .int) : Cond) ∈ vU := vU_11_in _ (List.mem_of_getElem? (i := 6) rfl)
theorem hw_667 : (Cond.methodLink R_La 97 y_Mo_runs : Cond) ∈ vU := vU_11_in _ (List.mem_of_getElem? (i := 7) rfl)
theorem hw_668 : (Cond.instanceMethod y_Mo_runs : Cond) ∈ vU := vU_11_in _ (List.mem_of_getElem? (i := 8) rfl)
theorem hw_669 : (Cond.selects R_Mo y_Mo_runs y_Mo_runs : Cond) ∈ vU := vU_11_in _ (List.mem_of_getElem? (i := 9) rfl)
theorem hw_670 : (Cond.code y_Mo_runs b_Mo_runs 1 (some .int) : Cond) ∈ vU := vU_11_in _ (List.mem_of_getElem? (i := 10) rfl)
theorem hw_671 : (Cond.methodLink R_La 100 y_Mo_quantised : Cond) ∈ vU := vU_11_in _ (List.mem_of_getElem? (i := 11) rfl)
theorem hw_672 : (Cond.instanceMethod y_Mo_quantised : Cond) ∈ vU := vU_11_in _ (List.mem_of_getElem? (i := 12) rfl)
theorem hw_673 : (Cond.selects R_Mo y_Mo_quantised y_Mo_quantised : Cond) ∈ vU := vU_11_in _ (List.mem_of_getElem? (i := 13) rfl)
theorem hw_674 : (Cond.code y_Mo_quantised b_Mo_quantised 2 (some .int) : Cond) ∈ vU := vU_11_in _ (List.mem_of_getElem? (i := 14) rfl)
theorem hw_675 : (Cond.constant R_Mo 185 (-70000) : Cond) ∈ vU := vU_11_in _ (List.mem_of_getElem? (i := 15) rfl)
theorem hw_676 : (Cond.constant R_Mo 186 70000 : Cond) ∈ vU := vU_11_in _ (List.mem_of_getElem? (i := 16) rfl)
theorem hw_677 : (Cond.methodLink R_La 103 y_Mo_setting : Cond) ∈ vU := vU_11_in _ (List.mem_of_getElem? (i := 17) rfl)
theorem hw_678 : (Cond.instanceMethod y_Mo_setting : Cond) ∈ vU := vU_11_in _ (List.mem_of_getElem? (i := 18) rfl)
theorem hw_679 : (Cond.selects R_Mo y_Mo_setting y_Mo_setting : Cond) ∈ vU := vU_11_in _ (List.mem_of_getElem? (i := 19) rfl)
theorem hw_680 : (Cond.code y_Mo_setting b_Mo_setting 2 (some .int) : Cond) ∈ vU := vU_11_in _ (List.mem_of_getElem? (i := 20) rfl)
theorem hw_681 : (Cond.arrayClass .long : Cond) ∈ vU := vU_11_in _ (List.mem_of_getElem? (i := 21) rfl)
set_option maxRecDepth 20000 in
theorem vU_0_good : vU_0.all goodWord = true := by decide +kernel
set_option maxRecDepth 20000 in
theorem vU_0_tbl : vU_0 = [0, 1, 2, 3, 4, 5, 6, 7, 8, 9, 10, 11, 12, 13, 14, 15, 16, 17, 18, 19, 20, 21, 22, 23, 24, 25, 26, 27, 28, 29, 30, 31, 32, 33, 34, 35, 36, 37, 38, 39, 40, 41, 42, 43, 44, 45, 46, 47, 48, 49, 50, 51, 52, 53, 54, 55, 56, 57, 58, 59].filterMap (fun i => lw_tbl[i]?) := by rfl
set_option maxRecDepth 20000 in
theorem vU_1_good : vU_1.all goodWord = true := by decide +kernel
set_option maxRecDepth 20000 in
theorem vU_1_tbl : vU_1 = [60, 61, 62, 63, 64, 65, 66, 67, 68, 69, 71, 73, 74, 75, 77, 78, 79, 80, 82, 83, 84, 85, 86, 87, 88, 89, 90, 91, 92, 93, 94, 95, 96, 97, 98, 99, 100, 101, 102, 103, 104, 106, 108, 110, 112, 114, 116, 118, 121, 122, 123, 124, 125, 126, 127, 128, 129, 130, 131, 132].filterMap (fun i => lw_tbl[i]?) := by rfl
set_option maxRecDepth 20000 in
theorem vU_2_good : vU_2.all goodWord = true := by decide +kernel
set_option maxRecDepth 20000 in
theorem vU_2_tbl : vU_2 = [133, 134, 135, 136, 137, 138, 139, 140, 141, 142, 144, 146, 148, 150, 153, 154, 155, 156, 157, 158, 159, 160, 161, 162, 163, 164, 165, 166, 167, 168, 169, 171, 173, 175, 177, 179, 181, 183, 185, 188, 189, 191, 192, 193, 194, 195, 196, 197, 198, 199, 200, 201, 202, 203, 204, 205, 206, 207, 208, 209].filterMap (fun i => lw_tbl[i]?) := by rfl
set_option maxRecDepth 20000 in
theorem vU_3_good : vU_3.all goodWord = true := by decide +kernel
set_option maxRecDepth 20000 in
theorem vU_3_tbl : vU_3 = [210, 211, 212, 213, 214, 215, 217, 219, 221, 223, 225, 227, 229, 231, 234, 235, 236, 237, 238, 239, 240, 241, 243, 245, 247, 249, 251, 253, 256, 257, 258, 259, 260, 261, 262, 263, 264, 265, 266, 267, 268, 269, 270, 271, 272, 273, 274, 275, 276, 277, 278, 279, 280, 281, 282, 283, 284, 285, 286, 287].filterMap (fun i => lw_tbl[i]?) := by rfl
set_option maxRecDepth 20000 in
theorem vU_4_good : vU_4.all goodWord = true := by decide +kernel
set_option maxRecDepth 20000 in
theorem vU_4_tbl : vU_4 = [288, 296, 297, 298, 299, 300, 301, 302, 303, 304, 305, 306, 307, 308, 310, 311, 312, 313, 315, 317, 318, 320, 321, 323, 325, 326, 327, 329, 330, 331, 332, 333, 334, 335, 336, 337, 338, 339, 340, 341, 342, 343, 344, 345, 350, 354, 355, 356, 357, 358, 359, 360, 361, 362, 363, 364, 365, 366, 367, 368].filterMap (fun i => lw_tbl[i]?) := by rfl
set_option maxRecDepth 20000 in
theorem vU_5_good : vU_5.all goodWord = true := by decide +kernel
set_option maxRecDepth 20000 in
theorem vU_5_tbl : vU_5 = [369, 370, 371, 372, 373, 375, 376, 378, 379, 380, 381, 382, 383, 385, 386, 387, 388, 389, 391, 392, 393, 394, 395, 397, 398, 399, 401, 402, 403, 404, 405, 406, 407, 408, 409, 410, 411, 412, 413, 414, 415, 416, 417, 418, 419, 420, 421, 422, 424, 425, 426, 427, 428, 429, 430, 431, 432, 433, 434, 435].filterMap (fun i => lw_tbl[i]?) := by rfl
set_option maxRecDepth 20000 in
theorem vU_6_good : vU_6.all goodWord = true := by decide +kernel
set_option maxRecDepth 20000 in
theorem vU_6_tbl : vU_6 = [436, 437, 438, 439, 440, 442, 443, 444, 445, 446, 447, 448, 449, 450, 451, 452, 453, 454, 455, 456, 457, 458, 459, 460, 461, 462, 463, 464, 465, 466, 467, 468, 469, 470, 472, 473, 474, 476, 477, 478, 480, 481, 482, 483, 484, 485, 487, 488, 489, 490, 491, 492, 493, 495, 496, 497, 499, 500, 501, 502].filterMap (fun i => lw_tbl[i]?) := by rfl
set_option maxRecDepth 20000 in
theorem vU_7_good : vU_7.all goodWord = true := by decide +kernel
set_option maxRecDepth 20000 in
theorem vU_7_tbl : vU_7 = [503, 504, 505, 506, 507, 508, 509, 510, 511, 512, 513, 516, 517, 518, 519, 520, 522, 523, 525, 526, 527, 528, 529, 530, 531, 532, 533, 534, 535, 536, 537, 538, 540, 541, 542, 543, 544, 545, 547, 548, 549, 550, 551, 553, 554, 555, 556, 557, 558, 559, 561, 564, 565, 566, 567, 568, 569, 570, 571, 572].filterMap (fun i => lw_tbl[i]?) := by rfl
set_option maxRecDepth 20000 in
theorem vU_8_good : vU_8.all goodWord = true := by decide +kernel
set_option maxRecDepth 20000 in
theorem vU_8_tbl : vU_8 = [573, 574, 575, 576, 578, 579, 580, 581, 582, 583, 584, 586, 587, 588, 589, 590, 591, 592, 593, 594, 595, 596, 597, 599, 600, 601, 602, 603, 604, 605, 606, 607, 608, 609, 610, 611, 612, 613, 614, 615, 616, 617, 618, 619, 620, 621, 622, 623, 624, 625, 626, 627, 628, 629, 630, 631, 632, 633, 634, 635].filterMap (fun i => lw_tbl[i]?) := by rfl
set_option maxRecDepth 20000 in
theorem vU_9_good : vU_9.all goodWord = true := by decide +kernel
set_option maxRecDepth 20000 in
theorem vU_9_tbl : vU_9 = [636, 637, 639, 641, 643, 645, 647, 649, 651, 653, 655, 657, 659, 661, 663, 665, 667, 669, 671, 673, 675, 677, 679, 681, 683, 685, 687, 689, 691, 693, 695, 697, 699, 701, 704, 705, 706, 707, 708, 709, 710, 711, 712, 713, 715, 716, 717, 718, 719, 720, 721, 722, 723, 724, 725, 727, 728, 729, 731, 732].filterMap (fun i => lw_tbl[i]?) := by rfl
set_option maxRecDepth 20000 in
theorem vU_10_good : vU_10.all goodWord = true := by decide +kernel
set_option maxRecDepth 20000 in
theorem vU_10_tbl : vU_10 = [733, 735, 736, 737, 738, 739, 740, 742, 743, 744, 746, 747, 748, 750, 751, 752, 753, 755, 756, 757, 759, 760, 761, 763, 764, 765, 767, 768, 769, 771, 772, 773, 775, 776, 777, 779, 780, 781, 783, 784, 785, 786, 787, 788, 789, 791, 792, 793, 794, 795, 796, 797, 798, 799, 800, 801, 802, 803, 804, 805].filterMap (fun i => lw_tbl[i]?) := by rfl
set_option maxRecDepth 20000 in
theorem vU_11_good : vU_11.all goodWord = true := by decide +kernel
set_option maxRecDepth 20000 in
theorem vU_11_tbl : vU_11 = [806, 807, 808, 809, 810, 811, 812, 813, 814, 815, 816, 817, 818, 819, 820, 821, 822, 823, 824, 825, 826, 827].filterMap (fun i => lw_tbl[i]?) := by rfl
theorem vU_ix {big ws : List Cond} {ps : List Nat} (h : ws = ps.filterMap (fun i => big[i]?)) : ∀ w ∈ ws, w ∈ big := by
  intro w hw
  rw [h] at hw
  obtain ⟨i, -, hi⟩ := List.mem_filterMap.mp hw
  exact List.mem_of_getElem? hi
theorem vU_tbl : ∀ w ∈ vU, w ∈ lw_tbl := fun w h => (List.mem_append.mp h).elim (fun h => vU_ix vU_0_tbl w h) (fun h => (List.mem_append.mp h).elim (fun h => vU_ix vU_1_tbl w h) (fun h => (List.mem_append.mp h).elim (fun h => vU_ix vU_2_tbl w h) (fun h => (List.mem_append.mp h).elim (fun h => vU_ix vU_3_tbl w h) (fun h => (List.mem_append.mp h).elim (fun h => vU_ix vU_4_tbl w h) (fun h => (List.mem_append.mp h).elim (fun h => vU_ix vU_5_tbl w h) (fun h => (List.mem_append.mp h).elim (fun h => vU_ix vU_6_tbl w h) (fun h => (List.mem_append.mp h).elim (fun h => vU_ix vU_7_tbl w h) (fun h => (List.mem_append.mp h).elim (fun h => vU_ix vU_8_tbl w h) (fun h => (List.mem_append.mp h).elim (fun h => vU_ix vU_9_tbl w h) (fun h => (List.mem_append.mp h).elim (fun h => vU_ix vU_10_tbl w h) (fun h => vU_ix vU_11_tbl w h)))))))))))
theorem vU_good : ∀ w ∈ vU, ((w.onTables && w.keeps) = true ∨ ∃ ty, w = .arrayClass ty) := fun w h => good_of_word ((List.mem_append.mp h).elim (fun h => List.all_eq_true.mp vU_0_good w h) (fun h => (List.mem_append.mp h).elim (fun h => List.all_eq_true.mp vU_1_good w h) (fun h => (List.mem_append.mp h).elim (fun h => List.all_eq_true.mp vU_2_good w h) (fun h => (List.mem_append.mp h).elim (fun h => List.all_eq_true.mp vU_3_good w h) (fun h => (List.mem_append.mp h).elim (fun h => List.all_eq_true.mp vU_4_good w h) (fun h => (List.mem_append.mp h).elim (fun h => List.all_eq_true.mp vU_5_good w h) (fun h => (List.mem_append.mp h).elim (fun h => List.all_eq_true.mp vU_6_good w h) (fun h => (List.mem_append.mp h).elim (fun h => List.all_eq_true.mp vU_7_good w h) (fun h => (List.mem_append.mp h).elim (fun h => List.all_eq_true.mp vU_8_good w h) (fun h => (List.mem_append.mp h).elim (fun h => List.all_eq_true.mp vU_9_good w h) (fun h => (List.mem_append.mp h).elim (fun h => List.all_eq_true.mp vU_10_good w h) (fun h => List.all_eq_true.mp vU_11_good w h))))))))))))
set_option maxRecDepth 20000 in
theorem in_Lp : ∀ w ∈ u_ws R_Lp T_Lp 7, w ∈ vU := by
  intro w hw
  have h9 : u_ws R_Lp T_Lp 7 = [.laysFinal R_Lp "LinePredict" "scale" "LLinePredict$Scale;", .laysFinal R_Lp "LinePredict" "coder" "LLinePredict$Side;", .laysFinal R_Lp "LinePredict" "decoder" "LLinePredict$Side;", .lays R_Lp "LinePredict" "last" "LLinePredict$Outlook;", .lays R_Lp "LinePredict" "spare" "LLinePredict$Outlook;", .lays R_Lp "LinePredict" "runsBegun" "I", .lays R_Lp "LinePredict" "anyTold" "Z"] := by rfl
  rw [h9] at hw
  simp only [List.mem_cons, List.not_mem_nil, or_false] at hw
  rcases hw with rfl | rfl | rfl | rfl | rfl | rfl | rfl
  · exact hw_201
  · exact hw_202
  · exact hw_203
  · exact hw_204
  · exact hw_205
  · exact hw_206
  · exact hw_207
set_option maxRecDepth 20000 in
theorem in_Sc : ∀ w ∈ u_ws R_Sc T_Sc 8, w ∈ vU := by
  intro w hw
  have h9 : u_ws R_Sc T_Sc 8 = [.laysFinal R_Sc "LinePredict$Scale" "max" "I", .laysFinal R_Sc "LinePredict$Scale" "near" "I", .laysFinal R_Sc "LinePredict$Scale" "step" "I", .laysFinal R_Sc "LinePredict$Scale" "range" "I", .lays R_Sc "LinePredict$Scale" "t1" "I", .lays R_Sc "LinePredict$Scale" "t2" "I", .lays R_Sc "LinePredict$Scale" "t3" "I", .lays R_Sc "LinePredict$Scale" "resetAt" "I"] := by rfl
  rw [h9] at hw
  simp only [List.mem_cons, List.not_mem_nil, or_false] at hw
  rcases hw with rfl | rfl | rfl | rfl | rfl | rfl | rfl | rfl
  · exact hw_100
  · exact hw_101
  · exact hw_102
  · exact hw_103
  · exact hw_104
  · exact hw_105
  · exact hw_106
  · exact hw_107
set_option maxRecDepth 20000 in
theorem in_Si : ∀ w ∈ u_ws R_Si T_Si 9, w ∈ vU := by
  intro w hw
  have h9 : u_ws R_Si T_Si 9 = [.laysFinal R_Si "LinePredict$Side" "contexts" "LLinePredict$Contexts;", .laysFinal R_Si "LinePredict$Side" "scale" "LLinePredict$Scale;", .laysFinal R_Si "LinePredict$Side" "width" "I", .lays R_Si "LinePredict$Side" "place" "I", .lays R_Si "LinePredict$Side" "line" "I", .lays R_Si "LinePredict$Side" "running" "Z", .laysFinal R_Si "LinePredict$Side" "row" "[I", .lays R_Si "LinePredict$Side" "corner" "I", .lays R_Si "LinePredict$Side" "aboveFirst" "I"] := by rfl
  rw [h9] at hw
  simp only [List.mem_cons, List.not_mem_nil, or_false] at hw
  rcases hw with rfl | rfl | rfl | rfl | rfl | rfl | rfl | rfl | rfl
  · exact hw_150
  · exact hw_151
  · exact hw_152
  · exact hw_153
  · exact hw_154
  · exact hw_155
  · exact hw_156
  · exact hw_157
  · exact hw_158
set_option maxRecDepth 20000 in
theorem in_Ou : ∀ w ∈ u_ws R_Ou T_Ou 9, w ∈ vU := by
  intro w hw
  have h9 : u_ws R_Ou T_Ou 9 = [.lays R_Ou "LinePredict$Outlook" "a" "I", .lays R_Ou "LinePredict$Outlook" "b" "I", .lays R_Ou "LinePredict$Outlook" "c" "I", .lays R_Ou "LinePredict$Outlook" "d" "I", .lays R_Ou "LinePredict$Outlook" "ofRun" "Z", .lays R_Ou "LinePredict$Outlook" "number" "I", .lays R_Ou "LinePredict$Outlook" "sign" "I", .lays R_Ou "LinePredict$Outlook" "expected" "I", .lays R_Ou "LinePredict$Outlook" "rebuilt" "I"] := by rfl
  rw [h9] at hw
  simp only [List.mem_cons, List.not_mem_nil, or_false] at hw
  rcases hw with rfl | rfl | rfl | rfl | rfl | rfl | rfl | rfl | rfl
  · exact hw_185
  · exact hw_186
  · exact hw_187
  · exact hw_188
  · exact hw_189
  · exact hw_190
  · exact hw_191
  · exact hw_192
  · exact hw_193
set_option maxRecDepth 20000 in
theorem in_Co : ∀ w ∈ u_ws R_Co T_Co 5, w ∈ vU := by
  intro w hw
  have h9 : u_ws R_Co T_Co 5 = [.laysFinal R_Co "LinePredict$Contexts" "scale" "LLinePredict$Scale;", .laysFinal R_Co "LinePredict$Contexts" "sizes" "[I", .laysFinal R_Co "LinePredict$Contexts" "leanings" "[I", .laysFinal R_Co "LinePredict$Contexts" "corrections" "[I", .laysFinal R_Co "LinePredict$Contexts" "counts" "[I"] := by rfl
  rw [h9] at hw
  simp only [List.mem_cons, List.not_mem_nil, or_false] at hw
  rcases hw with rfl | rfl | rfl | rfl | rfl
  · exact hw_129
  · exact hw_130
  · exact hw_131
  · exact hw_132
  · exact hw_133
set_option maxRecDepth 20000 in
theorem in_Mo : ∀ w ∈ u_ws R_Mo T_Mo 33, w ∈ vU := by
  intro w hw
  have h9 : u_ws R_Mo T_Mo 33 = [.lays R_Mo "LinePredictModel" "code" "I", .laysFinal R_Mo "LinePredictModel" "width" "I", .laysFinal R_Mo "LinePredictModel" "max" "I", .laysFinal R_Mo "LinePredictModel" "near" "I", .laysFinal R_Mo "LinePredictModel" "step" "I", .laysFinal R_Mo "LinePredictModel" "range" "I", .lays R_Mo "LinePredictModel" "first" "I", .lays R_Mo "LinePredictModel" "second" "I", .lays R_Mo "LinePredictModel" "third" "I", .lays R_Mo "LinePredictModel" "halving" "I", .laysFinal R_Mo "LinePredictModel" "rows" "[I", .laysFinal R_Mo "LinePredictModel" "aboves" "[I", .laysFinal R_Mo "LinePredictModel" "corners" "[I", .laysFinal R_Mo "LinePredictModel" "xs" "[I", .laysFinal R_Mo "LinePredictModel" "ys" "[I", .laysFinal R_Mo "LinePredictModel" "goingOn" "[Z", .lays R_Mo "LinePredictModel" "begun" "I", .laysFinal R_Mo "LinePredictModel" "as" "[I", .laysFinal R_Mo "LinePredictModel" "ns" "[I", .laysFinal R_Mo "LinePredictModel" "bs" "[I", .laysFinal R_Mo "LinePredictModel" "cs" "[I", .lays R_Mo "LinePredictModel" "a" "I", .lays R_Mo "LinePredictModel" "b" "I", .lays R_Mo "LinePredictModel" "c" "I", .lays R_Mo "LinePredictModel" "d" "I", .lays R_Mo "LinePredictModel" "inRun" "Z", .lays R_Mo "LinePredictModel" "where" "I", .lays R_Mo "LinePredictModel" "expected" "I", .lays R_Mo "LinePredictModel" "sign" "I", .lays R_Mo "LinePredictModel" "rebuilt" "I", .laysFinal R_Mo "LinePredictModel" "last" "[I", .lays R_Mo "LinePredictModel" "lastContext" "I", .lays R_Mo "LinePredictModel" "lastPredicted" "I"] := by rfl
  rw [h9] at hw
  simp only [List.mem_cons, List.not_mem_nil, or_false] at hw
  rcases hw with rfl | rfl | rfl | rfl | rfl | rfl | rfl | rfl | rfl | rfl | rfl | rfl | rfl | rfl | rfl | rfl | rfl | rfl | rfl | rfl | rfl | rfl | rfl | rfl | rfl | rfl | rfl | rfl | rfl | rfl | rfl | rfl | rfl
  · exact hw_541
  · exact hw_542
  · exact hw_543
  · exact hw_544
  · exact hw_545
  · exact hw_546
  · exact hw_547
  · exact hw_548
  · exact hw_549
  · exact hw_550
  · exact hw_551
  · exact hw_552
  · exact hw_553
  · exact hw_554
  · exact hw_555
  · exact hw_556
  · exact hw_557
  · exact hw_558
  · exact hw_559
  · exact hw_560
  · exact hw_561
  · exact hw_562
  · exact hw_563
  · exact hw_564
  · exact hw_565
  · exact hw_566
  · exact hw_567
  · exact hw_568
  · exact hw_569
  · exact hw_570
  · exact hw_571
  · exact hw_572
  · exact hw_573
