def R_W : String := "WayTable"
def F_W : u_T := fun k => match k with
  | 0 => ("WayTable", "graph", "LWayTable$Graph;", true)
  | 1 => ("WayTable", "table", "LWayTable$Table;", true)
  | _ => ("WayTable", "walk", "I", false)
def ty_W : Nat → FieldType := fun k => match k with
  | 0 => .object "WayTable$Graph"
  | 1 => .object "WayTable$Table"
  | _ => .int
def R_G : String := "WayTable$Graph"
def F_G : u_T := fun k => match k with
  | 0 => ("WayTable$Graph", "nodeCount", "I", false)
  | 1 => ("WayTable$Graph", "letterCount", "I", false)
  | 2 => ("WayTable$Graph", "startNode", "I", false)
  | _ => ("WayTable$Graph", "targets", "[I", true)
def ty_G : Nat → FieldType := fun k => match k with
  | 0 => .int
  | 1 => .int
  | 2 => .int
  | _ => .array .int
def R_T : String := "WayTable$Table"
def F_T : u_T := fun k => match k with
  | 0 => ("WayTable$Table", "letterCount", "I", false)
  | 1 => ("WayTable$Table", "setCount", "I", false)
  | 2 => ("WayTable$Table", "stateCount", "I", false)
  | 3 => ("WayTable$Table", "longestRow", "I", false)
  | 4 => ("WayTable$Table", "sets", "[I", true)
  | 5 => ("WayTable$Table", "found", "[I", true)
  | 6 => ("WayTable$Table", "steps", "[I", true)
  | 7 => ("WayTable$Table", "leaders", "[I", true)
  | 8 => ("WayTable$Table", "leadersBefore", "[I", true)
  | 9 => ("WayTable$Table", "stateOf", "[I", true)
  | 10 => ("WayTable$Table", "leaderOfState", "[I", true)
  | _ => ("WayTable$Table", "rowLengths", "[I", true)
def ty_T : Nat → FieldType := fun k => match k with
  | 0 => .int
  | 1 => .int
  | 2 => .int
  | 3 => .int
  | 4 => .array .int
  | 5 => .array .int
  | 6 => .array .int
  | 7 => .array .int
  | 8 => .array .int
  | 9 => .array .int
  | 10 => .array .int
  | _ => .array .int
def R_M : String := "WayTableModel"
def F_M : u_T := fun k => match k with
  | 0 => ("WayTableModel", "thrown", "I", false)
  | 1 => ("WayTableModel", "nodes", "I", false)
  | 2 => ("WayTableModel", "letters", "I", false)
  | 3 => ("WayTableModel", "start", "I", false)
  | 4 => ("WayTableModel", "ways", "[I", true)
  | 5 => ("WayTableModel", "setMany", "I", false)
  | 6 => ("WayTableModel", "tableLetters", "I", false)
  | 7 => ("WayTableModel", "sets", "[I", true)
  | 8 => ("WayTableModel", "goes", "[I", true)
  | 9 => ("WayTableModel", "lengths", "[I", true)
  | 10 => ("WayTableModel", "firsts", "[I", true)
  | 11 => ("WayTableModel", "stateOf", "[I", true)
  | 12 => ("WayTableModel", "setOf", "[I", true)
  | 13 => ("WayTableModel", "states", "I", false)
  | 14 => ("WayTableModel", "walk", "I", false)
  | 15 => ("WayTableModel", "newSets", "[I", true)
  | _ => ("WayTableModel", "newGoes", "[I", true)
def ty_M : Nat → FieldType := fun k => match k with
  | 0 => .int
  | 1 => .int
  | 2 => .int
  | 3 => .int
  | 4 => .array .int
  | 5 => .int
  | 6 => .int
  | 7 => .array .int
  | 8 => .array .int
  | 9 => .array .int
  | 10 => .array .int
  | 11 => .array .int
  | 12 => .array .int
  | 13 => .int
  | 14 => .int
  | 15 => .array .int
  | _ => .array .int
abbrev classes : List vw_C := [(R_W, F_W, 3), (R_G, F_G, 4), (R_T, F_T, 12), (R_M, F_M, 17)]
def wC (cI : ClassId) (q : Nat → Nat) (σ : (Nat → Int32) × (Nat → Nat → Int32)) : va_W := [(q 0, .inr (0, [.ref (q 1), .ref (q 3), .int (σ.1 0)])),
  (q 1, .inr (1, [.int (σ.1 1), .int (σ.1 2), .int (σ.1 3), .ref (q 2)])),
  (q 2, .inl (cI, 960, .inl (σ.2 0))),
  (q 3, .inr (2, [.int (σ.1 4), .int (σ.1 5), .int (σ.1 6), .int (σ.1 7), .ref (q 4), .ref (q 5), .ref (q 6), .ref (q 7), .ref (q 8), .ref (q 9), .ref (q 10), .ref (q 11)])),
  (q 4, .inl (cI, 120, .inl (σ.2 1))),
  (q 5, .inl (cI, 120, .inl (σ.2 2))),
  (q 6, .inl (cI, 4800, .inl (σ.2 3))),
  (q 7, .inl (cI, 120, .inl (σ.2 4))),
  (q 8, .inl (cI, 120, .inl (σ.2 5))),
  (q 9, .inl (cI, 120, .inl (σ.2 6))),
  (q 10, .inl (cI, 120, .inl (σ.2 7))),
  (q 11, .inl (cI, 7140, .inl (σ.2 8)))]
def wM (cI : ClassId) (q : Nat → Nat) (σ : (Nat → Int32) × (Nat → Nat → Int32)) : va_W := [(q 0, .inr (3, [.int (σ.1 0), .int (σ.1 1), .int (σ.1 2), .int (σ.1 3), .ref (q 1), .int (σ.1 4), .int (σ.1 5), .ref (q 2), .ref (q 3), .ref (q 4), .ref (q 5), .ref (q 6), .ref (q 7), .int (σ.1 6), .int (σ.1 7), .ref (q 8), .ref (q 9)])),
  (q 1, .inl (cI, 960, .inl (σ.2 0))),
  (q 2, .inl (cI, 120, .inl (σ.2 1))),
  (q 3, .inl (cI, 4800, .inl (σ.2 2))),
  (q 4, .inl (cI, 14400, .inl (σ.2 3))),
  (q 5, .inl (cI, 14400, .inl (σ.2 4))),
  (q 6, .inl (cI, 120, .inl (σ.2 5))),
  (q 7, .inl (cI, 120, .inl (σ.2 6))),
  (q 8, .inl (cI, 121, .inl (σ.2 7))),
  (q 9, .inl (cI, 4800, .inl (σ.2 8)))]
abbrev b_G_init : ByteArray := prog_2_method_1_code
def y_G_init : MethodName := ⟨"WayTable$Graph", "<init>", "()V"⟩
abbrev b_T_init : ByteArray := prog_3_method_1_code
def y_T_init : MethodName := ⟨"WayTable$Table", "<init>", "()V"⟩
abbrev b_W_init : ByteArray := prog_1_method_1_code
def y_W_init : MethodName := ⟨"WayTable", "<init>", "()V"⟩
abbrev b_M_init : ByteArray := prog_5_method_1_code
def y_M_init : MethodName := ⟨"WayTableModel", "<init>", "()V"⟩
abbrev b_A_fill2 : ByteArray := prog_9_method_103_code
def y_A_fill2 : MethodName := ⟨"java/util/Arrays", "fill", "([II)V"⟩
abbrev b_G_clear : ByteArray := prog_2_method_3_code
def y_G_clear : MethodName := ⟨"WayTable$Graph", "clear", "(II)V"⟩
abbrev b_W_begin : ByteArray := prog_1_method_2_code
def y_W_begin : MethodName := ⟨"WayTable", "begin", "(II)Z"⟩
abbrev b_M_begin : ByteArray := prog_5_method_5_code
def y_M_begin : MethodName := ⟨"WayTableModel", "begin", "(II)Z"⟩
abbrev b_G_hasNode : ByteArray := prog_2_method_4_code
def y_G_hasNode : MethodName := ⟨"WayTable$Graph", "hasNode", "(I)Z"⟩
abbrev b_G_hasLetter : ByteArray := prog_2_method_5_code
def y_G_hasLetter : MethodName := ⟨"WayTable$Graph", "hasLetter", "(I)Z"⟩
abbrev b_G_canHold : ByteArray := prog_2_method_6_code
def y_G_canHold : MethodName := ⟨"WayTable$Graph", "canHold", "(III)Z"⟩
abbrev b_G_place : ByteArray := prog_2_method_2_code
def y_G_place : MethodName := ⟨"WayTable$Graph", "place", "(II)I"⟩
abbrev b_G_holds : ByteArray := prog_2_method_7_code
def y_G_holds : MethodName := ⟨"WayTable$Graph", "holds", "(III)Z"⟩
abbrev b_G_flip : ByteArray := prog_2_method_8_code
def y_G_flip : MethodName := ⟨"WayTable$Graph", "flip", "(III)V"⟩
abbrev b_W_way : ByteArray := prog_1_method_3_code
def y_W_way : MethodName := ⟨"WayTable", "way", "(IIIZ)Z"⟩
abbrev b_M_isNode : ByteArray := prog_5_method_3_code
def y_M_isNode : MethodName := ⟨"WayTableModel", "isNode", "(I)Z"⟩
abbrev b_M_isLetter : ByteArray := prog_5_method_4_code
def y_M_isLetter : MethodName := ⟨"WayTableModel", "isLetter", "(I)Z"⟩
abbrev b_M_is : ByteArray := prog_5_method_10_code
def y_M_is : MethodName := ⟨"WayTableModel", "is", "(III)Z"⟩
abbrev b_M_way : ByteArray := prog_5_method_6_code
def y_M_way : MethodName := ⟨"WayTableModel", "way", "(IIIZ)Z"⟩
abbrev b_W_fill : ByteArray := prog_1_method_4_code
def y_W_fill : MethodName := ⟨"WayTable", "fill", "(II)I"⟩
abbrev b_M_fill : ByteArray := prog_5_method_7_code
def y_M_fill : MethodName := ⟨"WayTableModel", "fill", "(II)I"⟩
abbrev b_G_transpose : ByteArray := prog_2_method_9_code
def y_G_transpose : MethodName := ⟨"WayTable$Graph", "transpose", "(I)V"⟩
abbrev b_W_turn : ByteArray := prog_1_method_5_code
def y_W_turn : MethodName := ⟨"WayTable", "turn", "()V"⟩
abbrev b_M_turn : ByteArray := prog_5_method_8_code
def y_M_turn : MethodName := ⟨"WayTableModel", "turn", "()V"⟩
abbrev b_W_start : ByteArray := prog_1_method_6_code
def y_W_start : MethodName := ⟨"WayTable", "start", "(I)Z"⟩
abbrev b_M_start : ByteArray := prog_5_method_9_code
def y_M_start : MethodName := ⟨"WayTableModel", "start", "(I)Z"⟩
abbrev b_G_reach : ByteArray := prog_2_method_11_code
def y_G_reach : MethodName := ⟨"WayTable$Graph", "reach", "(II)I"⟩
abbrev b_T_indexOf : ByteArray := prog_3_method_7_code
def y_T_indexOf : MethodName := ⟨"WayTable$Table", "indexOf", "([III)I"⟩
abbrev b_T_findSets : ByteArray := prog_3_method_6_code
def y_T_findSets : MethodName := ⟨"WayTable$Table", "findSets", "(LWayTable$Graph;)I"⟩
abbrev b_T_laySteps : ByteArray := prog_3_method_8_code
def y_T_laySteps : MethodName := ⟨"WayTable$Table", "laySteps", "(LWayTable$Graph;)V"⟩
abbrev b_A_rangeCheck3 : ByteArray := prog_9_method_30_code
def y_A_rangeCheck3 : MethodName := ⟨"java/util/Arrays", "rangeCheck", "(III)V"⟩
abbrev b_A_fill4 : ByteArray := prog_9_method_104_code
def y_A_fill4 : MethodName := ⟨"java/util/Arrays", "fill", "([IIII)V"⟩
abbrev b_T_leaderAfter : ByteArray := prog_3_method_13_code
def y_T_leaderAfter : MethodName := ⟨"WayTable$Table", "leaderAfter", "([III)I"⟩
abbrev b_T_goAlike : ByteArray := prog_3_method_12_code
def y_T_goAlike : MethodName := ⟨"WayTable$Table", "goAlike", "(II)Z"⟩
abbrev b_T_findLeader : ByteArray := prog_3_method_11_code
def y_T_findLeader : MethodName := ⟨"WayTable$Table", "findLeader", "(I)I"⟩
abbrev b_T_pair : ByteArray := prog_3_method_15_code
def y_T_pair : MethodName := ⟨"WayTable$Table", "pair", "(II)I"⟩
abbrev b_T_measure : ByteArray := prog_3_method_14_code
def y_T_measure : MethodName := ⟨"WayTable$Table", "measure", "(II)V"⟩
abbrev b_T_partOnce : ByteArray := prog_3_method_10_code
def y_T_partOnce : MethodName := ⟨"WayTable$Table", "partOnce", "(I)Z"⟩
abbrev b_T_partSets : ByteArray := prog_3_method_9_code
def y_T_partSets : MethodName := ⟨"WayTable$Table", "partSets", "()V"⟩
abbrev b_T_numberStates : ByteArray := prog_3_method_16_code
def y_T_numberStates : MethodName := ⟨"WayTable$Table", "numberStates", "()V"⟩
abbrev b_T_build : ByteArray := prog_3_method_5_code
def y_T_build : MethodName := ⟨"WayTable$Table", "build", "(LWayTable$Graph;)Z"⟩
abbrev b_W_make : ByteArray := prog_1_method_7_code
def y_W_make : MethodName := ⟨"WayTable", "make", "()I"⟩
abbrev b_M_led : ByteArray := prog_5_method_11_code
def y_M_led : MethodName := ⟨"WayTableModel", "led", "(II)I"⟩
abbrev b_M_follow : ByteArray := prog_5_method_12_code
def y_M_follow : MethodName := ⟨"WayTableModel", "follow", "()I"⟩
abbrev b_M_tell : ByteArray := prog_5_method_13_code
def y_M_tell : MethodName := ⟨"WayTableModel", "tell", "(I)Z"⟩
abbrev b_M_leastLike : ByteArray := prog_5_method_14_code
def y_M_leastLike : MethodName := ⟨"WayTableModel", "leastLike", "(I)I"⟩
abbrev b_M_make : ByteArray := prog_5_method_15_code
def y_M_make : MethodName := ⟨"WayTableModel", "make", "()I"⟩
abbrev b_W_home : ByteArray := prog_1_method_8_code
def y_W_home : MethodName := ⟨"WayTable", "home", "()V"⟩
abbrev b_M_home : ByteArray := prog_5_method_16_code
def y_M_home : MethodName := ⟨"WayTableModel", "home", "()V"⟩
abbrev b_T_hasState : ByteArray := prog_3_method_4_code
def y_T_hasState : MethodName := ⟨"WayTable$Table", "hasState", "(I)Z"⟩
abbrev b_T_hasLetter : ByteArray := prog_3_method_2_code
def y_T_hasLetter : MethodName := ⟨"WayTable$Table", "hasLetter", "(I)Z"⟩
abbrev b_T_stateAfter : ByteArray := prog_3_method_17_code
def y_T_stateAfter : MethodName := ⟨"WayTable$Table", "stateAfter", "(II)I"⟩
abbrev b_W_to : ByteArray := prog_1_method_10_code
def y_W_to : MethodName := ⟨"WayTable", "to", "(II)I"⟩
abbrev b_W_go : ByteArray := prog_1_method_9_code
def y_W_go : MethodName := ⟨"WayTable", "go", "(I)I"⟩
abbrev b_M_next : ByteArray := prog_5_method_17_code
def y_M_next : MethodName := ⟨"WayTableModel", "next", "(II)I"⟩
abbrev b_M_go : ByteArray := prog_5_method_18_code
def y_M_go : MethodName := ⟨"WayTableModel", "go", "(I)I"⟩
abbrev b_M_isState : ByteArray := prog_5_method_19_code
def y_M_isState : MethodName := ⟨"WayTableModel", "isState", "(I)Z"⟩
abbrev b_M_to : ByteArray := prog_5_method_20_code
def y_M_to : MethodName := ⟨"WayTableModel", "to", "(II)I"⟩
abbrev b_T_hasSet : ByteArray := prog_3_method_3_code
def y_T_hasSet : MethodName := ⟨"WayTable$Table", "hasSet", "(I)Z"⟩
abbrev b_W_nodes : ByteArray := prog_1_method_11_code
def y_W_nodes : MethodName := ⟨"WayTable", "nodes", "(I)I"⟩
abbrev b_M_nodes : ByteArray := prog_5_method_21_code
def y_M_nodes : MethodName := ⟨"WayTableModel", "nodes", "(I)I"⟩
abbrev b_W_state : ByteArray := prog_1_method_12_code
def y_W_state : MethodName := ⟨"WayTable", "state", "(I)I"⟩
abbrev b_M_state : ByteArray := prog_5_method_22_code
def y_M_state : MethodName := ⟨"WayTableModel", "state", "(I)I"⟩
abbrev b_T_rowLength : ByteArray := prog_3_method_19_code
def y_T_rowLength : MethodName := ⟨"WayTable$Table", "rowLength", "(II)I"⟩
abbrev b_W_apart : ByteArray := prog_1_method_13_code
def y_W_apart : MethodName := ⟨"WayTable", "apart", "(II)I"⟩
abbrev b_M_apart : ByteArray := prog_5_method_23_code
def y_M_apart : MethodName := ⟨"WayTableModel", "apart", "(II)I"⟩
abbrev b_T_lengthBehind : ByteArray := prog_3_method_22_code
def y_T_lengthBehind : MethodName := ⟨"WayTable$Table", "lengthBehind", "(II)I"⟩
abbrev b_T_leastLetter : ByteArray := prog_3_method_21_code
def y_T_leastLetter : MethodName := ⟨"WayTable$Table", "leastLetter", "(III)I"⟩
abbrev b_T_rowLetter : ByteArray := prog_3_method_20_code
def y_T_rowLetter : MethodName := ⟨"WayTable$Table", "rowLetter", "(III)I"⟩
abbrev b_W_apartBy : ByteArray := prog_1_method_14_code
def y_W_apartBy : MethodName := ⟨"WayTable", "apartBy", "(III)I"⟩
abbrev b_M_apartBy : ByteArray := prog_5_method_24_code
def y_M_apartBy : MethodName := ⟨"WayTableModel", "apartBy", "(III)I"⟩
abbrev b_W_is : ByteArray := prog_1_method_15_code
def y_W_is : MethodName := ⟨"WayTable", "is", "(III)Z"⟩
abbrev b_I_bitCount1 : ByteArray := prog_6_method_49_code
def y_I_bitCount1 : MethodName := ⟨"java/lang/Integer", "bitCount", "(I)I"⟩
abbrev b_G_countWays : ByteArray := prog_2_method_10_code
def y_G_countWays : MethodName := ⟨"WayTable$Graph", "countWays", "()I"⟩
abbrev b_T_countGoing : ByteArray := prog_3_method_18_code
def y_T_countGoing : MethodName := ⟨"WayTable$Table", "countGoing", "()I"⟩
abbrev b_W_look : ByteArray := prog_1_method_16_code
def y_W_look : MethodName := ⟨"WayTable", "look", "(I)I"⟩
abbrev b_M_wayMany : ByteArray := prog_5_method_27_code
def y_M_wayMany : MethodName := ⟨"WayTableModel", "wayMany", "()I"⟩
abbrev b_M_somewhere : ByteArray := prog_5_method_25_code
def y_M_somewhere : MethodName := ⟨"WayTableModel", "somewhere", "()I"⟩
abbrev b_M_longest : ByteArray := prog_5_method_26_code
def y_M_longest : MethodName := ⟨"WayTableModel", "longest", "()I"⟩
abbrev b_M_look : ByteArray := prog_5_method_28_code
def y_M_look : MethodName := ⟨"WayTableModel", "look", "(I)I"⟩
