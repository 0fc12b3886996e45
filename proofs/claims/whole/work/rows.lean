section
-- ===== PART A: goes FIRST, ahead of the names: the tables' words, and 'selects' of the private methods out of them =====
/-- a private method of a class that the tables say can be made, by its rows of tables_1 -/
def lw_okq (q : MethodName × Nat) : Prop := (q.1.cls ≠ "java/lang/invoke/MethodHandle" ∧ q.1.cls ≠ "java/lang/invoke/VarHandle") ∧ Cond.instantiable q.1.cls q.2 ∈ tables_1 ∧ Cond.privateMethod q.1 ∈ tables_1 ∧ Cond.instanceMethod q.1 ∈ tables_1
theorem lw_p0 : lw_okq (⟨"WayTable$Graph", "clear", "(II)V"⟩, 4) := ⟨⟨by decide +kernel, by decide +kernel⟩, List.mem_of_getElem? (i := 18) (by decide +kernel), List.mem_of_getElem? (i := 106) (by decide +kernel), List.mem_of_getElem? (i := 107) (by decide +kernel)⟩
theorem lw_p1 : lw_okq (⟨"WayTable$Graph", "canHold", "(III)Z"⟩, 4) := ⟨⟨by decide +kernel, by decide +kernel⟩, List.mem_of_getElem? (i := 18) (by decide +kernel), List.mem_of_getElem? (i := 117) (by decide +kernel), List.mem_of_getElem? (i := 118) (by decide +kernel)⟩
theorem lw_p2 : lw_okq (⟨"WayTable$Graph", "hasNode", "(I)Z"⟩, 4) := ⟨⟨by decide +kernel, by decide +kernel⟩, List.mem_of_getElem? (i := 18) (by decide +kernel), List.mem_of_getElem? (i := 121) (by decide +kernel), List.mem_of_getElem? (i := 122) (by decide +kernel)⟩
theorem lw_p3 : lw_okq (⟨"WayTable$Graph", "hasLetter", "(I)Z"⟩, 4) := ⟨⟨by decide +kernel, by decide +kernel⟩, List.mem_of_getElem? (i := 18) (by decide +kernel), List.mem_of_getElem? (i := 125) (by decide +kernel), List.mem_of_getElem? (i := 126) (by decide +kernel)⟩
theorem lw_p4 : lw_okq (⟨"WayTable$Graph", "holds", "(III)Z"⟩, 4) := ⟨⟨by decide +kernel, by decide +kernel⟩, List.mem_of_getElem? (i := 18) (by decide +kernel), List.mem_of_getElem? (i := 129) (by decide +kernel), List.mem_of_getElem? (i := 130) (by decide +kernel)⟩
theorem lw_p5 : lw_okq (⟨"WayTable$Graph", "flip", "(III)V"⟩, 4) := ⟨⟨by decide +kernel, by decide +kernel⟩, List.mem_of_getElem? (i := 18) (by decide +kernel), List.mem_of_getElem? (i := 136) (by decide +kernel), List.mem_of_getElem? (i := 137) (by decide +kernel)⟩
theorem lw_p6 : lw_okq (⟨"WayTable$Graph", "transpose", "(I)V"⟩, 4) := ⟨⟨by decide +kernel, by decide +kernel⟩, List.mem_of_getElem? (i := 18) (by decide +kernel), List.mem_of_getElem? (i := 150) (by decide +kernel), List.mem_of_getElem? (i := 151) (by decide +kernel)⟩
theorem lw_p7 : lw_okq (⟨"WayTable$Table", "build", "(LWayTable$Graph;)Z"⟩, 12) := ⟨⟨by decide +kernel, by decide +kernel⟩, List.mem_of_getElem? (i := 43) (by decide +kernel), List.mem_of_getElem? (i := 164) (by decide +kernel), List.mem_of_getElem? (i := 165) (by decide +kernel)⟩
theorem lw_p8 : lw_okq (⟨"WayTable$Table", "findSets", "(LWayTable$Graph;)I"⟩, 12) := ⟨⟨by decide +kernel, by decide +kernel⟩, List.mem_of_getElem? (i := 43) (by decide +kernel), List.mem_of_getElem? (i := 168) (by decide +kernel), List.mem_of_getElem? (i := 169) (by decide +kernel)⟩
theorem lw_p9 : lw_okq (⟨"WayTable$Graph", "reach", "(II)I"⟩, 4) := ⟨⟨by decide +kernel, by decide +kernel⟩, List.mem_of_getElem? (i := 18) (by decide +kernel), List.mem_of_getElem? (i := 172) (by decide +kernel), List.mem_of_getElem? (i := 173) (by decide +kernel)⟩
theorem lw_p10 : lw_okq (⟨"WayTable$Table", "laySteps", "(LWayTable$Graph;)V"⟩, 12) := ⟨⟨by decide +kernel, by decide +kernel⟩, List.mem_of_getElem? (i := 43) (by decide +kernel), List.mem_of_getElem? (i := 182) (by decide +kernel), List.mem_of_getElem? (i := 183) (by decide +kernel)⟩
theorem lw_p11 : lw_okq (⟨"WayTable$Table", "partSets", "()V"⟩, 12) := ⟨⟨by decide +kernel, by decide +kernel⟩, List.mem_of_getElem? (i := 43) (by decide +kernel), List.mem_of_getElem? (i := 186) (by decide +kernel), List.mem_of_getElem? (i := 187) (by decide +kernel)⟩
theorem lw_p12 : lw_okq (⟨"WayTable$Table", "partOnce", "(I)Z"⟩, 12) := ⟨⟨by decide +kernel, by decide +kernel⟩, List.mem_of_getElem? (i := 43) (by decide +kernel), List.mem_of_getElem? (i := 196) (by decide +kernel), List.mem_of_getElem? (i := 197) (by decide +kernel)⟩
theorem lw_p13 : lw_okq (⟨"WayTable$Table", "findLeader", "(I)I"⟩, 12) := ⟨⟨by decide +kernel, by decide +kernel⟩, List.mem_of_getElem? (i := 43) (by decide +kernel), List.mem_of_getElem? (i := 200) (by decide +kernel), List.mem_of_getElem? (i := 201) (by decide +kernel)⟩
theorem lw_p14 : lw_okq (⟨"WayTable$Table", "goAlike", "(II)Z"⟩, 12) := ⟨⟨by decide +kernel, by decide +kernel⟩, List.mem_of_getElem? (i := 43) (by decide +kernel), List.mem_of_getElem? (i := 204) (by decide +kernel), List.mem_of_getElem? (i := 205) (by decide +kernel)⟩
theorem lw_p15 : lw_okq (⟨"WayTable$Table", "leaderAfter", "([III)I"⟩, 12) := ⟨⟨by decide +kernel, by decide +kernel⟩, List.mem_of_getElem? (i := 43) (by decide +kernel), List.mem_of_getElem? (i := 208) (by decide +kernel), List.mem_of_getElem? (i := 209) (by decide +kernel)⟩
def lw_privs_1 : List (MethodName × Nat) := [(⟨"WayTable$Graph", "clear", "(II)V"⟩, 4), (⟨"WayTable$Graph", "canHold", "(III)Z"⟩, 4), (⟨"WayTable$Graph", "hasNode", "(I)Z"⟩, 4), (⟨"WayTable$Graph", "hasLetter", "(I)Z"⟩, 4), (⟨"WayTable$Graph", "holds", "(III)Z"⟩, 4), (⟨"WayTable$Graph", "flip", "(III)V"⟩, 4), (⟨"WayTable$Graph", "transpose", "(I)V"⟩, 4), (⟨"WayTable$Table", "build", "(LWayTable$Graph;)Z"⟩, 12), (⟨"WayTable$Table", "findSets", "(LWayTable$Graph;)I"⟩, 12), (⟨"WayTable$Graph", "reach", "(II)I"⟩, 4), (⟨"WayTable$Table", "laySteps", "(LWayTable$Graph;)V"⟩, 12), (⟨"WayTable$Table", "partSets", "()V"⟩, 12), (⟨"WayTable$Table", "partOnce", "(I)Z"⟩, 12), (⟨"WayTable$Table", "findLeader", "(I)I"⟩, 12), (⟨"WayTable$Table", "goAlike", "(II)Z"⟩, 12), (⟨"WayTable$Table", "leaderAfter", "([III)I"⟩, 12)]
theorem lw_r1 : ∀ q ∈ lw_privs_1, lw_okq q := List.forall_mem_cons.mpr ⟨lw_p0, List.forall_mem_cons.mpr ⟨lw_p1, List.forall_mem_cons.mpr ⟨lw_p2, List.forall_mem_cons.mpr ⟨lw_p3, List.forall_mem_cons.mpr ⟨lw_p4, List.forall_mem_cons.mpr ⟨lw_p5, List.forall_mem_cons.mpr ⟨lw_p6, List.forall_mem_cons.mpr ⟨lw_p7, List.forall_mem_cons.mpr ⟨lw_p8, List.forall_mem_cons.mpr ⟨lw_p9, List.forall_mem_cons.mpr ⟨lw_p10, List.forall_mem_cons.mpr ⟨lw_p11, List.forall_mem_cons.mpr ⟨lw_p12, List.forall_mem_cons.mpr ⟨lw_p13, List.forall_mem_cons.mpr ⟨lw_p14, List.forall_mem_cons.mpr ⟨lw_p15, fun _ h => absurd h List.not_mem_nil⟩⟩⟩⟩⟩⟩⟩⟩⟩⟩⟩⟩⟩⟩⟩⟩
theorem lw_p16 : lw_okq (⟨"WayTable$Table", "measure", "(II)V"⟩, 12) := ⟨⟨by decide +kernel, by decide +kernel⟩, List.mem_of_getElem? (i := 43) (by decide +kernel), List.mem_of_getElem? (i := 212) (by decide +kernel), List.mem_of_getElem? (i := 213) (by decide +kernel)⟩
theorem lw_p17 : lw_okq (⟨"WayTable$Table", "numberStates", "()V"⟩, 12) := ⟨⟨by decide +kernel, by decide +kernel⟩, List.mem_of_getElem? (i := 43) (by decide +kernel), List.mem_of_getElem? (i := 225) (by decide +kernel), List.mem_of_getElem? (i := 226) (by decide +kernel)⟩
theorem lw_p18 : lw_okq (⟨"WayTable$Table", "numberState", "(I)V"⟩, 12) := ⟨⟨by decide +kernel, by decide +kernel⟩, List.mem_of_getElem? (i := 43) (by decide +kernel), List.mem_of_getElem? (i := 229) (by decide +kernel), List.mem_of_getElem? (i := 230) (by decide +kernel)⟩
theorem lw_p19 : lw_okq (⟨"WayTable$Table", "hasState", "(I)Z"⟩, 12) := ⟨⟨by decide +kernel, by decide +kernel⟩, List.mem_of_getElem? (i := 43) (by decide +kernel), List.mem_of_getElem? (i := 245) (by decide +kernel), List.mem_of_getElem? (i := 246) (by decide +kernel)⟩
theorem lw_p20 : lw_okq (⟨"WayTable$Table", "hasLetter", "(I)Z"⟩, 12) := ⟨⟨by decide +kernel, by decide +kernel⟩, List.mem_of_getElem? (i := 43) (by decide +kernel), List.mem_of_getElem? (i := 249) (by decide +kernel), List.mem_of_getElem? (i := 250) (by decide +kernel)⟩
theorem lw_p21 : lw_okq (⟨"WayTable$Table", "stateAfter", "(II)I"⟩, 12) := ⟨⟨by decide +kernel, by decide +kernel⟩, List.mem_of_getElem? (i := 43) (by decide +kernel), List.mem_of_getElem? (i := 253) (by decide +kernel), List.mem_of_getElem? (i := 254) (by decide +kernel)⟩
theorem lw_p22 : lw_okq (⟨"WayTable$Table", "hasSet", "(I)Z"⟩, 12) := ⟨⟨by decide +kernel, by decide +kernel⟩, List.mem_of_getElem? (i := 43) (by decide +kernel), List.mem_of_getElem? (i := 262) (by decide +kernel), List.mem_of_getElem? (i := 263) (by decide +kernel)⟩
theorem lw_p23 : lw_okq (⟨"WayTable$Table", "rowLength", "(II)I"⟩, 12) := ⟨⟨by decide +kernel, by decide +kernel⟩, List.mem_of_getElem? (i := 43) (by decide +kernel), List.mem_of_getElem? (i := 274) (by decide +kernel), List.mem_of_getElem? (i := 275) (by decide +kernel)⟩
theorem lw_p24 : lw_okq (⟨"WayTable$Table", "rowLetter", "(III)I"⟩, 12) := ⟨⟨by decide +kernel, by decide +kernel⟩, List.mem_of_getElem? (i := 43) (by decide +kernel), List.mem_of_getElem? (i := 283) (by decide +kernel), List.mem_of_getElem? (i := 284) (by decide +kernel)⟩
theorem lw_p25 : lw_okq (⟨"WayTable$Table", "leastLetter", "(III)I"⟩, 12) := ⟨⟨by decide +kernel, by decide +kernel⟩, List.mem_of_getElem? (i := 43) (by decide +kernel), List.mem_of_getElem? (i := 288) (by decide +kernel), List.mem_of_getElem? (i := 289) (by decide +kernel)⟩
theorem lw_p26 : lw_okq (⟨"WayTable$Table", "lengthBehind", "(II)I"⟩, 12) := ⟨⟨by decide +kernel, by decide +kernel⟩, List.mem_of_getElem? (i := 43) (by decide +kernel), List.mem_of_getElem? (i := 292) (by decide +kernel), List.mem_of_getElem? (i := 293) (by decide +kernel)⟩
theorem lw_p27 : lw_okq (⟨"WayTable$Graph", "countWays", "()I"⟩, 4) := ⟨⟨by decide +kernel, by decide +kernel⟩, List.mem_of_getElem? (i := 18) (by decide +kernel), List.mem_of_getElem? (i := 304) (by decide +kernel), List.mem_of_getElem? (i := 305) (by decide +kernel)⟩
theorem lw_p28 : lw_okq (⟨"WayTable$Table", "countGoing", "()I"⟩, 12) := ⟨⟨by decide +kernel, by decide +kernel⟩, List.mem_of_getElem? (i := 43) (by decide +kernel), List.mem_of_getElem? (i := 314) (by decide +kernel), List.mem_of_getElem? (i := 315) (by decide +kernel)⟩
theorem lw_p29 : lw_okq (⟨"WayTableModel", "follow", "()I"⟩, 17) := ⟨⟨by decide +kernel, by decide +kernel⟩, List.mem_of_getElem? (i := 319) (by decide +kernel), List.mem_of_getElem? (i := 329) (by decide +kernel), List.mem_of_getElem? (i := 330) (by decide +kernel)⟩
theorem lw_p30 : lw_okq (⟨"WayTableModel", "led", "(II)I"⟩, 17) := ⟨⟨by decide +kernel, by decide +kernel⟩, List.mem_of_getElem? (i := 319) (by decide +kernel), List.mem_of_getElem? (i := 333) (by decide +kernel), List.mem_of_getElem? (i := 334) (by decide +kernel)⟩
theorem lw_p31 : lw_okq (⟨"WayTableModel", "tell", "(I)Z"⟩, 17) := ⟨⟨by decide +kernel, by decide +kernel⟩, List.mem_of_getElem? (i := 319) (by decide +kernel), List.mem_of_getElem? (i := 337) (by decide +kernel), List.mem_of_getElem? (i := 338) (by decide +kernel)⟩
def lw_privs_2 : List (MethodName × Nat) := [(⟨"WayTable$Table", "measure", "(II)V"⟩, 12), (⟨"WayTable$Table", "numberStates", "()V"⟩, 12), (⟨"WayTable$Table", "numberState", "(I)V"⟩, 12), (⟨"WayTable$Table", "hasState", "(I)Z"⟩, 12), (⟨"WayTable$Table", "hasLetter", "(I)Z"⟩, 12), (⟨"WayTable$Table", "stateAfter", "(II)I"⟩, 12), (⟨"WayTable$Table", "hasSet", "(I)Z"⟩, 12), (⟨"WayTable$Table", "rowLength", "(II)I"⟩, 12), (⟨"WayTable$Table", "rowLetter", "(III)I"⟩, 12), (⟨"WayTable$Table", "leastLetter", "(III)I"⟩, 12), (⟨"WayTable$Table", "lengthBehind", "(II)I"⟩, 12), (⟨"WayTable$Graph", "countWays", "()I"⟩, 4), (⟨"WayTable$Table", "countGoing", "()I"⟩, 12), (⟨"WayTableModel", "follow", "()I"⟩, 17), (⟨"WayTableModel", "led", "(II)I"⟩, 17), (⟨"WayTableModel", "tell", "(I)Z"⟩, 17)]
theorem lw_r2 : ∀ q ∈ lw_privs_2, lw_okq q := List.forall_mem_cons.mpr ⟨lw_p16, List.forall_mem_cons.mpr ⟨lw_p17, List.forall_mem_cons.mpr ⟨lw_p18, List.forall_mem_cons.mpr ⟨lw_p19, List.forall_mem_cons.mpr ⟨lw_p20, List.forall_mem_cons.mpr ⟨lw_p21, List.forall_mem_cons.mpr ⟨lw_p22, List.forall_mem_cons.mpr ⟨lw_p23, List.forall_mem_cons.mpr ⟨lw_p24, List.forall_mem_cons.mpr ⟨lw_p25, List.forall_mem_cons.mpr ⟨lw_p26, List.forall_mem_cons.mpr ⟨lw_p27, List.forall_mem_cons.mpr ⟨lw_p28, List.forall_mem_cons.mpr ⟨lw_p29, List.forall_mem_cons.mpr ⟨lw_p30, List.forall_mem_cons.mpr ⟨lw_p31, fun _ h => absurd h List.not_mem_nil⟩⟩⟩⟩⟩⟩⟩⟩⟩⟩⟩⟩⟩⟩⟩⟩
theorem lw_p32 : lw_okq (⟨"WayTableModel", "leastLike", "(I)I"⟩, 17) := ⟨⟨by decide +kernel, by decide +kernel⟩, List.mem_of_getElem? (i := 319) (by decide +kernel), List.mem_of_getElem? (i := 341) (by decide +kernel), List.mem_of_getElem? (i := 342) (by decide +kernel)⟩
theorem lw_p33 : lw_okq (⟨"WayTableModel", "isNode", "(I)Z"⟩, 17) := ⟨⟨by decide +kernel, by decide +kernel⟩, List.mem_of_getElem? (i := 319) (by decide +kernel), List.mem_of_getElem? (i := 405) (by decide +kernel), List.mem_of_getElem? (i := 406) (by decide +kernel)⟩
theorem lw_p34 : lw_okq (⟨"WayTableModel", "isLetter", "(I)Z"⟩, 17) := ⟨⟨by decide +kernel, by decide +kernel⟩, List.mem_of_getElem? (i := 319) (by decide +kernel), List.mem_of_getElem? (i := 409) (by decide +kernel), List.mem_of_getElem? (i := 410) (by decide +kernel)⟩
theorem lw_p35 : lw_okq (⟨"WayTableModel", "next", "(II)I"⟩, 17) := ⟨⟨by decide +kernel, by decide +kernel⟩, List.mem_of_getElem? (i := 319) (by decide +kernel), List.mem_of_getElem? (i := 440) (by decide +kernel), List.mem_of_getElem? (i := 441) (by decide +kernel)⟩
theorem lw_p36 : lw_okq (⟨"WayTableModel", "isState", "(I)Z"⟩, 17) := ⟨⟨by decide +kernel, by decide +kernel⟩, List.mem_of_getElem? (i := 319) (by decide +kernel), List.mem_of_getElem? (i := 448) (by decide +kernel), List.mem_of_getElem? (i := 449) (by decide +kernel)⟩
theorem lw_p37 : lw_okq (⟨"WayTableModel", "wayMany", "()I"⟩, 17) := ⟨⟨by decide +kernel, by decide +kernel⟩, List.mem_of_getElem? (i := 319) (by decide +kernel), List.mem_of_getElem? (i := 472) (by decide +kernel), List.mem_of_getElem? (i := 473) (by decide +kernel)⟩
theorem lw_p38 : lw_okq (⟨"WayTableModel", "somewhere", "()I"⟩, 17) := ⟨⟨by decide +kernel, by decide +kernel⟩, List.mem_of_getElem? (i := 319) (by decide +kernel), List.mem_of_getElem? (i := 476) (by decide +kernel), List.mem_of_getElem? (i := 477) (by decide +kernel)⟩
theorem lw_p39 : lw_okq (⟨"WayTableModel", "longest", "()I"⟩, 17) := ⟨⟨by decide +kernel, by decide +kernel⟩, List.mem_of_getElem? (i := 319) (by decide +kernel), List.mem_of_getElem? (i := 480) (by decide +kernel), List.mem_of_getElem? (i := 481) (by decide +kernel)⟩
def lw_privs_3 : List (MethodName × Nat) := [(⟨"WayTableModel", "leastLike", "(I)I"⟩, 17), (⟨"WayTableModel", "isNode", "(I)Z"⟩, 17), (⟨"WayTableModel", "isLetter", "(I)Z"⟩, 17), (⟨"WayTableModel", "next", "(II)I"⟩, 17), (⟨"WayTableModel", "isState", "(I)Z"⟩, 17), (⟨"WayTableModel", "wayMany", "()I"⟩, 17), (⟨"WayTableModel", "somewhere", "()I"⟩, 17), (⟨"WayTableModel", "longest", "()I"⟩, 17)]
theorem lw_r3 : ∀ q ∈ lw_privs_3, lw_okq q := List.forall_mem_cons.mpr ⟨lw_p32, List.forall_mem_cons.mpr ⟨lw_p33, List.forall_mem_cons.mpr ⟨lw_p34, List.forall_mem_cons.mpr ⟨lw_p35, List.forall_mem_cons.mpr ⟨lw_p36, List.forall_mem_cons.mpr ⟨lw_p37, List.forall_mem_cons.mpr ⟨lw_p38, List.forall_mem_cons.mpr ⟨lw_p39, fun _ h => absurd h List.not_mem_nil⟩⟩⟩⟩⟩⟩⟩⟩
def lw_privs : List (MethodName × Nat) := lw_privs_1 ++ (lw_privs_2 ++ (lw_privs_3))
def lw_tbl : List Cond := k2_sels lw_privs ++ tables_1
theorem lw_privs_ok : ∀ q ∈ lw_privs, lw_okq q := by
  show ∀ q ∈ lw_privs_1 ++ (lw_privs_2 ++ (lw_privs_3)), lw_okq q
  exact List.forall_mem_append.mpr ⟨lw_r1, List.forall_mem_append.mpr ⟨lw_r2, lw_r3⟩⟩
end
section
def R_W : String := "WayTable"
def F_W : u_T := fun k => match k with
  | 0 => ("WayTable", "graph", "LWayTable$Graph;", true)
  | 1 => ("WayTable", "table", "LWayTable$Table;", true)
  | _ => ("WayTable", "walk", "I", false)
def ty_W : Nat → FieldType := fun k => match k with
  | 0 => .object "WayTable$Graph"
  | 1 => .object "WayTable$Table"
  | _ => .int
def R_G : String := "WayTable$Graph"
def F_G : u_T := fun k => match k with
  | 0 => ("WayTable$Graph", "nodeCount", "I", false)
  | 1 => ("WayTable$Graph", "letterCount", "I", false)
  | 2 => ("WayTable$Graph", "startNode", "I", false)
  | _ => ("WayTable$Graph", "targets", "[I", true)
def ty_G : Nat → FieldType := fun k => match k with
  | 0 => .int
  | 1 => .int
  | 2 => .int
  | _ => .array .int
def R_T : String := "WayTable$Table"
def F_T : u_T := fun k => match k with
  | 0 => ("WayTable$Table", "letterCount", "I", false)
  | 1 => ("WayTable$Table", "setCount", "I", false)
  | 2 => ("WayTable$Table", "stateCount", "I", false)
  | 3 => ("WayTable$Table", "longestRow", "I", false)
  | 4 => ("WayTable$Table", "sets", "[I", true)
  | 5 => ("WayTable$Table", "found", "[I", true)
  | 6 => ("WayTable$Table", "steps", "[I", true)
  | 7 => ("WayTable$Table", "leaders", "[I", true)
  | 8 => ("WayTable$Table", "leadersBefore", "[I", true)
  | 9 => ("WayTable$Table", "stateOf", "[I", true)
  | 10 => ("WayTable$Table", "leaderOfState", "[I", true)
  | _ => ("WayTable$Table", "rowLengths", "[I", true)
def ty_T : Nat → FieldType := fun k => match k with
  | 0 => .int
  | 1 => .int
  | 2 => .int
  | 3 => .int
  | 4 => .array .int
  | 5 => .array .int
  | 6 => .array .int
  | 7 => .array .int
  | 8 => .array .int
  | 9 => .array .int
  | 10 => .array .int
  | _ => .array .int
def R_M : String := "WayTableModel"
def F_M : u_T := fun k => match k with
  | 0 => ("WayTableModel", "thrown", "I", false)
  | 1 => ("WayTableModel", "nodes", "I", false)
  | 2 => ("WayTableModel", "letters", "I", false)
  | 3 => ("WayTableModel", "start", "I", false)
  | 4 => ("WayTableModel", "ways", "[I", true)
  | 5 => ("WayTableModel", "setMany", "I", false)
  | 6 => ("WayTableModel", "tableLetters", "I", false)
  | 7 => ("WayTableModel", "sets", "[I", true)
  | 8 => ("WayTableModel", "goes", "[I", true)
  | 9 => ("WayTableModel", "lengths", "[I", true)
  | 10 => ("WayTableModel", "firsts", "[I", true)
  | 11 => ("WayTableModel", "stateOf", "[I", true)
  | 12 => ("WayTableModel", "setOf", "[I", true)
  | 13 => ("WayTableModel", "states", "I", false)
  | 14 => ("WayTableModel", "walk", "I", false)
  | 15 => ("WayTableModel", "newSets", "[I", true)
  | _ => ("WayTableModel", "newGoes", "[I", true)
def ty_M : Nat → FieldType := fun k => match k with
  | 0 => .int
  | 1 => .int
  | 2 => .int
  | 3 => .int
  | 4 => .array .int
  | 5 => .int
  | 6 => .int
  | 7 => .array .int
  | 8 => .array .int
  | 9 => .array .int
  | 10 => .array .int
  | 11 => .array .int
  | 12 => .array .int
  | 13 => .int
  | 14 => .int
  | 15 => .array .int
  | _ => .array .int
abbrev classes : List vw_C := [(R_W, F_W, 3), (R_G, F_G, 4), (R_T, F_T, 12), (R_M, F_M, 17)]
def wC (cI : ClassId) (q : Nat → Nat) (σ : (Nat → Int32) × (Nat → Nat → Int32)) : va_W := [(q 0, .inr (0, [.ref (q 1), .ref (q 3), .int (σ.1 0)])),
  (q 1, .inr (1, [.int (σ.1 1), .int (σ.1 2), .int (σ.1 3), .ref (q 2)])),
  (q 2, .inl (cI, 960, .inl (σ.2 0))),
  (q 3, .inr (2, [.int (σ.1 4), .int (σ.1 5), .int (σ.1 6), .int (σ.1 7), .ref (q 4), .ref (q 5), .ref (q 6), .ref (q 7), .ref (q 8), .ref (q 9), .ref (q 10), .ref (q 11)])),
  (q 4, .inl (cI, 120, .inl (σ.2 1))),
  (q 5, .inl (cI, 120, .inl (σ.2 2))),
  (q 6, .inl (cI, 4800, .inl (σ.2 3))),
  (q 7, .inl (cI, 120, .inl (σ.2 4))),
  (q 8, .inl (cI, 120, .inl (σ.2 5))),
  (q 9, .inl (cI, 120, .inl (σ.2 6))),
  (q 10, .inl (cI, 120, .inl (σ.2 7))),
  (q 11, .inl (cI, 7140, .inl (σ.2 8)))]
def wM (cI : ClassId) (q : Nat → Nat) (σ : (Nat → Int32) × (Nat → Nat → Int32)) : va_W := [(q 0, .inr (3, [.int (σ.1 0), .int (σ.1 1), .int (σ.1 2), .int (σ.1 3), .ref (q 1), .int (σ.1 4), .int (σ.1 5), .ref (q 2), .ref (q 3), .ref (q 4), .ref (q 5), .ref (q 6), .ref (q 7), .int (σ.1 6), .int (σ.1 7), .ref (q 8), .ref (q 9)])),
  (q 1, .inl (cI, 960, .inl (σ.2 0))),
  (q 2, .inl (cI, 120, .inl (σ.2 1))),
  (q 3, .inl (cI, 4800, .inl (σ.2 2))),
  (q 4, .inl (cI, 14400, .inl (σ.2 3))),
  (q 5, .inl (cI, 14400, .inl (σ.2 4))),
  (q 6, .inl (cI, 120, .inl (σ.2 5))),
  (q 7, .inl (cI, 120, .inl (σ.2 6))),
  (q 8, .inl (cI, 121, .inl (σ.2 7))),
  (q 9, .inl (cI, 4800, .inl (σ.2 8)))]
abbrev b_G_init : ByteArray := prog_2_method_1_code
def y_G_init : MethodName := ⟨"WayTable$Graph", "<init>", "()V"⟩
abbrev b_T_init : ByteArray := prog_3_method_1_code
def y_T_init : MethodName := ⟨"WayTable$Table", "<init>", "()V"⟩
abbrev b_W_init : ByteArray := prog_1_method_1_code
def y_W_init : MethodName := ⟨"WayTable", "<init>", "()V"⟩
abbrev b_M_init : ByteArray := prog_5_method_1_code
def y_M_init : MethodName := ⟨"WayTableModel", "<init>", "()V"⟩
abbrev b_A_fill2 : ByteArray := prog_9_method_103_code
def y_A_fill2 : MethodName := ⟨"java/util/Arrays", "fill", "([II)V"⟩
abbrev b_G_clear : ByteArray := prog_2_method_3_code
def y_G_clear : MethodName := ⟨"WayTable$Graph", "clear", "(II)V"⟩
abbrev b_W_begin : ByteArray := prog_1_method_2_code
def y_W_begin : MethodName := ⟨"WayTable", "begin", "(II)Z"⟩
abbrev b_M_begin : ByteArray := prog_5_method_5_code
def y_M_begin : MethodName := ⟨"WayTableModel", "begin", "(II)Z"⟩
abbrev b_G_hasNode : ByteArray := prog_2_method_4_code
def y_G_hasNode : MethodName := ⟨"WayTable$Graph", "hasNode", "(I)Z"⟩
abbrev b_G_hasLetter : ByteArray := prog_2_method_5_code
def y_G_hasLetter : MethodName := ⟨"WayTable$Graph", "hasLetter", "(I)Z"⟩
abbrev b_G_canHold : ByteArray := prog_2_method_6_code
def y_G_canHold : MethodName := ⟨"WayTable$Graph", "canHold", "(III)Z"⟩
abbrev b_G_place : ByteArray := prog_2_method_2_code
def y_G_place : MethodName := ⟨"WayTable$Graph", "place", "(II)I"⟩
abbrev b_G_holds : ByteArray := prog_2_method_7_code
def y_G_holds : MethodName := ⟨"WayTable$Graph", "holds", "(III)Z"⟩
abbrev b_G_flip : ByteArray := prog_2_method_8_code
def y_G_flip : MethodName := ⟨"WayTable$Graph", "flip", "(III)V"⟩
abbrev b_W_way : ByteArray := prog_1_method_3_code
def y_W_way : MethodName := ⟨"WayTable", "way", "(IIIZ)Z"⟩
abbrev b_M_isNode : ByteArray := prog_5_method_3_code
def y_M_isNode : MethodName := ⟨"WayTableModel", "isNode", "(I)Z"⟩
abbrev b_M_isLetter : ByteArray := prog_5_method_4_code
def y_M_isLetter : MethodName := ⟨"WayTableModel", "isLetter", "(I)Z"⟩
abbrev b_M_is : ByteArray := prog_5_method_10_code
def y_M_is : MethodName := ⟨"WayTableModel", "is", "(III)Z"⟩
abbrev b_M_way : ByteArray := prog_5_method_6_code
def y_M_way : MethodName := ⟨"WayTableModel", "way", "(IIIZ)Z"⟩
abbrev b_W_fill : ByteArray := prog_1_method_4_code
def y_W_fill : MethodName := ⟨"WayTable", "fill", "(II)I"⟩
abbrev b_M_fill : ByteArray := prog_5_method_7_code
def y_M_fill : MethodName := ⟨"WayTableModel", "fill", "(II)I"⟩
abbrev b_G_transpose : ByteArray := prog_2_method_9_code
def y_G_transpose : MethodName := ⟨"WayTable$Graph", "transpose", "(I)V"⟩
abbrev b_W_turn : ByteArray := prog_1_method_5_code
def y_W_turn : MethodName := ⟨"WayTable", "turn", "()V"⟩
abbrev b_M_turn : ByteArray := prog_5_method_8_code
def y_M_turn : MethodName := ⟨"WayTableModel", "turn", "()V"⟩
abbrev b_W_start : ByteArray := prog_1_method_6_code
def y_W_start : MethodName := ⟨"WayTable", "start", "(I)Z"⟩
abbrev b_M_start : ByteArray := prog_5_method_9_code
def y_M_start : MethodName := ⟨"WayTableModel", "start", "(I)Z"⟩
abbrev b_G_reach : ByteArray := prog_2_method_11_code
def y_G_reach : MethodName := ⟨"WayTable$Graph", "reach", "(II)I"⟩
abbrev b_T_indexOf : ByteArray := prog_3_method_7_code
def y_T_indexOf : MethodName := ⟨"WayTable$Table", "indexOf", "([III)I"⟩
abbrev b_T_findSets : ByteArray := prog_3_method_6_code
def y_T_findSets : MethodName := ⟨"WayTable$Table", "findSets", "(LWayTable$Graph;)I"⟩
abbrev b_T_laySteps : ByteArray := prog_3_method_8_code
def y_T_laySteps : MethodName := ⟨"WayTable$Table", "laySteps", "(LWayTable$Graph;)V"⟩
abbrev b_A_rangeCheck3 : ByteArray := prog_9_method_30_code
def y_A_rangeCheck3 : MethodName := ⟨"java/util/Arrays", "rangeCheck", "(III)V"⟩
abbrev b_A_fill4 : ByteArray := prog_9_method_104_code
def y_A_fill4 : MethodName := ⟨"java/util/Arrays", "fill", "([IIII)V"⟩
abbrev b_T_leaderAfter : ByteArray := prog_3_method_13_code
def y_T_leaderAfter : MethodName := ⟨"WayTable$Table", "leaderAfter", "([III)I"⟩
abbrev b_T_goAlike : ByteArray := prog_3_method_12_code
def y_T_goAlike : MethodName := ⟨"WayTable$Table", "goAlike", "(II)Z"⟩
abbrev b_T_findLeader : ByteArray := prog_3_method_11_code
def y_T_findLeader : MethodName := ⟨"WayTable$Table", "findLeader", "(I)I"⟩
abbrev b_T_pair : ByteArray := prog_3_method_15_code
def y_T_pair : MethodName := ⟨"WayTable$Table", "pair", "(II)I"⟩
abbrev b_T_measure : ByteArray := prog_3_method_14_code
def y_T_measure : MethodName := ⟨"WayTable$Table", "measure", "(II)V"⟩
abbrev b_T_partOnce : ByteArray := prog_3_method_10_code
def y_T_partOnce : MethodName := ⟨"WayTable$Table", "partOnce", "(I)Z"⟩
abbrev b_T_partSets : ByteArray := prog_3_method_9_code
def y_T_partSets : MethodName := ⟨"WayTable$Table", "partSets", "()V"⟩
abbrev b_T_numberState : ByteArray := prog_3_method_17_code
def y_T_numberState : MethodName := ⟨"WayTable$Table", "numberState", "(I)V"⟩
abbrev b_T_numberStates : ByteArray := prog_3_method_16_code
def y_T_numberStates : MethodName := ⟨"WayTable$Table", "numberStates", "()V"⟩
abbrev b_T_build : ByteArray := prog_3_method_5_code
def y_T_build : MethodName := ⟨"WayTable$Table", "build", "(LWayTable$Graph;)Z"⟩
abbrev b_W_make : ByteArray := prog_1_method_7_code
def y_W_make : MethodName := ⟨"WayTable", "make", "()I"⟩
abbrev b_M_led : ByteArray := prog_5_method_11_code
def y_M_led : MethodName := ⟨"WayTableModel", "led", "(II)I"⟩
abbrev b_M_follow : ByteArray := prog_5_method_12_code
def y_M_follow : MethodName := ⟨"WayTableModel", "follow", "()I"⟩
abbrev b_M_tell : ByteArray := prog_5_method_13_code
def y_M_tell : MethodName := ⟨"WayTableModel", "tell", "(I)Z"⟩
abbrev b_M_leastLike : ByteArray := prog_5_method_14_code
def y_M_leastLike : MethodName := ⟨"WayTableModel", "leastLike", "(I)I"⟩
abbrev b_M_make : ByteArray := prog_5_method_15_code
def y_M_make : MethodName := ⟨"WayTableModel", "make", "()I"⟩
abbrev b_W_home : ByteArray := prog_1_method_8_code
def y_W_home : MethodName := ⟨"WayTable", "home", "()V"⟩
abbrev b_M_home : ByteArray := prog_5_method_16_code
def y_M_home : MethodName := ⟨"WayTableModel", "home", "()V"⟩
abbrev b_T_hasState : ByteArray := prog_3_method_4_code
def y_T_hasState : MethodName := ⟨"WayTable$Table", "hasState", "(I)Z"⟩
abbrev b_T_hasLetter : ByteArray := prog_3_method_2_code
def y_T_hasLetter : MethodName := ⟨"WayTable$Table", "hasLetter", "(I)Z"⟩
abbrev b_T_stateAfter : ByteArray := prog_3_method_18_code
def y_T_stateAfter : MethodName := ⟨"WayTable$Table", "stateAfter", "(II)I"⟩
abbrev b_W_to : ByteArray := prog_1_method_10_code
def y_W_to : MethodName := ⟨"WayTable", "to", "(II)I"⟩
abbrev b_W_go : ByteArray := prog_1_method_9_code
def y_W_go : MethodName := ⟨"WayTable", "go", "(I)I"⟩
abbrev b_M_next : ByteArray := prog_5_method_17_code
def y_M_next : MethodName := ⟨"WayTableModel", "next", "(II)I"⟩
abbrev b_M_go : ByteArray := prog_5_method_18_code
def y_M_go : MethodName := ⟨"WayTableModel", "go", "(I)I"⟩
abbrev b_M_isState : ByteArray := prog_5_method_19_code
def y_M_isState : MethodName := ⟨"WayTableModel", "isState", "(I)Z"⟩
abbrev b_M_to : ByteArray := prog_5_method_20_code
def y_M_to : MethodName := ⟨"WayTableModel", "to", "(II)I"⟩
abbrev b_T_hasSet : ByteArray := prog_3_method_3_code
def y_T_hasSet : MethodName := ⟨"WayTable$Table", "hasSet", "(I)Z"⟩
abbrev b_W_nodes : ByteArray := prog_1_method_11_code
def y_W_nodes : MethodName := ⟨"WayTable", "nodes", "(I)I"⟩
abbrev b_M_nodes : ByteArray := prog_5_method_21_code
def y_M_nodes : MethodName := ⟨"WayTableModel", "nodes", "(I)I"⟩
abbrev b_W_state : ByteArray := prog_1_method_12_code
def y_W_state : MethodName := ⟨"WayTable", "state", "(I)I"⟩
abbrev b_M_state : ByteArray := prog_5_method_22_code
def y_M_state : MethodName := ⟨"WayTableModel", "state", "(I)I"⟩
abbrev b_T_rowLength : ByteArray := prog_3_method_20_code
def y_T_rowLength : MethodName := ⟨"WayTable$Table", "rowLength", "(II)I"⟩
abbrev b_W_apart : ByteArray := prog_1_method_13_code
def y_W_apart : MethodName := ⟨"WayTable", "apart", "(II)I"⟩
abbrev b_M_apart : ByteArray := prog_5_method_23_code
def y_M_apart : MethodName := ⟨"WayTableModel", "apart", "(II)I"⟩
abbrev b_T_lengthBehind : ByteArray := prog_3_method_23_code
def y_T_lengthBehind : MethodName := ⟨"WayTable$Table", "lengthBehind", "(II)I"⟩
abbrev b_T_leastLetter : ByteArray := prog_3_method_22_code
def y_T_leastLetter : MethodName := ⟨"WayTable$Table", "leastLetter", "(III)I"⟩
abbrev b_T_rowLetter : ByteArray := prog_3_method_21_code
def y_T_rowLetter : MethodName := ⟨"WayTable$Table", "rowLetter", "(III)I"⟩
abbrev b_W_apartBy : ByteArray := prog_1_method_14_code
def y_W_apartBy : MethodName := ⟨"WayTable", "apartBy", "(III)I"⟩
abbrev b_M_apartBy : ByteArray := prog_5_method_24_code
def y_M_apartBy : MethodName := ⟨"WayTableModel", "apartBy", "(III)I"⟩
abbrev b_W_is : ByteArray := prog_1_method_15_code
def y_W_is : MethodName := ⟨"WayTable", "is", "(III)Z"⟩
abbrev b_I_bitCount1 : ByteArray := prog_6_method_49_code
def y_I_bitCount1 : MethodName := ⟨"java/lang/Integer", "bitCount", "(I)I"⟩
abbrev b_G_countWays : ByteArray := prog_2_method_10_code
def y_G_countWays : MethodName := ⟨"WayTable$Graph", "countWays", "()I"⟩
abbrev b_T_countGoing : ByteArray := prog_3_method_19_code
def y_T_countGoing : MethodName := ⟨"WayTable$Table", "countGoing", "()I"⟩
abbrev b_W_look : ByteArray := prog_1_method_16_code
def y_W_look : MethodName := ⟨"WayTable", "look", "(I)I"⟩
abbrev b_M_wayMany : ByteArray := prog_5_method_27_code
def y_M_wayMany : MethodName := ⟨"WayTableModel", "wayMany", "()I"⟩
abbrev b_M_somewhere : ByteArray := prog_5_method_25_code
def y_M_somewhere : MethodName := ⟨"WayTableModel", "somewhere", "()I"⟩
abbrev b_M_longest : ByteArray := prog_5_method_26_code
def y_M_longest : MethodName := ⟨"WayTableModel", "longest", "()I"⟩
abbrev b_M_look : ByteArray := prog_5_method_28_code
def y_M_look : MethodName := ⟨"WayTableModel", "look", "(I)I"⟩
end
section
/-! THE FRAME OF THIS PROOF: a judgement VV (a world, locals, a place, a stack), a row an instruction; contracts CI, CV over weakest preconditions. -/
abbrev St : Type := (Nat → Int32) × (Nat → Nat → Int32)
def us (σ : St) (k : Nat) (v : Int32) : St := (upd σ.1 k v, σ.2)
def uA (σ : St) (k : Nat) (f : Nat → Int32) : St := (σ.1, va_up σ.2 k f)
abbrev ua (σ : St) (k i : Nat) (v : Int32) : St := uA σ k (upd (σ.2 k) i v)
def ush (x y : Int32) : Int32 := (x.toUInt32 >>> (y.toUInt32 &&& Int32.toUInt32 31)).toInt32
def zb (v : Int32) : Prop := narrow .boolean (.int v) = .int v
/-- the words that hold on, and the words of nest mates -/
def T0 : List Cond := lw_tbl.filter goodWord
theorem T0_in {w : Cond} (h : w ∈ lw_tbl) (g : goodWord w = true) : w ∈ T0 := List.mem_filter.mpr ⟨h, g⟩
theorem T0_tb {w : Cond} (h : w ∈ T0) : w ∈ lw_tbl := (List.mem_filter.mp h).1
theorem T0_gd {w : Cond} (h : w ∈ T0) : w ∈ T0 ∧ ((w.onTables && w.keeps) = true ∨ ∃ ty, w = .arrayClass ty) := ⟨h, good_of_word (List.mem_filter.mp h).2⟩
theorem T0_cons {c : Cond} (h : c ∈ T0) : GoodIn T0 (c :: T0) := fun w hw => by
  rcases List.mem_cons.mp hw with e | e
  · rw [e]; exact T0_gd h
  · exact T0_gd e
theorem T0_app {l : List Cond} {c : Cond} (hl : ∀ w ∈ l, w ∈ T0) (h : c ∈ T0) : GoodIn T0 (l ++ (c :: T0)) := fun w hw => by
  rcases List.mem_append.mp hw with e | e
  · exact T0_gd (hl w e)
  · exact T0_cons h w e
def is_nest : Cond → Bool
  | .fieldLinkNest _ _ _ _ _ _ => true
  | .methodLinkNest _ _ _ _ => true
  | _ => false
def N0 : List Cond := lw_tbl.filter is_nest
theorem N0_in {w : Cond} (h : w ∈ lw_tbl) (g : is_nest w = true) : w ∈ N0 := List.mem_filter.mpr ⟨h, g⟩
def nw_all (U : State) : Prop := ∀ w ∈ N0, va_Nw w U
theorem nest_tab {w : Cond} (h : is_nest w = true) : w.onTables = true := by
  cases w <;> first | rfl | (simp [is_nest] at h)
theorem nw_warm {s U : State} (hW : s.WarmedH U.vm) (h : nw_all s) : nw_all U := by
  intro w hw
  have h1 := h w hw
  have h2 : is_nest w = true := (List.mem_filter.mp hw).2
  cases w <;> first | exact va_Nw.warmF hW h1 | exact va_Nw.warmM hW h1 | (simp [is_nest] at h2)
theorem nw_same {u U : State} (e : u.vm = U.vm) (h : nw_all u) : nw_all U := fun w hw => va_Nw.same (nest_tab (List.mem_filter.mp hw).2) e (h w hw)
/-- what a method runs in: machine, launch, env, room, start, method, args, frames below, method, code, its cells, its end, classes' numbers, the class of int[], locals -/
abbrev ZT := Program × Launch × Env × Room × State × MethodId × Array Value × List Frame × Method × Code × (Nat → Prop) × (State → Prop) × va_G × ClassId × Nat
abbrev zp (Z : ZT) : Program := Z.1
abbrev zl (Z : ZT) : Launch := Z.2.1
abbrev ze (Z : ZT) : Env := Z.2.2.1
abbrev zR (Z : ZT) : Room := Z.2.2.2.1
abbrev zs (Z : ZT) : State := Z.2.2.2.2.1
abbrev zm (Z : ZT) : MethodId := Z.2.2.2.2.2.1
abbrev za (Z : ZT) : Array Value := Z.2.2.2.2.2.2.1
abbrev zw (Z : ZT) : List Frame := Z.2.2.2.2.2.2.2.1
abbrev zt (Z : ZT) : Method := Z.2.2.2.2.2.2.2.2.1
abbrev zc (Z : ZT) : Code := Z.2.2.2.2.2.2.2.2.2.1
abbrev zA (Z : ZT) : Nat → Prop := Z.2.2.2.2.2.2.2.2.2.2.1
abbrev zQ (Z : ZT) : State → Prop := Z.2.2.2.2.2.2.2.2.2.2.2.1
abbrev zD (Z : ZT) : va_G := Z.2.2.2.2.2.2.2.2.2.2.2.2.1
abbrev zI (Z : ZT) : ClassId := Z.2.2.2.2.2.2.2.2.2.2.2.2.2.1
abbrev zn (Z : ZT) : Nat := Z.2.2.2.2.2.2.2.2.2.2.2.2.2.2
def VV (Z : ZT) (kc ns : Nat) (ws : va_W) (lv : List (Nat × Value)) (pc : Nat) (st : List Value) : Prop :=
  ∀ (H : Heap) (locs : List Loc) (ls : Array Slot), va_P (zD Z) classes ws H → va_D (zA Z) ws → va_S (zA Z) (zs Z).heap H locs → lv_has ls (zn Z) lv →
    W (zp Z) (zl Z) (ze Z) (zR Z) (zs Z) (zm Z) (za Z) (zw Z) (zt Z) (zc Z) H locs kc ns (zQ Z) (F0 (zm Z) pc ls st)
def Cx (Z : ZT) (own : String) (cc : ByteArray) (rm : Room) (nL : Nat) : Prop :=
  (zp Z).tables.exec = Jvm.exec ∧ (zc Z).code = cc ∧ (zc Z).maxLocals = zn Z ∧ (zs Z).vm.findClass own = some (zm Z).cls ∧ (∀ w ∈ T0, w.before (za Z) (zs Z) = true) ∧
  va_K (zD Z) classes [(zI Z, .int)] (zs Z) ∧ (∀ q, (zs Z).heap.size ≤ q → zA Z q) ∧ nw_all (zs Z) ∧ zR Z = rm ∧ zn Z = nL
/-- a class's rows: its number, its words, its names apart, its types -/
def Tb (ci : Nat) (C : String) (T : u_T) (N : Nat) : Prop := classes[ci]? = some (C, T, N) ∧ (∀ w ∈ u_ws C T N, w ∈ T0) ∧ (∀ a, a < N → ∀ b, b < N → a ≠ b → (T a).2.1 ≠ (T b).2.1) ∧ ∃ ty0 : Nat → FieldType, ∀ k, k < N → parseFieldDescriptor (T k).2.2.1 = some (ty0 k)
section XR
variable {Z : ZT} {own : String} {cc : ByteArray} {rm : Room} {nL kc ns pc : Nat} {ws : va_W} {lv : List (Nat × Value)} {st : List Value}
theorem x_drop {lv' : List (Nat × Value)} (ks : List Nat) (hk : lv_pick lv ks = lv') (h : VV Z kc ns ws lv' pc st) : VV Z kc ns ws lv pc st := fun H locs ls hP hD hS hl => h H locs ls hP hD hS (lv_sub hl ks hk)
theorem x_topi {x : Int32} (h : ∀ y : Int32, y = x → VV Z kc ns ws lv pc (.int y :: st)) : VV Z kc ns ws lv pc (.int x :: st) := h x rfl
theorem x_iconst (X : Cx Z own cc rm nL) {n : Int} {v : Int32} (hd : decode cc pc = .ok (.iconst n, 1)) (hv : Int32.ofInt n = v) (h : VV Z kc ns ws lv (pc + 1) (.int v :: st)) : VV Z kc ns ws lv pc st := fun H locs ls hP hD hS hl => lv_iconst X.1 X.2.1 hd hv (h H locs ls hP hD hS hl)
theorem x_bipush (X : Cx Z own cc rm nL) {n : Int} {v : Int32} (hd : decode cc pc = .ok (.bipush n, 2)) (hv : (Int8.ofInt n).toInt32 = v) (h : VV Z kc ns ws lv (pc + 2) (.int v :: st)) : VV Z kc ns ws lv pc st := fun H locs ls hP hD hS hl => lv_bipush X.1 X.2.1 hd hv (h H locs ls hP hD hS hl)
theorem x_sipush (X : Cx Z own cc rm nL) {n : Int} {v : Int32} (hd : decode cc pc = .ok (.sipush n, 3)) (hv : (Int16.ofInt n).toInt32 = v) (h : VV Z kc ns ws lv (pc + 3) (.int v :: st)) : VV Z kc ns ws lv pc st := fun H locs ls hP hD hS hl => lv_sipush X.1 X.2.1 hd hv (h H locs ls hP hD hS hl)
theorem x_ldc (X : Cx Z own cc rm nL) {idx : Nat} {v : Int32} (hw : Cond.constant own idx v ∈ T0) (hd : decode cc pc = .ok (.ldc idx, 2)) (h : VV Z kc ns ws lv (pc + 2) (.int v :: st)) : VV Z kc ns ws lv pc st := fun H locs ls hP hD hS hl => lv_ldc X.1 X.2.1 X.2.2.2.1 (X.2.2.2.2.1 _ hw) hd (h H locs ls hP hD hS hl)
theorem x_ldcw (X : Cx Z own cc rm nL) {idx : Nat} {v : Int32} (hw : Cond.constant own idx v ∈ T0) (hd : decode cc pc = .ok (.ldc_w idx, 3)) (h : VV Z kc ns ws lv (pc + 3) (.int v :: st)) : VV Z kc ns ws lv pc st := fun H locs ls hP hD hS hl => lv_ldcw X.1 X.2.1 X.2.2.2.1 (X.2.2.2.2.1 _ hw) hd (h H locs ls hP hD hS hl)
theorem x_iload_n (X : Cx Z own cc rm nL) {i : Fin 4} {x : Int32} (hd : decode cc pc = .ok (.iload_n i, 1)) (j : Nat) (hj : lv[j]? = some (i.val, .int x)) (h : VV Z kc ns ws lv (pc + 1) (.int x :: st)) : VV Z kc ns ws lv pc st := fun H locs ls hP hD hS hl => lv_iload_n X.1 X.2.1 hd rfl (lv_at hl j hj) (h H locs ls hP hD hS hl)
theorem x_iload (X : Cx Z own cc rm nL) {i : Nat} {x : Int32} (hd : decode cc pc = .ok (.iload i, 2)) (j : Nat) (hj : lv[j]? = some (i, .int x)) (h : VV Z kc ns ws lv (pc + 2) (.int x :: st)) : VV Z kc ns ws lv pc st := fun H locs ls hP hD hS hl => lv_iload X.1 X.2.1 hd (lv_at hl j hj) (h H locs ls hP hD hS hl)
theorem x_aload_n (X : Cx Z own cc rm nL) {i : Fin 4} {x : Nat} (hd : decode cc pc = .ok (.aload_n i, 1)) (j : Nat) (hj : lv[j]? = some (i.val, .ref x)) (h : VV Z kc ns ws lv (pc + 1) (.ref x :: st)) : VV Z kc ns ws lv pc st := fun H locs ls hP hD hS hl => lv_aload_n X.1 X.2.1 hd rfl (lv_at hl j hj) (h H locs ls hP hD hS hl)
theorem x_aload (X : Cx Z own cc rm nL) {i : Nat} {x : Nat} (hd : decode cc pc = .ok (.aload i, 2)) (j : Nat) (hj : lv[j]? = some (i, .ref x)) (h : VV Z kc ns ws lv (pc + 2) (.ref x :: st)) : VV Z kc ns ws lv pc st := fun H locs ls hP hD hS hl => lv_aload X.1 X.2.1 hd (lv_at hl j hj) (h H locs ls hP hD hS hl)
theorem x_istore_n (X : Cx Z own cc rm nL) {i : Fin 4} {x : Int32} {lv' : List (Nat × Value)} (hd : decode cc pc = .ok (.istore_n i, 1)) (hn : i.val < nL) (ks : List Nat) (hk : lv_pick ((i.val, Value.int x) :: lv.filter (fun q => !(q.1 == i.val) && !(q.1 + 1 == i.val && q.2.category == 2))) ks = lv') (h : VV Z kc ns ws lv' (pc + 1) st) : VV Z kc ns ws lv pc (.int x :: st) := fun H locs ls hP hD hS hl => lv_istore_n X.1 X.2.1 hd rfl hl (by rw [X.2.2.2.2.2.2.2.2.2]; exact hn) rfl (fun ls' hl' => h H locs ls' hP hD hS (lv_sub hl' ks hk))
theorem x_istore (X : Cx Z own cc rm nL) {i : Nat} {x : Int32} {lv' : List (Nat × Value)} (hd : decode cc pc = .ok (.istore i, 2)) (hn : i < nL) (ks : List Nat) (hk : lv_pick ((i, Value.int x) :: lv.filter (fun q => !(q.1 == i) && !(q.1 + 1 == i && q.2.category == 2))) ks = lv') (h : VV Z kc ns ws lv' (pc + 2) st) : VV Z kc ns ws lv pc (.int x :: st) := fun H locs ls hP hD hS hl => lv_istore X.1 X.2.1 hd hl (by rw [X.2.2.2.2.2.2.2.2.2]; exact hn) rfl (fun ls' hl' => h H locs ls' hP hD hS (lv_sub hl' ks hk))
theorem x_astore_n (X : Cx Z own cc rm nL) {i : Fin 4} {x : Nat} {lv' : List (Nat × Value)} (hd : decode cc pc = .ok (.astore_n i, 1)) (hn : i.val < nL) (ks : List Nat) (hk : lv_pick ((i.val, Value.ref x) :: lv.filter (fun q => !(q.1 == i.val) && !(q.1 + 1 == i.val && q.2.category == 2))) ks = lv') (h : VV Z kc ns ws lv' (pc + 1) st) : VV Z kc ns ws lv pc (.ref x :: st) := fun H locs ls hP hD hS hl => lv_astore_n X.1 X.2.1 hd rfl hl (by rw [X.2.2.2.2.2.2.2.2.2]; exact hn) rfl (fun ls' hl' => h H locs ls' hP hD hS (lv_sub hl' ks hk))
theorem x_iinc (X : Cx Z own cc rm nL) {i : Nat} {n : Int} {x d : Int32} {lv' : List (Nat × Value)} (hd : decode cc pc = .ok (.iinc i n, 3)) (j : Nat) (hj : lv[j]? = some (i, .int x)) (hv : Int32.ofInt n = d) (hn : i < nL) (ks : List Nat) (hk : lv_pick ((i, Value.int (x + d)) :: lv.filter (fun q => !(q.1 == i) && !(q.1 + 1 == i && q.2.category == 2))) ks = lv') (h : VV Z kc ns ws lv' (pc + 3) st) : VV Z kc ns ws lv pc st := fun H locs ls hP hD hS hl => lv_iinc X.1 X.2.1 hd hl hj (congrArg (x + ·) hv) (by rw [X.2.2.2.2.2.2.2.2.2]; exact hn) rfl (fun ls' hl' => h H locs ls' hP hD hS (lv_sub hl' ks hk))
theorem x_iadd (X : Cx Z own cc rm nL) {x y : Int32} (hd : decode cc pc = .ok (.iadd, 1)) (h : VV Z kc ns ws lv (pc + 1) (.int (x + y) :: st)) : VV Z kc ns ws lv pc (.int y :: .int x :: st) := fun H locs ls hP hD hS hl => lv_iadd X.1 X.2.1 hd (h H locs ls hP hD hS hl)
theorem x_isub (X : Cx Z own cc rm nL) {x y : Int32} (hd : decode cc pc = .ok (.isub, 1)) (h : VV Z kc ns ws lv (pc + 1) (.int (x - y) :: st)) : VV Z kc ns ws lv pc (.int y :: .int x :: st) := fun H locs ls hP hD hS hl => lv_isub X.1 X.2.1 hd (h H locs ls hP hD hS hl)
theorem x_imul (X : Cx Z own cc rm nL) {x y : Int32} (hd : decode cc pc = .ok (.imul, 1)) (h : VV Z kc ns ws lv (pc + 1) (.int (x * y) :: st)) : VV Z kc ns ws lv pc (.int y :: .int x :: st) := fun H locs ls hP hD hS hl => lv_imul X.1 X.2.1 hd (h H locs ls hP hD hS hl)
theorem x_idiv (X : Cx Z own cc rm nL) {x y : Int32} (hd : decode cc pc = .ok (.idiv, 1)) (h0 : ¬ y = 0) (h : VV Z kc ns ws lv (pc + 1) (.int (x / y) :: st)) : VV Z kc ns ws lv pc (.int y :: .int x :: st) := fun H locs ls hP hD hS hl => lv_idiv X.1 X.2.1 hd h0 (h H locs ls hP hD hS hl)
theorem x_iand (X : Cx Z own cc rm nL) {x y : Int32} (hd : decode cc pc = .ok (.iand, 1)) (h : VV Z kc ns ws lv (pc + 1) (.int (x &&& y) :: st)) : VV Z kc ns ws lv pc (.int y :: .int x :: st) := fun H locs ls hP hD hS hl => lv_iand X.1 X.2.1 hd (h H locs ls hP hD hS hl)
theorem x_ior (X : Cx Z own cc rm nL) {x y : Int32} (hd : decode cc pc = .ok (.ior, 1)) (h : VV Z kc ns ws lv (pc + 1) (.int (x ||| y) :: st)) : VV Z kc ns ws lv pc (.int y :: .int x :: st) := fun H locs ls hP hD hS hl => lv_ior X.1 X.2.1 hd (h H locs ls hP hD hS hl)
theorem x_ixor (X : Cx Z own cc rm nL) {x y : Int32} (hd : decode cc pc = .ok (.ixor, 1)) (h : VV Z kc ns ws lv (pc + 1) (.int (x ^^^ y) :: st)) : VV Z kc ns ws lv pc (.int y :: .int x :: st) := fun H locs ls hP hD hS hl => lv_ixor X.1 X.2.1 hd (h H locs ls hP hD hS hl)
theorem x_ishl (X : Cx Z own cc rm nL) {x y : Int32} (hd : decode cc pc = .ok (.ishl, 1)) (h : VV Z kc ns ws lv (pc + 1) (.int (x <<< (y &&& 31)) :: st)) : VV Z kc ns ws lv pc (.int y :: .int x :: st) := fun H locs ls hP hD hS hl => lv_ishl X.1 X.2.1 hd (h H locs ls hP hD hS hl)
theorem x_ishr (X : Cx Z own cc rm nL) {x y : Int32} (hd : decode cc pc = .ok (.ishr, 1)) (h : VV Z kc ns ws lv (pc + 1) (.int (x >>> (y &&& 31)) :: st)) : VV Z kc ns ws lv pc (.int y :: .int x :: st) := fun H locs ls hP hD hS hl => lv_ishr X.1 X.2.1 hd (h H locs ls hP hD hS hl)
theorem x_iushr (X : Cx Z own cc rm nL) {x y : Int32} (hd : decode cc pc = .ok (.iushr, 1)) (h : VV Z kc ns ws lv (pc + 1) (.int (ush x y) :: st)) : VV Z kc ns ws lv pc (.int y :: .int x :: st) := fun H locs ls hP hD hS hl => lv_iushr X.1 X.2.1 hd rfl (h H locs ls hP hD hS hl)
theorem x_dup (X : Cx Z own cc rm nL) {v : Value} (hd : decode cc pc = .ok (.dup, 1)) (hv : v.category = 1) (h : VV Z kc ns ws lv (pc + 1) (v :: v :: st)) : VV Z kc ns ws lv pc (v :: st) := fun H locs ls hP hD hS hl => lv_dup X.1 X.2.1 hd hv (h H locs ls hP hD hS hl)
theorem x_dup2 (X : Cx Z own cc rm nL) {v u : Value} (hd : decode cc pc = .ok (.dup2, 1)) (hv : v.category = 1) (hu : u.category = 1) (h : VV Z kc ns ws lv (pc + 1) (v :: u :: v :: u :: st)) : VV Z kc ns ws lv pc (v :: u :: st) := fun H locs ls hP hD hS hl => lv_dup2_11 X.1 X.2.1 hd hv hu (h H locs ls hP hD hS hl)
theorem x_pop (X : Cx Z own cc rm nL) {v : Value} (hd : decode cc pc = .ok (.pop, 1)) (hv : v.category = 1) (h : VV Z kc ns ws lv (pc + 1) st) : VV Z kc ns ws lv pc (v :: st) := fun H locs ls hP hD hS hl => lv_pop X.1 X.2.1 hd hv (h H locs ls hP hD hS hl)
theorem x_goto (X : Cx Z own cc rm nL) {off : Int} {tgt : Nat} (hd : decode cc pc = .ok (.goto off, 3)) (ht : (pc : Int) + off = (tgt : Int)) (h : VV Z kc ns ws lv tgt st) : VV Z kc ns ws lv pc st := fun H locs ls hP hD hS hl => lv_goto X.1 X.2.1 hd ht (h H locs ls hP hD hS hl)
theorem x_if_eq (X : Cx Z own cc rm nL) {x : Int32} {off : Int} {tgt : Nat} (hd : decode cc pc = .ok (.ifCond .eq off, 3)) (ht : (pc : Int) + off = (tgt : Int)) (kt : x = 0 → VV Z kc ns ws lv tgt st) (kf : ¬ x = 0 → VV Z kc ns ws lv (pc + 3) st) : VV Z kc ns ws lv pc (.int x :: st) := fun H locs ls hP hD hS hl => lv_if_eq X.1 X.2.1 hd ht (fun c => kt c H locs ls hP hD hS hl) (fun c => kf c H locs ls hP hD hS hl)
theorem x_icmp_eq (X : Cx Z own cc rm nL) {x y : Int32} {off : Int} {tgt : Nat} (hd : decode cc pc = .ok (.if_icmp .eq off, 3)) (ht : (pc : Int) + off = (tgt : Int)) (kt : x = y → VV Z kc ns ws lv tgt st) (kf : ¬ x = y → VV Z kc ns ws lv (pc + 3) st) : VV Z kc ns ws lv pc (.int y :: .int x :: st) := fun H locs ls hP hD hS hl => lv_icmp_eq X.1 X.2.1 hd ht (fun c => kt c H locs ls hP hD hS hl) (fun c => kf c H locs ls hP hD hS hl)
theorem x_if_ne (X : Cx Z own cc rm nL) {x : Int32} {off : Int} {tgt : Nat} (hd : decode cc pc = .ok (.ifCond .ne off, 3)) (ht : (pc : Int) + off = (tgt : Int)) (kt : ¬ x = 0 → VV Z kc ns ws lv tgt st) (kf : x = 0 → VV Z kc ns ws lv (pc + 3) st) : VV Z kc ns ws lv pc (.int x :: st) := fun H locs ls hP hD hS hl => lv_if_ne X.1 X.2.1 hd ht (fun c => kt c H locs ls hP hD hS hl) (fun c => kf c H locs ls hP hD hS hl)
theorem x_icmp_ne (X : Cx Z own cc rm nL) {x y : Int32} {off : Int} {tgt : Nat} (hd : decode cc pc = .ok (.if_icmp .ne off, 3)) (ht : (pc : Int) + off = (tgt : Int)) (kt : ¬ x = y → VV Z kc ns ws lv tgt st) (kf : x = y → VV Z kc ns ws lv (pc + 3) st) : VV Z kc ns ws lv pc (.int y :: .int x :: st) := fun H locs ls hP hD hS hl => lv_icmp_ne X.1 X.2.1 hd ht (fun c => kt c H locs ls hP hD hS hl) (fun c => kf c H locs ls hP hD hS hl)
theorem x_if_lt (X : Cx Z own cc rm nL) {x : Int32} {off : Int} {tgt : Nat} (hd : decode cc pc = .ok (.ifCond .lt off, 3)) (ht : (pc : Int) + off = (tgt : Int)) (kt : x < 0 → VV Z kc ns ws lv tgt st) (kf : ¬ x < 0 → VV Z kc ns ws lv (pc + 3) st) : VV Z kc ns ws lv pc (.int x :: st) := fun H locs ls hP hD hS hl => lv_if_lt X.1 X.2.1 hd ht (fun c => kt c H locs ls hP hD hS hl) (fun c => kf c H locs ls hP hD hS hl)
theorem x_icmp_lt (X : Cx Z own cc rm nL) {x y : Int32} {off : Int} {tgt : Nat} (hd : decode cc pc = .ok (.if_icmp .lt off, 3)) (ht : (pc : Int) + off = (tgt : Int)) (kt : x < y → VV Z kc ns ws lv tgt st) (kf : ¬ x < y → VV Z kc ns ws lv (pc + 3) st) : VV Z kc ns ws lv pc (.int y :: .int x :: st) := fun H locs ls hP hD hS hl => lv_icmp_lt X.1 X.2.1 hd ht (fun c => kt c H locs ls hP hD hS hl) (fun c => kf c H locs ls hP hD hS hl)
theorem x_if_ge (X : Cx Z own cc rm nL) {x : Int32} {off : Int} {tgt : Nat} (hd : decode cc pc = .ok (.ifCond .ge off, 3)) (ht : (pc : Int) + off = (tgt : Int)) (kt : 0 ≤ x → VV Z kc ns ws lv tgt st) (kf : ¬ 0 ≤ x → VV Z kc ns ws lv (pc + 3) st) : VV Z kc ns ws lv pc (.int x :: st) := fun H locs ls hP hD hS hl => lv_if_ge X.1 X.2.1 hd ht (fun c => kt c H locs ls hP hD hS hl) (fun c => kf c H locs ls hP hD hS hl)
theorem x_icmp_ge (X : Cx Z own cc rm nL) {x y : Int32} {off : Int} {tgt : Nat} (hd : decode cc pc = .ok (.if_icmp .ge off, 3)) (ht : (pc : Int) + off = (tgt : Int)) (kt : y ≤ x → VV Z kc ns ws lv tgt st) (kf : ¬ y ≤ x → VV Z kc ns ws lv (pc + 3) st) : VV Z kc ns ws lv pc (.int y :: .int x :: st) := fun H locs ls hP hD hS hl => lv_icmp_ge X.1 X.2.1 hd ht (fun c => kt c H locs ls hP hD hS hl) (fun c => kf c H locs ls hP hD hS hl)
theorem x_if_gt (X : Cx Z own cc rm nL) {x : Int32} {off : Int} {tgt : Nat} (hd : decode cc pc = .ok (.ifCond .gt off, 3)) (ht : (pc : Int) + off = (tgt : Int)) (kt : 0 < x → VV Z kc ns ws lv tgt st) (kf : ¬ 0 < x → VV Z kc ns ws lv (pc + 3) st) : VV Z kc ns ws lv pc (.int x :: st) := fun H locs ls hP hD hS hl => lv_if_gt X.1 X.2.1 hd ht (fun c => kt c H locs ls hP hD hS hl) (fun c => kf c H locs ls hP hD hS hl)
theorem x_icmp_gt (X : Cx Z own cc rm nL) {x y : Int32} {off : Int} {tgt : Nat} (hd : decode cc pc = .ok (.if_icmp .gt off, 3)) (ht : (pc : Int) + off = (tgt : Int)) (kt : y < x → VV Z kc ns ws lv tgt st) (kf : ¬ y < x → VV Z kc ns ws lv (pc + 3) st) : VV Z kc ns ws lv pc (.int y :: .int x :: st) := fun H locs ls hP hD hS hl => lv_icmp_gt X.1 X.2.1 hd ht (fun c => kt c H locs ls hP hD hS hl) (fun c => kf c H locs ls hP hD hS hl)
theorem x_if_le (X : Cx Z own cc rm nL) {x : Int32} {off : Int} {tgt : Nat} (hd : decode cc pc = .ok (.ifCond .le off, 3)) (ht : (pc : Int) + off = (tgt : Int)) (kt : x ≤ 0 → VV Z kc ns ws lv tgt st) (kf : ¬ x ≤ 0 → VV Z kc ns ws lv (pc + 3) st) : VV Z kc ns ws lv pc (.int x :: st) := fun H locs ls hP hD hS hl => lv_if_le X.1 X.2.1 hd ht (fun c => kt c H locs ls hP hD hS hl) (fun c => kf c H locs ls hP hD hS hl)
theorem x_icmp_le (X : Cx Z own cc rm nL) {x y : Int32} {off : Int} {tgt : Nat} (hd : decode cc pc = .ok (.if_icmp .le off, 3)) (ht : (pc : Int) + off = (tgt : Int)) (kt : x ≤ y → VV Z kc ns ws lv tgt st) (kf : ¬ x ≤ y → VV Z kc ns ws lv (pc + 3) st) : VV Z kc ns ws lv pc (.int y :: .int x :: st) := fun H locs ls hP hD hS hl => lv_icmp_le X.1 X.2.1 hd ht (fun c => kt c H locs ls hP hD hS hl) (fun c => kf c H locs ls hP hD hS hl)
theorem x_get (X : Cx Z own cc rm nL) {ci N idx a : Nat} {C : String} {T : u_T} {fs : List Value} {v : Value} (hT : Tb ci C T N) (q0 k : Nat) (hk : k < N) (hw : Cond.fieldLink own idx (T k).1 (T k).2.1 (T k).2.2.1 ∈ T0) (he : ws[q0]? = some (a, .inr (ci, fs))) (hv : fs[k]? = some v) (hd : decode cc pc = .ok (.getfield idx, 3)) (h : VV Z kc ns ws lv (pc + 3) (v :: st)) : VV Z kc ns ws lv pc (.ref a :: st) := fun H locs ls hP hD hS hl =>
  va_get X.1 X.2.1 X.2.2.2.2.1 hT.2.1 X.2.2.2.1 X.2.2.2.2.2.1 hP q0 he hT.1 k hk (X.2.2.2.2.1 _ hw) (fun _ z => z) hv hd (h H locs ls hP hD hS hl)
theorem x_getN (X : Cx Z own cc rm nL) {ci N idx a : Nat} {C host : String} {T : u_T} {fs : List Value} {v : Value} (hT : Tb ci C T N) (q0 k : Nat) (hk : k < N) (hw : Cond.fieldLinkNest own idx (T k).1 (T k).2.1 (T k).2.2.1 host ∈ N0) (he : ws[q0]? = some (a, .inr (ci, fs))) (hv : fs[k]? = some v) (hd : decode cc pc = .ok (.getfield idx, 3)) (h : VV Z kc ns ws lv (pc + 3) (v :: st)) : VV Z kc ns ws lv pc (.ref a :: st) := fun H locs ls hP hD hS hl =>
  va_getN X.1 X.2.1 X.2.2.2.2.1 hT.2.1 X.2.2.2.1 X.2.2.2.2.2.1 hP q0 he hT.1 k hk (va_Nw.use rfl (X.2.2.2.2.2.2.2.1 _ hw)) (fun _ z => z) hv hd (h H locs ls hP hD hS hl)
theorem x_put (X : Cx Z own cc rm nL) {ci N idx a : Nat} {C : String} {T : u_T} {fs : List Value} {x : Int32} {ws' : va_W} (hT : Tb ci C T N) (q0 k : Nat) (hk : k < N) (hw : Cond.fieldLink own idx (T k).1 (T k).2.1 (T k).2.2.1 ∈ T0) (he : ws[q0]? = some (a, .inr (ci, fs))) (hf : (T k).2.2.2 = false) (hy : parseFieldDescriptor (T k).2.2.1 = some .int) (hlen : k < fs.length) (hset : ws.set q0 (a, .inr (ci, fs.set k (.int x))) = ws') (hd : decode cc pc = .ok (.putfield idx, 3)) (h : VV Z kc ns ws' lv (pc + 3) st) : VV Z kc ns ws lv pc (.int x :: .ref a :: st) := by
  obtain ⟨h1, h2, h3, ty0, h4⟩ := hT
  subst hset
  exact fun H locs ls hP hD hS hl => va_put X.1 X.2.1 X.2.2.2.2.1 h2 ty0 h4 h3 X.2.2.2.1 X.2.2.2.2.2.1 hP hD hS q0 he h1 k hk (X.2.2.2.2.1 _ hw) (fun _ z => z) hf hy (vp_nar_int x) rfl hlen hd (fun H1 l1 a1 a2 a3 => h H1 l1 ls a1 a2 a3 hl)
theorem x_putN (X : Cx Z own cc rm nL) {ci N idx a : Nat} {C host : String} {T : u_T} {fs : List Value} {x : Int32} {ws' : va_W} (hT : Tb ci C T N) (q0 k : Nat) (hk : k < N) (hw : Cond.fieldLinkNest own idx (T k).1 (T k).2.1 (T k).2.2.1 host ∈ N0) (he : ws[q0]? = some (a, .inr (ci, fs))) (hf : (T k).2.2.2 = false) (hy : parseFieldDescriptor (T k).2.2.1 = some .int) (hlen : k < fs.length) (hset : ws.set q0 (a, .inr (ci, fs.set k (.int x))) = ws') (hd : decode cc pc = .ok (.putfield idx, 3)) (h : VV Z kc ns ws' lv (pc + 3) st) : VV Z kc ns ws lv pc (.int x :: .ref a :: st) := by
  obtain ⟨h1, h2, h3, ty0, h4⟩ := hT
  subst hset
  exact fun H locs ls hP hD hS hl => va_putN X.1 X.2.1 X.2.2.2.2.1 h2 ty0 h4 h3 X.2.2.2.1 X.2.2.2.2.2.1 hP hD hS q0 he h1 k hk (va_Nw.use rfl (X.2.2.2.2.2.2.2.1 _ hw)) (fun _ z => z) hf hy (vp_nar_int x) rfl hlen hd (fun H1 l1 a1 a2 a3 => h H1 l1 ls a1 a2 a3 hl)
theorem x_iald (X : Cx Z own cc rm nL) {a n : Nat} {f : Nat → Int32} {i : Int32} (q0 : Nat) (he : ws[q0]? = some (a, .inl (zI Z, n, .inl f))) (hin : vp_in i n) (hd : decode cc pc = .ok (.iaload, 1)) (h : VV Z kc ns ws lv (pc + 1) (.int (f i.toNatClampNeg) :: st)) : VV Z kc ns ws lv pc (.int i :: .ref a :: st) := fun H locs ls hP hD hS hl =>
  va_iald X.1 X.2.1 X.2.2.2.2.2.1 hP q0 0 he rfl hin hd (h H locs ls hP hD hS hl)
theorem x_iast (X : Cx Z own cc rm nL) {a n : Nat} {f : Nat → Int32} {i x : Int32} {ws' : va_W} (q0 : Nat) (he : ws[q0]? = some (a, .inl (zI Z, n, .inl f))) (hin : vp_in i n) (hset : ws.set q0 (a, .inl (zI Z, n, .inl (upd f i.toNatClampNeg x))) = ws') (hd : decode cc pc = .ok (.iastore, 1)) (h : VV Z kc ns ws' lv (pc + 1) st) : VV Z kc ns ws lv pc (.int x :: .int i :: .ref a :: st) := by
  subst hset
  exact fun H locs ls hP hD hS hl => va_iast X.1 X.2.1 X.2.2.2.2.2.1 hP hD hS q0 0 he rfl hin hd (fun H1 l1 a1 a2 a3 => h H1 l1 ls a1 a2 a3 hl)
theorem x_alen (X : Cx Z own cc rm nL) {a n : Nat} {f : Nat → Int32} (q0 : Nat) (he : ws[q0]? = some (a, .inl (zI Z, n, .inl f))) (hd : decode cc pc = .ok (.arraylength, 1)) (h : VV Z kc ns ws lv (pc + 1) (.int (nI n) :: st)) : VV Z kc ns ws lv pc (.ref a :: st) := fun H locs ls hP hD hS hl =>
  va_alen (ty := .int) X.1 X.2.1 X.2.2.2.2.2.1 hP q0 0 he rfl (v := nI n) rfl hd (h H locs ls hP hD hS hl)
theorem x_mmax (X : Cx Z own cc rm nL) {idx : Nat} {x y : Int32} (h1 : Cond.methodLink own idx Lib.Math.max.name ∈ T0) (h2 : Cond.static Lib.Math.max.name ∈ T0) (h3 : Cond.initialized "java/lang/Math" ∈ T0) (h4 : Cond.code Lib.Math.max.name Lib.Math.max.code 2 (some .int) ∈ T0) (hf : 1 ≤ rm.frames) (hl9 : (st.map fun v => v.category).sum + 13 ≤ rm.locals) (hk : kc ≤ rm.cells) (hn : ns ≤ rm.slots) (hd : decode cc pc = .ok (.invokestatic idx, 3)) (h : VV Z kc ns ws lv (pc + 3) (.int (if x < y then y else x) :: st)) : VV Z kc ns ws lv pc (.int y :: .int x :: st) := fun H locs ls hP hD hS hl =>
  va_mmax X.1 X.2.1 (X.2.2.1.trans hl.1.symm) X.2.2.2.1 (X.2.2.2.2.1 _ h1) (X.2.2.2.2.1 _ h2) (X.2.2.2.2.1 _ h3) (X.2.2.2.2.1 _ h4) (by rw [X.2.2.2.2.2.2.2.2.1]; exact hf) (by rw [X.2.2.2.2.2.2.2.2.1]; exact hl9) (by rw [X.2.2.2.2.2.2.2.2.1]; exact hk) (by rw [X.2.2.2.2.2.2.2.2.1]; exact hn) hd (h H locs ls hP hD hS hl)
theorem x_mmin (X : Cx Z own cc rm nL) {idx : Nat} {x y : Int32} (h1 : Cond.methodLink own idx Lib.Math.min.name ∈ T0) (h2 : Cond.static Lib.Math.min.name ∈ T0) (h3 : Cond.initialized "java/lang/Math" ∈ T0) (h4 : Cond.code Lib.Math.min.name Lib.Math.min.code 2 (some .int) ∈ T0) (hf : 1 ≤ rm.frames) (hl9 : (st.map fun v => v.category).sum + 13 ≤ rm.locals) (hk : kc ≤ rm.cells) (hn : ns ≤ rm.slots) (hd : decode cc pc = .ok (.invokestatic idx, 3)) (h : VV Z kc ns ws lv (pc + 3) (.int (if y < x then y else x) :: st)) : VV Z kc ns ws lv pc (.int y :: .int x :: st) := fun H locs ls hP hD hS hl =>
  va_mmin X.1 X.2.1 (X.2.2.1.trans hl.1.symm) X.2.2.2.1 (X.2.2.2.2.1 _ h1) (X.2.2.2.2.1 _ h2) (X.2.2.2.2.1 _ h3) (X.2.2.2.2.1 _ h4) (by rw [X.2.2.2.2.2.2.2.2.1]; exact hf) (by rw [X.2.2.2.2.2.2.2.2.1]; exact hl9) (by rw [X.2.2.2.2.2.2.2.2.1]; exact hk) (by rw [X.2.2.2.2.2.2.2.2.1]; exact hn) hd (h H locs ls hP hD hS hl)
/-- System.arraycopy of one int[] into another -/
def cpok (sp dp n : Int32) (n0 n1 : Nat) : Prop := ¬ sp < 0 ∧ ¬ dp < 0 ∧ ¬ n < 0 ∧ sp.toNatClampNeg + n.toNatClampNeg ≤ n0 ∧ dp.toNatClampNeg + n.toNatClampNeg ≤ n1
theorem x_copy (X : Cx Z own cc rm nL) {idx a0 a1 n0 n1 : Nat} {f g : Nat → Int32} {sp dp n : Int32} {ws' : va_W} (h1 : Cond.methodLink own idx arraycopyName ∈ T0) (h2 : Cond.native arraycopyName ∈ T0) (h3 : Cond.static arraycopyName ∈ T0) (h4 : Cond.initialized "java/lang/System" ∈ T0) (q0 q1 : Nat) (he0 : ws[q0]? = some (a0, .inl (zI Z, n0, .inl f))) (he1 : ws[q1]? = some (a1, .inl (zI Z, n1, .inl g))) (hok : cpok sp dp n n0 n1) (hf : 1 ≤ rm.frames) (hl9 : (st.map fun v => v.category).sum + (nativeFrameWords "java/lang/System" "arraycopy" 5 + 11) ≤ rm.locals) (hset : ws.set q1 (a1, .inl (zI Z, n1, .inl (va_cpy f g sp.toNatClampNeg dp.toNatClampNeg n.toNatClampNeg))) = ws') (hd : decode cc pc = .ok (.invokestatic idx, 3)) (h : VV Z kc ns ws' lv (pc + 3) st) : VV Z kc ns ws lv pc (.int n :: .int dp :: .ref a1 :: .int sp :: .ref a0 :: st) := by
  subst hset
  obtain ⟨k1, k2, k3, k4, k5⟩ := hok
  exact fun H locs ls hP hD hS hl => va_copyi (ty := .int) X.1 X.2.1 (X.2.2.1.trans hl.1.symm) X.2.2.2.1 (X.2.2.2.2.1 _ h1) (X.2.2.2.2.1 _ h2) (X.2.2.2.2.1 _ h3) (X.2.2.2.2.1 _ h4) X.2.2.2.2.2.1 hP hD hS q0 q1 0 0 he0 he1 rfl rfl rfl k1 k2 k3 k4 k5 (fun _ _ => rfl) (by rw [X.2.2.2.2.2.2.2.2.1]; exact hf) (by rw [X.2.2.2.2.2.2.2.2.1]; exact hl9) hd (fun H1 l1 a1 a2 a3 => h H1 l1 ls a1 a2 a3 hl)
/-- tableswitch from 0 on -/
theorem x_table (X : Cx Z own cc rm nL) {dflt hi : Int} {offs : Array Int} {len N dt : Nat} {x : Int32} (tg : Nat → Nat) (hd : decode cc pc = .ok (.tableswitch dflt 0 hi offs, len)) (hhi : hi + 1 = (N : Int)) (hN : N < 2 ^ 31) (ho : ∀ j, j < N → ∃ off, offs[j]? = some off ∧ (pc : Int) + off = (tg j : Int)) (hdt : (pc : Int) + dflt = (dt : Int)) (kin : ∀ j, j < N → x = nI j → VV Z kc ns ws lv (tg j) st) (kout : (∀ j, j < N → ¬ x = nI j) → VV Z kc ns ws lv dt st) : VV Z kc ns ws lv pc (.int x :: st) := by
  by_cases c : ∃ j, j < N ∧ x = nI j
  · obtain ⟨j, hj, rfl⟩ := c
    obtain ⟨off, h1, h2⟩ := ho j hj
    have e : (nI j).toInt = (j : Int) := nI_toInt (by omega)
    exact fun H locs ls hP hD hS hl => lv_tableIn X.1 X.2.1 hd (by rw [e]; omega) (by rw [e]; omega) (by rw [e]; simpa using h1) h2 (kin j hj rfl H locs ls hP hD hS hl)
  · refine fun H locs ls hP hD hS hl => lv_tableOut X.1 X.2.1 hd ?_ hdt (kout (fun j hj e => c ⟨j, hj, e⟩) H locs ls hP hD hS hl)
    by_cases h0 : x < 0
    · left
      have := Int32.lt_iff_toInt_lt.mp h0
      simpa using this
    · right
      obtain ⟨j, hj, e⟩ := nI_of h0
      have e2 : x.toInt = (j : Int) := by rw [e]; exact nI_toInt hj
      rw [e2]
      have : ¬ j < N := fun h => c ⟨j, h, e⟩
      omega
end XR
def PcB (D : va_G) (cI : ClassId) (ws : va_W) (sz : Nat) (U : State) : Prop := U.heap.size = sz ∧ va_P D classes ws U.heap ∧ va_K D classes [(cI, .int)] U ∧ va_D (fun _ => True) ws ∧ nw_all U
def QcB (D : va_G) (w0 : va_W) (sz : Nat) (wd : St → va_W) (u : St) (t : State) : Prop := va_P D classes (wd u) t.heap ∧ va_D (va_A w0 sz) (wd u)
/-- a contract over a precondition: from the world of σ, the method answers r and leaves the world of u, with 'post r u' -/
def CI (l : Launch) (D : va_G) (cI : ClassId) (wd : St → va_W) (y : MethodName) (cc : ByteArray) (nL : Nat) (ty : FieldType) (rm : Room) (av : List Value) (σ : St) (post : Int32 → St → Prop) : Prop :=
  ∀ sz : Nat, Met l y (Cond.code y cc nL (some ty) :: T0) rm (va_Pc av (PcB D cI (wd σ) sz)) (va_Qi post (QcB D (wd σ) sz wd) (va_A (wd σ) sz)) 0 0 (va_A (wd σ) sz)
def CV (l : Launch) (D : va_G) (cI : ClassId) (wd : St → va_W) (y : MethodName) (cc : ByteArray) (nL : Nat) (rm : Room) (av : List Value) (σ : St) (post : St → Prop) : Prop :=
  ∀ sz : Nat, Met l y (Cond.code y cc nL none :: T0) rm (va_Pc av (PcB D cI (wd σ) sz)) (va_Qv post (QcB D (wd σ) sz wd) (va_A (wd σ) sz)) 0 0 (va_A (wd σ) sz)
def RI (Z : ZT) (cc : ByteArray) (ty : FieldType) (wd : St → va_W) (post : Int32 → St → Prop) : Prop := ∀ (v : Int32) (u : St) (lv : List (Nat × Value)) (pc : Nat), decode cc pc = .ok (.ireturn, 1) → narrow ty (.int v) = .int v → post v u → VV Z 0 0 (wd u) lv pc [.int v]
def RV (Z : ZT) (cc : ByteArray) (wd : St → va_W) (post : St → Prop) : Prop := ∀ (u : St) (lv : List (Nat × Value)) (pc : Nat), decode cc pc = .ok (.return_, 1) → post u → VV Z 0 0 (wd u) lv pc []
theorem pc_blind {av : List Value} {D : va_G} {cI : ClassId} {ws : va_W} {sz : Nat} : FrameBlind (va_Pc av (PcB D cI ws sz)) := fun a U g mk q => by
  obtain ⟨q0, q1, qP, qK, qD, qN⟩ := q
  exact ⟨q0, q1, qP, va_K.moved (u := U) (U := U.calling g mk a) (Vm.Alike.refl U.vm) qK, qD, nw_same (u := U) (U := U.calling g mk a) rfl qN⟩
theorem CI_of {l : Launch} {D : va_G} {cI : ClassId} {wd : St → va_W} {y : MethodName} {cc : ByteArray} {nL : Nat} {ty : FieldType} {rm : Room} {av : List Value} {σ : St} {post : Int32 → St → Prop} (hy : plainName y.cls = true) (hlen : (lg_sl av).length ≤ nL)
    (body : ∀ Z : ZT, zl Z = l → zD Z = D → zI Z = cI → Cx Z y.cls cc rm nL → RI Z cc ty wd post → VV Z 0 0 (wd σ) (lv_args 0 av) 0 []) : CI l D cI wd y cc nL ty rm av σ post := by
  intro sz
  refine Met.ofW (cc := cc) (maxL := nL) (ret := some ty) hy rfl ?_
  intro p e s m args below meth c s₁ B hml hv
  obtain ⟨rfl, hsz, hP, hK, hD0, hN⟩ := hv
  have hts := atoms_spec (ws := Cond.code y cc nL (some ty) :: T0) B.pre
  have hlocks := B.notSynchronized
  subst hsz
  rw [lg_entry_eq]
  have hl := lv_entry av (n := nL) hlen
  refine body (p, l, e, rm, s, m, av.toArray, below, meth, c, va_A (wd σ) s.heap.size, MQ below (va_Qi post (QcB D (wd σ) s.heap.size wd) (va_A (wd σ) s.heap.size)) av.toArray s 0 0 (va_A (wd σ) s.heap.size), D, cI, nL) rfl rfl rfl ⟨B.exec, B.bytes, hml, findClass_of_methodNamed B.named, fun w hw => hts w (List.mem_cons_of_mem _ hw), hK, fun q h => Or.inr h, hN, rfl, rfl⟩ ?_ s.heap [] _ hP hD0.self va_S.rf hl
  intro v u lv pc hd hn hp H locs ls hP hD hS hl
  exact W.zret B.exec B.bytes B.returns hn (fun t ht hW => ⟨⟨v, u, rfl, hp, by rw [ht]; exact hP, hD⟩, hS.F ht⟩) hS.2.2 hd (hlocks := hlocks)
theorem CV_of {l : Launch} {D : va_G} {cI : ClassId} {wd : St → va_W} {y : MethodName} {cc : ByteArray} {nL : Nat} {rm : Room} {av : List Value} {σ : St} {post : St → Prop} (hy : plainName y.cls = true) (hlen : (lg_sl av).length ≤ nL)
    (body : ∀ Z : ZT, zl Z = l → zD Z = D → zI Z = cI → Cx Z y.cls cc rm nL → RV Z cc wd post → VV Z 0 0 (wd σ) (lv_args 0 av) 0 []) : CV l D cI wd y cc nL rm av σ post := by
  intro sz
  refine Met.ofW (cc := cc) (maxL := nL) (ret := none) hy rfl ?_
  intro p e s m args below meth c s₁ B hml hv
  obtain ⟨rfl, hsz, hP, hK, hD0, hN⟩ := hv
  have hts := atoms_spec (ws := Cond.code y cc nL none :: T0) B.pre
  have hlocks := B.notSynchronized
  subst hsz
  rw [lg_entry_eq]
  have hl := lv_entry av (n := nL) hlen
  refine body (p, l, e, rm, s, m, av.toArray, below, meth, c, va_A (wd σ) s.heap.size, MQ below (va_Qv post (QcB D (wd σ) s.heap.size wd) (va_A (wd σ) s.heap.size)) av.toArray s 0 0 (va_A (wd σ) s.heap.size), D, cI, nL) rfl rfl rfl ⟨B.exec, B.bytes, hml, findClass_of_methodNamed B.named, fun w hw => hts w (List.mem_cons_of_mem _ hw), hK, fun q h => Or.inr h, hN, rfl, rfl⟩ ?_ s.heap [] _ hP hD0.self va_S.rf hl
  intro u lv pc hd hp H locs ls hP hD hS hl
  exact W.vret B.exec B.bytes B.returns (fun t ht hW => ⟨⟨u, rfl, hp, by rw [ht]; exact hP, hD⟩, hS.F ht⟩) hS.2.2 hd (hlocks := hlocks)
/-- the callee's part of a world, and what comes back beside the rest -/
theorem w_right {wr wc : va_W} {k : Nat} {q : Nat × va_E} (h : wc[k]? = some q) : (wr ++ wc)[wr.length + k]? = some q := by
  rw [List.getElem?_append_right (by omega)]
  simpa using h
theorem w_Pc {D : va_G} {wr wc : va_W} {H : Heap} (h : va_P D classes (wr ++ wc) H) : va_P D classes wc H := fun k q hq => h _ q (w_right hq)
theorem w_Dc {A : Nat → Prop} {wr wc : va_W} (h : va_D A (wr ++ wc)) : va_D A wc := ⟨fun i j p q hi hj e => by
  have := h.1 _ _ p q (w_right hi) (w_right hj) e
  omega, fun k q hq => h.2 _ q (w_right hq)⟩
theorem w_left {wr wc : va_W} {k : Nat} {q : Nat × va_E} (h : wr[k]? = some q) : (wr ++ wc)[k]? = some q := by
  rw [List.getElem?_append_left (List.getElem?_eq_some_iff.mp h).1]
  exact h
theorem w_join {A : Nat → Prop} {D : va_G} {wr wc w1 : va_W} {H H1 : Heap} (hP : va_P D classes (wr ++ wc) H) (hD : va_D A (wr ++ wc)) (hF : ∀ q, va_A wc H.size q → A q) (hk : ∀ q : Nat, q < H.size → ¬ va_A wc H.size q → H1[q]? = H[q]?) (hP1 : va_P D classes w1 H1) (hD1 : va_D (va_A wc H.size) w1) : va_P D classes (wr ++ w1) H1 ∧ va_D A (wr ++ w1) := by
  have apart : ∀ (k : Nat) (q : Nat × va_E), wr[k]? = some q → q.1 < H.size ∧ ¬ va_A wc H.size q.1 := by
    intro k q hq
    have hl := (hP k q (w_left hq)).lt
    refine ⟨hl, fun h => ?_⟩
    rcases h with ⟨k2, e, h⟩ | h
    · have hij := hD.1 k _ q (q.1, e) (w_left hq) (w_right h) rfl
      have : k < wr.length := (List.getElem?_eq_some_iff.mp hq).1
      omega
    · omega
  refine ⟨va_P.app (fun k q hq => ?_) hP1, va_D.app ⟨fun i j p q hi hj e => hD.1 i j p q (w_left hi) (w_left hj) e, fun k q hq => hD.2 k q (w_left hq)⟩ (hD1.weaken (fun k q _ h => hF q.1 h)) (fun i j x y hx hy hxy => ?_)⟩
  · obtain ⟨g1, g2⟩ := apart k q hq
    exact (hP k q (w_left hq)).kept (hk q.1 g1 g2)
  · exact (apart i x hx).2 (by rw [hxy]; exact hD1.2 j y hy)
/-- a method's rows for its calls: of an object, static -/
def Mv (y : MethodName) (cc : ByteArray) (nL : Nat) (ret : Option FieldType) (n : Nat) : Prop := Cond.instanceMethod y ∈ T0 ∧ Cond.selects y.cls y y ∈ T0 ∧ Cond.initialized y.cls ∈ T0 ∧ Cond.code y cc nL ret ∈ T0 ∧ y.cls ≠ "java/lang/invoke/MethodHandle" ∧ y.cls ≠ "java/lang/invoke/VarHandle" ∧ (parseMethodDescriptor y.desc).map (fun d => d.parameters.length) = some n
def Ms (y : MethodName) (cc : ByteArray) (nL : Nat) (ret : Option FieldType) (n : Nat) : Prop := Cond.static y ∈ T0 ∧ Cond.initialized y.cls ∈ T0 ∧ Cond.code y cc nL ret ∈ T0 ∧ y.cls ≠ "java/lang/invoke/MethodHandle" ∧ y.cls ≠ "java/lang/invoke/VarHandle" ∧ (parseMethodDescriptor y.desc).map (fun d => d.parameters.length) = some n
section XC
variable {Z : ZT} {own : String} {cc : ByteArray} {rm : Room} {nL kc ns pc : Nat} {lv : List (Nat × Value)} {st : List Value}
variable {wr : va_W} {wd : St → va_W} {y : MethodName} {cb : ByteArray} {nb b q0 ci idx : Nat} {ty : FieldType} {rmc : Room} {σ : St} {fs : List Value} {C : String} {T : u_T} {N : Nat}
theorem cw_V {ret : Option FieldType} {n : Nat} (X : Cx Z own cc rm nL) (hm : Mv y cb nb ret n) (hc0 : rmc.cells = 0 ∧ rmc.slots = 0) (hlk : Cond.methodLink own idx y ∈ T0) (hR : rmc.frames + 1 ≤ rm.frames ∧ 8 + (nb + 11) + rmc.locals ≤ rm.locals) : CallW (zR Z) (zs Z) (za Z) own y.cls idx y cb nb ret (Cond.code y cb nb ret :: T0) rmc 0 0 n := by
  obtain ⟨m1, m2, m3, m4, m5, m6, m7⟩ := hm
  refine cwV n X.2.2.2.2.1 (T0_app (l := [.methodLink own idx y, .instanceMethod y, .selects y.cls y y, .initialized y.cls]) ?_ m4) rfl hc0.1 hc0.2 ⟨rfl, m5, m6, m7⟩ (by rw [X.2.2.2.2.2.2.2.2.1]; exact hR)
  intro w hw
  simp only [List.mem_cons, List.not_mem_nil, or_false] at hw
  rcases hw with rfl | rfl | rfl | rfl <;> assumption
theorem cw_VN {ret : Option FieldType} {n : Nat} {host : String} (X : Cx Z own cc rm nL) (hm : Mv y cb nb ret n) (hc0 : rmc.cells = 0 ∧ rmc.slots = 0) (hlk : Cond.methodLinkNest own idx y host ∈ N0) (hR : rmc.frames + 1 ≤ rm.frames ∧ 8 + (nb + 11) + rmc.locals ≤ rm.locals) : va_CN (zR Z) (zs Z) (za Z) own idx y host cb nb ret (Cond.code y cb nb ret :: T0) rmc 0 0 n ∧ (Cond.instanceMethod y).before (za Z) (zs Z) = true ∧ (Cond.selects y.cls y y).before (za Z) (zs Z) = true := by
  obtain ⟨m1, m2, m3, m4, m5, m6, m7⟩ := hm
  exact ⟨va_cnB n X.2.2.2.2.1 (T0_cons m4) rfl hc0.1 hc0.2 (X.2.2.2.2.2.2.2.1 _ hlk) (X.2.2.2.2.1 _ m3) ⟨m5, m6, m7⟩ (by rw [X.2.2.2.2.2.2.2.2.1]; exact hR), X.2.2.2.2.1 _ m1, X.2.2.2.2.1 _ m2⟩
theorem cw_S {ret : Option FieldType} {n : Nat} (X : Cx Z own cc rm nL) (hm : Ms y cb nb ret n) (hc0 : rmc.cells = 0 ∧ rmc.slots = 0) (hlk : Cond.methodLink own idx y ∈ T0) (hR : rmc.frames + 1 ≤ rm.frames ∧ 8 + (nb + 11) + rmc.locals ≤ rm.locals) : CallB (zR Z) (zs Z) (za Z) own idx y cb nb ret (Cond.code y cb nb ret :: T0) rmc 0 0 n ∧ (Cond.static y).before (za Z) (zs Z) = true := by
  obtain ⟨m1, m3, m4, m5, m6, m7⟩ := hm
  refine va_cwS n X.2.2.2.2.1 (T0_app (l := [.methodLink own idx y, .static y, .initialized y.cls]) ?_ m4) rfl hc0.1 hc0.2 ⟨m5, m6, m7⟩ (by rw [X.2.2.2.2.2.2.2.2.1]; exact hR)
  intro w hw
  simp only [List.mem_cons, List.not_mem_nil, or_false] at hw
  rcases hw with rfl | rfl | rfl <;> assumption
theorem x_free (X : Cx Z own cc rm nL) {ws : va_W} {H : Heap} {locs : List Loc} (hD : va_D (zA Z) ws) (hS : va_S (zA Z) (zs Z).heap H locs) : ∀ q, va_A ws H.size q → zA Z q := fun q h => by
  rcases h with ⟨k, e, h⟩ | h
  · exact hD.2 k (q, e) h
  · exact X.2.2.2.2.2.2.1 q (Nat.le_trans hS.1 h)
theorem pre_S (X : Cx Z own cc rm nL) {H : Heap} {As : List Value} (hP : va_P (zD Z) classes (wr ++ wd σ) H) (hD : va_D (zA Z) (wr ++ wd σ)) : PreS (zs Z) H (va_Pc As (PcB (zD Z) (zI Z) (wd σ) H.size)) As :=
  ⟨pc_blind, fun U hU hW => ⟨rfl, by rw [hU], by rw [hU]; exact w_Pc hP, va_K.moved hW.alike X.2.2.2.2.2.1, (w_Dc hD).weaken (fun _ _ _ _ => trivial), nw_warm hW X.2.2.2.2.2.2.2.1⟩⟩
theorem pre_V (X : Cx Z own cc rm nL) {H : Heap} {As : List Value} (hP : va_P (zD Z) classes (wr ++ wd σ) H) (hD : va_D (zA Z) (wr ++ wd σ)) (hT : Tb ci C T N) (he : (wd σ)[q0]? = some (b, .inr (ci, fs))) : PreV (zs Z) H C b (va_Pc (.ref b :: As) (PcB (zD Z) (zI Z) (wd σ) H.size)) As :=
  ⟨pc_blind, va_recv X.2.2.2.2.2.1 (w_Pc hP) hT.1 he, fun U hU hW => ⟨rfl, by rw [hU], by rw [hU]; exact w_Pc hP, va_K.moved hW.alike X.2.2.2.2.2.1, (w_Dc hD).weaken (fun _ _ _ _ => trivial), nw_warm hW X.2.2.2.2.2.2.2.1⟩⟩
theorem x_runi {post : Int32 → St → Prop} {rest : List Value} {a : Array Value} (X : Cx Z own cc rm nL) (hr : ∀ (H : Heap) (locs : List Loc) (ls : Array Slot), va_P (zD Z) classes (wr ++ wd σ) H → va_D (zA Z) (wr ++ wd σ) → lv_has ls (zn Z) lv → va_Run (zp Z) (zl Z) (ze Z) (zR Z) (zs Z) (zm Z) (za Z) (zw Z) (zt Z) (zc Z) H locs kc ns 0 0 (F0 (zm Z) pc ls st) rest (va_Qi post (QcB (zD Z) (wd σ) H.size wd) (va_A (wd σ) H.size) a) (va_A (wd σ) H.size))
    (kk : ∀ (r : Int32) (u : St), post r u → VV Z kc ns (wr ++ wd u) lv (pc + 3) (.int r :: rest)) : VV Z kc ns (wr ++ wd σ) lv pc st := by
  intro H locs ls hP hD hS hl
  have hFc : ∀ q, va_A (wd σ) H.size q → zA Z q := x_free X (w_Dc hD) hS
  refine va_calli (hr H locs ls hP hD hl) hS (fun q _ h => hFc q h) hFc (fun r u t H1 locs1 ht hvm hw hB hz1 hk1 hS1 => ?_)
  obtain ⟨hP1, hD1⟩ := hB
  rw [ht] at hP1
  obtain ⟨hP', hD'⟩ := w_join hP hD hFc hk1 hP1 hD1
  exact kk r u hw H1 locs1 ls hP' hD' hS1 hl
theorem x_runv {post : St → Prop} {rest : List Value} {a : Array Value} (X : Cx Z own cc rm nL) (hr : ∀ (H : Heap) (locs : List Loc) (ls : Array Slot), va_P (zD Z) classes (wr ++ wd σ) H → va_D (zA Z) (wr ++ wd σ) → lv_has ls (zn Z) lv → va_Run (zp Z) (zl Z) (ze Z) (zR Z) (zs Z) (zm Z) (za Z) (zw Z) (zt Z) (zc Z) H locs kc ns 0 0 (F0 (zm Z) pc ls st) rest (va_Qv post (QcB (zD Z) (wd σ) H.size wd) (va_A (wd σ) H.size) a) (va_A (wd σ) H.size))
    (kk : ∀ (u : St), post u → VV Z kc ns (wr ++ wd u) lv (pc + 3) rest) : VV Z kc ns (wr ++ wd σ) lv pc st := by
  intro H locs ls hP hD hS hl
  have hFc : ∀ q, va_A (wd σ) H.size q → zA Z q := x_free X (w_Dc hD) hS
  refine va_callv (hr H locs ls hP hD hl) hS (fun q _ h => hFc q h) hFc (fun u t H1 locs1 ht hvm hw hB hz1 hk1 hS1 => ?_)
  obtain ⟨hP1, hD1⟩ := hB
  rw [ht] at hP1
  obtain ⟨hP', hD'⟩ := w_join hP hD hFc hk1 hP1 hD1
  exact kk u hw H1 locs1 ls hP' hD' hS1 hl
theorem x_cvi_w {post : Int32 → St → Prop} {rest : List Value} (X : Cx Z own cc rm nL) (As : List Value) (hM : CI (zl Z) (zD Z) (zI Z) wd y cb nb ty rmc (.ref b :: As) σ post) (hm : Mv y cb nb (some ty) As.length) (hT : Tb ci y.cls T N) (q0 : Nat) (he : (wd σ)[q0]? = some (b, .inr (ci, fs))) (hlk : Cond.methodLink own idx y ∈ T0) (hd : decode cc pc = .ok (.invokevirtual idx, 3)) (hst : st = As.reverse ++ .ref b :: rest) (h8 : (rest.map fun v => v.category).sum ≤ 8) (hR : rmc.frames + 1 ≤ rm.frames ∧ 8 + (nb + 11) + rmc.locals ≤ rm.locals) (hc0 : rmc.cells = 0 ∧ rmc.slots = 0) (hk : kc ≤ rm.cells ∧ ns ≤ rm.slots) (kk : ∀ (r : Int32) (u : St), post r u → VV Z kc ns (wr ++ wd u) lv (pc + 3) (.int r :: rest)) : VV Z kc ns (wr ++ wd σ) lv pc st := by
  subst hst
  refine x_runi (a := (Value.ref b :: As).toArray) X (fun H locs ls hP hD hl => ?_) kk
  exact va_runV (C := y.cls) (As := As) (rest := rest) ⟨X.1, X.2.1, X.2.2.1, X.2.2.2.1, X.2.2.2.2.1⟩ (hM H.size) (cw_V X hm hc0 hlk hR) (pre_V X hP hD hT he) rfl rfl hl.1 rfl (lv_room h8) hd (by rw [X.2.2.2.2.2.2.2.2.1]; exact hk)
theorem x_cvi {post : Int32 → St → Prop} {rest : List Value} (X : Cx Z own cc rm nL) (As : List Value) (hM : CI (zl Z) (zD Z) (zI Z) wd y cb nb ty rmc (.ref b :: As) σ post) (hm : Mv y cb nb (some ty) As.length) (hT : Tb ci y.cls T N) (q0 : Nat) (he : (wd σ)[q0]? = some (b, .inr (ci, fs))) (hlk : Cond.methodLink own idx y ∈ T0) (hd : decode cc pc = .ok (.invokevirtual idx, 3)) (hst : st = As.reverse ++ .ref b :: rest) (h8 : (rest.map fun v => v.category).sum ≤ 8) (hR : rmc.frames + 1 ≤ rm.frames ∧ 8 + (nb + 11) + rmc.locals ≤ rm.locals) (hc0 : rmc.cells = 0 ∧ rmc.slots = 0) (hk : kc ≤ rm.cells ∧ ns ≤ rm.slots) (kk : ∀ (r : Int32) (u : St), post r u → VV Z kc ns (wd u) lv (pc + 3) (.int r :: rest)) : VV Z kc ns (wd σ) lv pc st := x_cvi_w (wr := []) X As hM hm hT q0 he hlk hd hst h8 hR hc0 hk kk
theorem x_cvv_w {post : St → Prop} {rest : List Value} (X : Cx Z own cc rm nL) (As : List Value) (hM : CV (zl Z) (zD Z) (zI Z) wd y cb nb rmc (.ref b :: As) σ post) (hm : Mv y cb nb none As.length) (hT : Tb ci y.cls T N) (q0 : Nat) (he : (wd σ)[q0]? = some (b, .inr (ci, fs))) (hlk : Cond.methodLink own idx y ∈ T0) (hd : decode cc pc = .ok (.invokevirtual idx, 3)) (hst : st = As.reverse ++ .ref b :: rest) (h8 : (rest.map fun v => v.category).sum ≤ 8) (hR : rmc.frames + 1 ≤ rm.frames ∧ 8 + (nb + 11) + rmc.locals ≤ rm.locals) (hc0 : rmc.cells = 0 ∧ rmc.slots = 0) (hk : kc ≤ rm.cells ∧ ns ≤ rm.slots) (kk : ∀ (u : St), post u → VV Z kc ns (wr ++ wd u) lv (pc + 3) rest) : VV Z kc ns (wr ++ wd σ) lv pc st := by
  subst hst
  refine x_runv (a := (Value.ref b :: As).toArray) X (fun H locs ls hP hD hl => ?_) kk
  exact va_runV (C := y.cls) (As := As) (rest := rest) ⟨X.1, X.2.1, X.2.2.1, X.2.2.2.1, X.2.2.2.2.1⟩ (hM H.size) (cw_V X hm hc0 hlk hR) (pre_V X hP hD hT he) rfl rfl hl.1 rfl (lv_room h8) hd (by rw [X.2.2.2.2.2.2.2.2.1]; exact hk)
theorem x_cvv {post : St → Prop} {rest : List Value} (X : Cx Z own cc rm nL) (As : List Value) (hM : CV (zl Z) (zD Z) (zI Z) wd y cb nb rmc (.ref b :: As) σ post) (hm : Mv y cb nb none As.length) (hT : Tb ci y.cls T N) (q0 : Nat) (he : (wd σ)[q0]? = some (b, .inr (ci, fs))) (hlk : Cond.methodLink own idx y ∈ T0) (hd : decode cc pc = .ok (.invokevirtual idx, 3)) (hst : st = As.reverse ++ .ref b :: rest) (h8 : (rest.map fun v => v.category).sum ≤ 8) (hR : rmc.frames + 1 ≤ rm.frames ∧ 8 + (nb + 11) + rmc.locals ≤ rm.locals) (hc0 : rmc.cells = 0 ∧ rmc.slots = 0) (hk : kc ≤ rm.cells ∧ ns ≤ rm.slots) (kk : ∀ (u : St), post u → VV Z kc ns (wd u) lv (pc + 3) rest) : VV Z kc ns (wd σ) lv pc st := x_cvv_w (wr := []) X As hM hm hT q0 he hlk hd hst h8 hR hc0 hk kk
theorem x_cni_w {post : Int32 → St → Prop} {rest : List Value} {host : String} (X : Cx Z own cc rm nL) (As : List Value) (hM : CI (zl Z) (zD Z) (zI Z) wd y cb nb ty rmc (.ref b :: As) σ post) (hm : Mv y cb nb (some ty) As.length) (hT : Tb ci y.cls T N) (q0 : Nat) (he : (wd σ)[q0]? = some (b, .inr (ci, fs))) (hlk : Cond.methodLinkNest own idx y host ∈ N0) (hd : decode cc pc = .ok (.invokevirtual idx, 3)) (hst : st = As.reverse ++ .ref b :: rest) (h8 : (rest.map fun v => v.category).sum ≤ 8) (hR : rmc.frames + 1 ≤ rm.frames ∧ 8 + (nb + 11) + rmc.locals ≤ rm.locals) (hc0 : rmc.cells = 0 ∧ rmc.slots = 0) (hk : kc ≤ rm.cells ∧ ns ≤ rm.slots) (kk : ∀ (r : Int32) (u : St), post r u → VV Z kc ns (wr ++ wd u) lv (pc + 3) (.int r :: rest)) : VV Z kc ns (wr ++ wd σ) lv pc st := by
  subst hst
  refine x_runi (a := (Value.ref b :: As).toArray) X (fun H locs ls hP hD hl => ?_) kk
  exact va_runVN (C := y.cls) (As := As) (rest := rest) ⟨X.1, X.2.1, X.2.2.1, X.2.2.2.1, X.2.2.2.2.1⟩ (hM H.size) (cw_VN X hm hc0 hlk hR) (pre_V X hP hD hT he) rfl rfl hl.1 rfl (lv_room h8) hd (by rw [X.2.2.2.2.2.2.2.2.1]; exact hk)
theorem x_cni {post : Int32 → St → Prop} {rest : List Value} {host : String} (X : Cx Z own cc rm nL) (As : List Value) (hM : CI (zl Z) (zD Z) (zI Z) wd y cb nb ty rmc (.ref b :: As) σ post) (hm : Mv y cb nb (some ty) As.length) (hT : Tb ci y.cls T N) (q0 : Nat) (he : (wd σ)[q0]? = some (b, .inr (ci, fs))) (hlk : Cond.methodLinkNest own idx y host ∈ N0) (hd : decode cc pc = .ok (.invokevirtual idx, 3)) (hst : st = As.reverse ++ .ref b :: rest) (h8 : (rest.map fun v => v.category).sum ≤ 8) (hR : rmc.frames + 1 ≤ rm.frames ∧ 8 + (nb + 11) + rmc.locals ≤ rm.locals) (hc0 : rmc.cells = 0 ∧ rmc.slots = 0) (hk : kc ≤ rm.cells ∧ ns ≤ rm.slots) (kk : ∀ (r : Int32) (u : St), post r u → VV Z kc ns (wd u) lv (pc + 3) (.int r :: rest)) : VV Z kc ns (wd σ) lv pc st := x_cni_w (wr := []) X As hM hm hT q0 he hlk hd hst h8 hR hc0 hk kk
theorem x_cnv_w {post : St → Prop} {rest : List Value} {host : String} (X : Cx Z own cc rm nL) (As : List Value) (hM : CV (zl Z) (zD Z) (zI Z) wd y cb nb rmc (.ref b :: As) σ post) (hm : Mv y cb nb none As.length) (hT : Tb ci y.cls T N) (q0 : Nat) (he : (wd σ)[q0]? = some (b, .inr (ci, fs))) (hlk : Cond.methodLinkNest own idx y host ∈ N0) (hd : decode cc pc = .ok (.invokevirtual idx, 3)) (hst : st = As.reverse ++ .ref b :: rest) (h8 : (rest.map fun v => v.category).sum ≤ 8) (hR : rmc.frames + 1 ≤ rm.frames ∧ 8 + (nb + 11) + rmc.locals ≤ rm.locals) (hc0 : rmc.cells = 0 ∧ rmc.slots = 0) (hk : kc ≤ rm.cells ∧ ns ≤ rm.slots) (kk : ∀ (u : St), post u → VV Z kc ns (wr ++ wd u) lv (pc + 3) rest) : VV Z kc ns (wr ++ wd σ) lv pc st := by
  subst hst
  refine x_runv (a := (Value.ref b :: As).toArray) X (fun H locs ls hP hD hl => ?_) kk
  exact va_runVN (C := y.cls) (As := As) (rest := rest) ⟨X.1, X.2.1, X.2.2.1, X.2.2.2.1, X.2.2.2.2.1⟩ (hM H.size) (cw_VN X hm hc0 hlk hR) (pre_V X hP hD hT he) rfl rfl hl.1 rfl (lv_room h8) hd (by rw [X.2.2.2.2.2.2.2.2.1]; exact hk)
theorem x_cnv {post : St → Prop} {rest : List Value} {host : String} (X : Cx Z own cc rm nL) (As : List Value) (hM : CV (zl Z) (zD Z) (zI Z) wd y cb nb rmc (.ref b :: As) σ post) (hm : Mv y cb nb none As.length) (hT : Tb ci y.cls T N) (q0 : Nat) (he : (wd σ)[q0]? = some (b, .inr (ci, fs))) (hlk : Cond.methodLinkNest own idx y host ∈ N0) (hd : decode cc pc = .ok (.invokevirtual idx, 3)) (hst : st = As.reverse ++ .ref b :: rest) (h8 : (rest.map fun v => v.category).sum ≤ 8) (hR : rmc.frames + 1 ≤ rm.frames ∧ 8 + (nb + 11) + rmc.locals ≤ rm.locals) (hc0 : rmc.cells = 0 ∧ rmc.slots = 0) (hk : kc ≤ rm.cells ∧ ns ≤ rm.slots) (kk : ∀ (u : St), post u → VV Z kc ns (wd u) lv (pc + 3) rest) : VV Z kc ns (wd σ) lv pc st := x_cnv_w (wr := []) X As hM hm hT q0 he hlk hd hst h8 hR hc0 hk kk
theorem x_csi_w {post : Int32 → St → Prop} {rest : List Value} (X : Cx Z own cc rm nL) (As : List Value) (hM : CI (zl Z) (zD Z) (zI Z) wd y cb nb ty rmc As σ post) (hm : Ms y cb nb (some ty) As.length) (hlk : Cond.methodLink own idx y ∈ T0) (hd : decode cc pc = .ok (.invokestatic idx, 3)) (hst : st = As.reverse ++ rest) (h8 : (rest.map fun v => v.category).sum ≤ 8) (hR : rmc.frames + 1 ≤ rm.frames ∧ 8 + (nb + 11) + rmc.locals ≤ rm.locals) (hc0 : rmc.cells = 0 ∧ rmc.slots = 0) (hk : kc ≤ rm.cells ∧ ns ≤ rm.slots) (kk : ∀ (r : Int32) (u : St), post r u → VV Z kc ns (wr ++ wd u) lv (pc + 3) (.int r :: rest)) : VV Z kc ns (wr ++ wd σ) lv pc st := by
  subst hst
  refine x_runi (a := As.toArray) X (fun H locs ls hP hD hl => ?_) kk
  exact va_runS (As := As) (rest := rest) ⟨X.1, X.2.1, X.2.2.1, X.2.2.2.1, X.2.2.2.2.1⟩ (hM H.size) (cw_S X hm hc0 hlk hR) (pre_S X hP hD) rfl rfl hl.1 rfl (lv_room h8) hd (by rw [X.2.2.2.2.2.2.2.2.1]; exact hk)
theorem x_csi {post : Int32 → St → Prop} {rest : List Value} (X : Cx Z own cc rm nL) (As : List Value) (hM : CI (zl Z) (zD Z) (zI Z) wd y cb nb ty rmc As σ post) (hm : Ms y cb nb (some ty) As.length) (hlk : Cond.methodLink own idx y ∈ T0) (hd : decode cc pc = .ok (.invokestatic idx, 3)) (hst : st = As.reverse ++ rest) (h8 : (rest.map fun v => v.category).sum ≤ 8) (hR : rmc.frames + 1 ≤ rm.frames ∧ 8 + (nb + 11) + rmc.locals ≤ rm.locals) (hc0 : rmc.cells = 0 ∧ rmc.slots = 0) (hk : kc ≤ rm.cells ∧ ns ≤ rm.slots) (kk : ∀ (r : Int32) (u : St), post r u → VV Z kc ns (wd u) lv (pc + 3) (.int r :: rest)) : VV Z kc ns (wd σ) lv pc st := x_csi_w (wr := []) X As hM hm hlk hd hst h8 hR hc0 hk kk
theorem x_csv_w {post : St → Prop} {rest : List Value} (X : Cx Z own cc rm nL) (As : List Value) (hM : CV (zl Z) (zD Z) (zI Z) wd y cb nb rmc As σ post) (hm : Ms y cb nb none As.length) (hlk : Cond.methodLink own idx y ∈ T0) (hd : decode cc pc = .ok (.invokestatic idx, 3)) (hst : st = As.reverse ++ rest) (h8 : (rest.map fun v => v.category).sum ≤ 8) (hR : rmc.frames + 1 ≤ rm.frames ∧ 8 + (nb + 11) + rmc.locals ≤ rm.locals) (hc0 : rmc.cells = 0 ∧ rmc.slots = 0) (hk : kc ≤ rm.cells ∧ ns ≤ rm.slots) (kk : ∀ (u : St), post u → VV Z kc ns (wr ++ wd u) lv (pc + 3) rest) : VV Z kc ns (wr ++ wd σ) lv pc st := by
  subst hst
  refine x_runv (a := As.toArray) X (fun H locs ls hP hD hl => ?_) kk
  exact va_runS (As := As) (rest := rest) ⟨X.1, X.2.1, X.2.2.1, X.2.2.2.1, X.2.2.2.2.1⟩ (hM H.size) (cw_S X hm hc0 hlk hR) (pre_S X hP hD) rfl rfl hl.1 rfl (lv_room h8) hd (by rw [X.2.2.2.2.2.2.2.2.1]; exact hk)
theorem x_csv {post : St → Prop} {rest : List Value} (X : Cx Z own cc rm nL) (As : List Value) (hM : CV (zl Z) (zD Z) (zI Z) wd y cb nb rmc As σ post) (hm : Ms y cb nb none As.length) (hlk : Cond.methodLink own idx y ∈ T0) (hd : decode cc pc = .ok (.invokestatic idx, 3)) (hst : st = As.reverse ++ rest) (h8 : (rest.map fun v => v.category).sum ≤ 8) (hR : rmc.frames + 1 ≤ rm.frames ∧ 8 + (nb + 11) + rmc.locals ≤ rm.locals) (hc0 : rmc.cells = 0 ∧ rmc.slots = 0) (hk : kc ≤ rm.cells ∧ ns ≤ rm.slots) (kk : ∀ (u : St), post u → VV Z kc ns (wd u) lv (pc + 3) rest) : VV Z kc ns (wd σ) lv pc st := x_csv_w (wr := []) X As hM hm hlk hd hst h8 hR hc0 hk kk
end XC
end
section
/-! THE FRAME, 2: what is made (new, newarray, constructors), the law's script, two worlds side by side. -/
theorem w_Pl {D : va_G} {wr wc : va_W} {H : Heap} (h : va_P D classes (wr ++ wc) H) : va_P D classes wr H := fun k q hq => h _ q (w_left hq)
theorem w_Dl {A : Nat → Prop} {wr wc : va_W} (h : va_D A (wr ++ wc)) : va_D A wr := ⟨fun i j p q hi hj e => h.1 i j p q (w_left hi) (w_left hj) e, fun k q hq => h.2 k q (w_left hq)⟩
theorem w_swapP {D : va_G} {a b : va_W} {H : Heap} (h : va_P D classes (a ++ b) H) : va_P D classes (b ++ a) H := va_P.app (w_Pc h) (w_Pl h)
theorem w_swapD {A : Nat → Prop} {a b : va_W} (h : va_D A (a ++ b)) : va_D A (b ++ a) := va_D.app (w_Dc h) (w_Dl h) (fun i j p q hi hj e => by
  have := h.1 _ _ q p (w_left hj) (w_right hi) e.symm
  have hl : j < a.length := (List.getElem?_eq_some_iff.mp hj).1
  omega)
theorem VV_swap {Z : ZT} {kc ns pc : Nat} {a b : va_W} {lv : List (Nat × Value)} {st : List Value} (h : VV Z kc ns (a ++ b) lv pc st) : VV Z kc ns (b ++ a) lv pc st := fun H locs ls hP hD hS hl => h H locs ls (w_swapP hP) (w_swapD hD) hS hl
theorem VV_widen {Z : ZT} {kc ns k n pc : Nat} {ws : va_W} {lv : List (Nat × Value)} {st : List Value} (h1 : kc ≤ k) (h2 : ns ≤ n) (h : VV Z k n ws lv pc st) : VV Z kc ns ws lv pc st := fun H locs ls hP hD hS hl => W.widen h1 h2 (h H locs ls hP hD hS hl)
/-- a constructor's contract: from the cells w0 to cells w with Pw w; mc cells of ms slots are new -/
def CK (l : Launch) (D : va_G) (cI : ClassId) (y : MethodName) (cc : ByteArray) (nL : Nat) (rm : Room) (av : List Value) (w0 : va_W) (Pw : va_W → Prop) (mc ms : Nat) : Prop :=
  ∀ sz : Nat, Met l y (Cond.code y cc nL none :: T0) rm (va_Pc av (PcB D cI w0 sz)) (va_Qv Pw (fun w t => va_P D classes w t.heap ∧ va_D (va_A w0 sz) w) (va_A w0 sz)) mc ms (va_A w0 sz)
def RK (Z : ZT) (cc : ByteArray) (Pw : va_W → Prop) (mc ms : Nat) : Prop := ∀ (w : va_W) (lv : List (Nat × Value)) (pc : Nat), decode cc pc = .ok (.return_, 1) → Pw w → VV Z mc ms w lv pc []
theorem CK_of {l : Launch} {D : va_G} {cI : ClassId} {y : MethodName} {cc : ByteArray} {nL : Nat} {rm : Room} {av : List Value} {w0 : va_W} {Pw : va_W → Prop} {mc ms : Nat} (hy : plainName y.cls = true) (hlen : (lg_sl av).length ≤ nL)
    (body : ∀ Z : ZT, zl Z = l → zD Z = D → zI Z = cI → (zt Z).name = y.name → Cx Z y.cls cc rm nL → RK Z cc Pw mc ms → VV Z 0 0 w0 (lv_args 0 av) 0 []) : CK l D cI y cc nL rm av w0 Pw mc ms := by
  intro sz
  refine Met.ofW (cc := cc) (maxL := nL) (ret := none) hy rfl ?_
  intro p e s m args below meth c s₁ B hml hv
  obtain ⟨rfl, hsz, hP, hK, hD0, hN⟩ := hv
  have hts := atoms_spec (ws := Cond.code y cc nL none :: T0) B.pre
  have hlocks := B.notSynchronized
  have hin : meth.name = y.name := (name_of_methodNamed B.named B.method).1
  subst hsz
  rw [lg_entry_eq]
  have hl := lv_entry av (n := nL) hlen
  refine body (p, l, e, rm, s, m, av.toArray, below, meth, c, va_A w0 s.heap.size, MQ below (va_Qv Pw (fun w t => va_P D classes w t.heap ∧ va_D (va_A w0 s.heap.size) w) (va_A w0 s.heap.size)) av.toArray s mc ms (va_A w0 s.heap.size), D, cI, nL) rfl rfl rfl hin ⟨B.exec, B.bytes, hml, findClass_of_methodNamed B.named, fun w hw => hts w (List.mem_cons_of_mem _ hw), hK, fun q h => Or.inr h, hN, rfl, rfl⟩ ?_ s.heap [] _ hP hD0.self va_S.rf hl
  intro w lv pc hd hp H locs ls hP hD hS hl
  exact W.vret B.exec B.bytes B.returns (fun t ht hW => ⟨⟨w, rfl, hp, by rw [ht]; exact hP, hD⟩, hS.F ht⟩) hS.2.2 hd (hlocks := hlocks)
section XK
variable {Z : ZT} {own : String} {cc : ByteArray} {rm : Room} {nL kc ns pc : Nat} {ws : va_W} {lv : List (Nat × Value)} {st : List Value}
theorem x_newa (X : Cx Z own cc rm nL) {n : Int32} {N : Nat} (hw : Cond.arrayClass .int ∈ T0) (hn : ¬ n < 0) (hN : n.toNatClampNeg = N) (hb : N * 4 ≤ 536870912) (hk : kc + 1 ≤ rm.cells) (hs : ns + N ≤ rm.slots) (hd : decode cc pc = .ok (.newarray .int, 2)) (h : ∀ a : Nat, VV Z (kc + 1) (ns + N) (ws ++ [(a, .inl (zI Z, N, .inl (fun _ => 0)))]) lv (pc + 2) (.ref a :: st)) : VV Z kc ns ws lv pc (.int n :: st) := by
  intro H locs ls hP hD hS hl
  refine va_newa (atype := .int) (ty := .int) X.1 X.2.1 (X.2.2.2.2.1 _ hw) rfl X.2.2.2.2.2.1 hP hD hS X.2.2.2.2.2.2.1 (a0 := (N, .inl (fun _ => 0))) (fun cA => rfl) hn hN hb (by rw [X.2.2.2.2.2.2.2.2.1]; exact hk) (by rw [X.2.2.2.2.2.2.2.2.1]; exact hs) hd (fun a cA H1 hK1 hP1 hD1 hS1 => ?_)
  have e1 := (hK1.2 0 _ rfl).2
  have e2 := (hK1.2 1 _ rfl).2
  have e : cA = zI Z := Option.some.inj (e2.symm.trans e1)
  rw [e] at hP1 hD1
  exact h a H1 locs ls hP1 hD1 hS1 hl
theorem x_new (X : Cx Z own cc rm nL) {ci N idx : Nat} {C : String} {T : u_T} {fs : List Value} (hT : Tb ci C T N) (ty : Nat → FieldType) (hty : ∀ k, k < N → parseFieldDescriptor (T k).2.2.1 = some (ty k)) (h1 : Cond.classLink own idx C ∈ T0) (h2 : Cond.instantiable C N ∈ T0) (h3 : Cond.initialized C ∈ T0) (hfs : ∀ j, j < N → defaultValue (ty j) = vp_V fs j) (hk : kc + 1 ≤ rm.cells) (hs : ns + N ≤ rm.slots) (hd : decode cc pc = .ok (.new idx, 3)) (h : ∀ a : Nat, VV Z (kc + 1) (ns + N) (ws ++ [(a, .inr (ci, fs))]) lv (pc + 3) (.ref a :: st)) : VV Z kc ns ws lv pc st := by
  intro H locs ls hP hD hS hl
  exact va_new X.1 X.2.1 X.2.2.2.2.1 hT.2.1 ty hty X.2.2.2.1 (X.2.2.2.2.1 _ h1) (X.2.2.2.2.1 _ h2) (X.2.2.2.2.1 _ h3) X.2.2.2.2.2.1 hP hD hS X.2.2.2.2.2.2.1 hT.1 hfs (by rw [X.2.2.2.2.2.2.2.2.1]; exact hk) (by rw [X.2.2.2.2.2.2.2.2.1]; exact hs) hd (fun a H1 hP1 hD1 hS1 => h a H1 locs ls hP1 hD1 hS1 hl)
theorem x_putF (X : Cx Z own cc rm nL) {ci N idx a r : Nat} {C : String} {T : u_T} {fs : List Value} {ty : FieldType} {ws' : va_W} (hin : (zt Z).name = "<init>") (hT : Tb ci C T N) (q0 k : Nat) (hk : k < N) (hw : Cond.fieldLink own idx (T k).1 (T k).2.1 (T k).2.2.1 ∈ T0) (he : ws[q0]? = some (a, .inr (ci, fs))) (hf : (T k).2.2.2 = true) (ho : (T k).1 = own) (hy : parseFieldDescriptor (T k).2.2.1 = some ty) (hna : narrow ty (.ref r) = .ref r) (hfi : fits ty (.ref r) = true) (hlen : k < fs.length) (hset : ws.set q0 (a, .inr (ci, fs.set k (.ref r))) = ws') (hd : decode cc pc = .ok (.putfield idx, 3)) (h : VV Z kc ns ws' lv (pc + 3) st) : VV Z kc ns ws lv pc (.ref r :: .ref a :: st) := by
  obtain ⟨h1, h2, h3, ty0, h4⟩ := hT
  subst hset
  exact fun H locs ls hP hD hS hl => va_putF X.1 X.2.1 X.2.2.2.2.1 h2 ty0 h4 h3 X.2.2.2.1 X.2.2.2.2.2.1 hP hD hS q0 he h1 k hk (X.2.2.2.2.1 _ hw) (fun _ z => z) hf hin ho hy hna hfi hlen hd (fun H1 l1 a1 a2 a3 => h H1 l1 ls a1 a2 a3 hl)
theorem x_objInit (X : Cx Z own cc rm nL) {idx a : Nat} (h1 : Cond.methodLink own idx Lib.objectInit ∈ T0) (h2 : Cond.instanceMethod Lib.objectInit ∈ T0) (h3 : Cond.code Lib.objectInit ⟨#[0xb1]⟩ 1 none ∈ T0) (hf : 1 ≤ rm.frames) (hl9 : (st.map fun v => v.category).sum + 12 ≤ rm.locals) (hd : decode cc pc = .ok (.invokespecial idx, 3)) (h : VV Z kc ns ws lv (pc + 3) st) : VV Z kc ns ws lv pc (.ref a :: st) := fun H locs ls hP hD hS hl =>
  W.objInit X.1 X.2.1 X.2.2.2.1 (X.2.2.2.2.1 _ h1) (X.2.2.2.2.1 _ h2) (X.2.2.2.2.1 _ h3) rfl (hl.1.trans X.2.2.1.symm) rfl hd (by rw [X.2.2.2.2.2.2.2.2.1]; exact hf) (by rw [X.2.2.2.2.2.2.2.2.1]; show 2 * 0 + _ + 12 ≤ _; omega) (h H locs ls hP hD hS hl)
/-- the call of a constructor, of one's own or of a nest mate -/
def Mk (y : MethodName) (cc : ByteArray) (nL : Nat) : Prop := Cond.instanceMethod y ∈ T0 ∧ Cond.initialized y.cls ∈ T0 ∧ Cond.code y cc nL none ∈ T0 ∧ y.name = "<init>" ∧ y.cls ≠ "java/lang/invoke/MethodHandle" ∧ y.cls ≠ "java/lang/invoke/VarHandle" ∧ (parseMethodDescriptor y.desc).map (fun d => d.parameters.length) = some 0
theorem x_ck0 (X : Cx Z own cc rm nL) {y : MethodName} {cb : ByteArray} {nb b mc ms : Nat} {rmc : Room} {wr w0 : va_W} {Pw : va_W → Prop} (hM : CK (zl Z) (zD Z) (zI Z) y cb nb rmc [.ref b] w0 Pw mc ms)
    (hr : ∀ (H : Heap) (locs : List Loc) (ls : Array Slot), va_P (zD Z) classes (wr ++ w0) H → va_D (zA Z) (wr ++ w0) → lv_has ls (zn Z) lv → Met (zl Z) y (Cond.code y cb nb none :: T0) rmc (va_Pc [.ref b] (PcB (zD Z) (zI Z) w0 H.size)) (va_Qv Pw (fun w t => va_P (zD Z) classes w t.heap ∧ va_D (va_A w0 H.size) w) (va_A w0 H.size)) mc ms (va_A w0 H.size) → va_Run (zp Z) (zl Z) (ze Z) (zR Z) (zs Z) (zm Z) (za Z) (zw Z) (zt Z) (zc Z) H locs kc ns mc ms (F0 (zm Z) pc ls (.ref b :: st)) st (va_Qv Pw (fun w t => va_P (zD Z) classes w t.heap ∧ va_D (va_A w0 H.size) w) (va_A w0 H.size) [Value.ref b].toArray) (va_A w0 H.size))
    (kk : ∀ w : va_W, Pw w → VV Z (kc + mc) (ns + ms) (wr ++ w) lv (pc + 3) st) : VV Z kc ns (wr ++ w0) lv pc (.ref b :: st) := by
  intro H locs ls hP hD hS hl
  have hFc : ∀ q, va_A w0 H.size q → zA Z q := x_free X (w_Dc hD) hS
  refine va_callv (hr H locs ls hP hD hl (hM H.size)) hS (fun q _ h => hFc q h) hFc (fun u t H1 locs1 ht hvm hw hB hz1 hk1 hS1 => ?_)
  obtain ⟨hP1, hD1⟩ := hB
  rw [ht] at hP1
  obtain ⟨hP', hD'⟩ := w_join hP hD hFc hk1 hP1 hD1
  exact kk u hw H1 locs1 ls hP' hD' hS1 hl
theorem x_ck (X : Cx Z own cc rm nL) {y : MethodName} {cb : ByteArray} {nb b mc ms idx : Nat} {rmc : Room} {wr w0 : va_W} {Pw : va_W → Prop} (hM : CK (zl Z) (zD Z) (zI Z) y cb nb rmc [.ref b] w0 Pw mc ms) (hm : Mk y cb nb) (hlk : Cond.methodLink own idx y ∈ T0) (hd : decode cc pc = .ok (.invokespecial idx, 3)) (h8 : (st.map fun v => v.category).sum ≤ 8) (hR : rmc.frames + 1 ≤ rm.frames ∧ 8 + (nb + 11) + rmc.locals ≤ rm.locals) (hc0 : rmc.cells = mc ∧ rmc.slots = ms) (hk : kc + mc ≤ rm.cells ∧ ns + ms ≤ rm.slots)
    (kk : ∀ w : va_W, Pw w → VV Z (kc + mc) (ns + ms) (wr ++ w) lv (pc + 3) st) : VV Z kc ns (wr ++ w0) lv pc (.ref b :: st) := by
  obtain ⟨m1, m3, m4, m0, m5, m6, m7⟩ := hm
  refine x_ck0 X hM (fun H locs ls hP hD hl hMt => ?_) kk
  exact va_runI (As := []) (rest := st) ⟨X.1, X.2.1, X.2.2.1, X.2.2.2.1, X.2.2.2.2.1⟩ hMt (cwI 0 X.2.2.2.2.1 (T0_cons m4) rfl hc0.1 hc0.2 (X.2.2.2.2.1 _ m3) (X.2.2.2.2.1 _ hlk) (X.2.2.2.2.1 _ m1) m0 ⟨m5, m6, m7⟩ (by rw [X.2.2.2.2.2.2.2.2.1]; exact hR)) ⟨pc_blind, fun U hU hW => ⟨rfl, by rw [hU], by rw [hU]; exact w_Pc hP, va_K.moved hW.alike X.2.2.2.2.2.1, (w_Dc hD).weaken (fun _ _ _ _ => trivial), nw_warm hW X.2.2.2.2.2.2.2.1⟩⟩ rfl rfl hl.1 rfl (lv_room h8) hd (by rw [X.2.2.2.2.2.2.2.2.1]; exact hk)
theorem x_ckN (X : Cx Z own cc rm nL) {y : MethodName} {cb : ByteArray} {nb b mc ms idx : Nat} {host : String} {rmc : Room} {wr w0 : va_W} {Pw : va_W → Prop} (hM : CK (zl Z) (zD Z) (zI Z) y cb nb rmc [.ref b] w0 Pw mc ms) (hm : Mk y cb nb) (hlk : Cond.methodLinkNest own idx y host ∈ N0) (hd : decode cc pc = .ok (.invokespecial idx, 3)) (h8 : (st.map fun v => v.category).sum ≤ 8) (hR : rmc.frames + 1 ≤ rm.frames ∧ 8 + (nb + 11) + rmc.locals ≤ rm.locals) (hc0 : rmc.cells = mc ∧ rmc.slots = ms) (hk : kc + mc ≤ rm.cells ∧ ns + ms ≤ rm.slots)
    (kk : ∀ w : va_W, Pw w → VV Z (kc + mc) (ns + ms) (wr ++ w) lv (pc + 3) st) : VV Z kc ns (wr ++ w0) lv pc (.ref b :: st) := by
  obtain ⟨m1, m3, m4, m0, m5, m6, m7⟩ := hm
  refine x_ck0 X hM (fun H locs ls hP hD hl hMt => ?_) kk
  exact va_runIN (As := []) (rest := st) ⟨X.1, X.2.1, X.2.2.1, X.2.2.2.1, X.2.2.2.2.1⟩ hMt ⟨va_cnB 0 X.2.2.2.2.1 (T0_cons m4) rfl hc0.1 hc0.2 (X.2.2.2.2.2.2.2.1 _ hlk) (X.2.2.2.2.1 _ m3) ⟨m5, m6, m7⟩ (by rw [X.2.2.2.2.2.2.2.2.1]; exact hR), m0, X.2.2.2.2.1 _ m1⟩ ⟨pc_blind, fun U hU hW => ⟨rfl, by rw [hU], by rw [hU]; exact w_Pc hP, va_K.moved hW.alike X.2.2.2.2.2.1, (w_Dc hD).weaken (fun _ _ _ _ => trivial), nw_warm hW X.2.2.2.2.2.2.2.1⟩⟩ rfl rfl hl.1 rfl (lv_room h8) hd (by rw [X.2.2.2.2.2.2.2.2.1]; exact hk)
/-- the script -/
theorem x_sld (X : Cx Z own cc rm nL) {b L : Nat} {xs : Nat → Int32} (hX : va_X b L xs (zs Z) (zs Z).heap) (hbl : b < (zs Z).heap.size) (hbA : ¬ zA Z b) {i : Int32} (hin : vp_in i L) (hd : decode cc pc = .ok (.iaload, 1)) (h : VV Z kc ns ws lv (pc + 1) (.int (xs i.toNatClampNeg) :: st)) : VV Z kc ns ws lv pc (.int i :: .ref b :: st) := fun H locs ls hP hD hS hl => va_sld X.1 X.2.1 hX hbl hbA hS hin hd (h H locs ls hP hD hS hl)
theorem x_slen (X : Cx Z own cc rm nL) {b L : Nat} {xs : Nat → Int32} (hX : va_X b L xs (zs Z) (zs Z).heap) (hbl : b < (zs Z).heap.size) (hbA : ¬ zA Z b) (hd : decode cc pc = .ok (.arraylength, 1)) (h : VV Z kc ns ws lv (pc + 1) (.int (nI L) :: st)) : VV Z kc ns ws lv pc (.ref b :: st) := fun H locs ls hP hD hS hl => va_slen X.1 X.2.1 hX hbl hbA hS hd (h H locs ls hP hD hS hl)
end XK
end
section
theorem pI : parseFieldDescriptor "I" = some .int := by decide +kernel
theorem tw_W : ∀ w ∈ u_ws R_W F_W 3, w ∈ lw_tbl ∧ goodWord w = true := by decide +kernel
theorem tn_W : ∀ a, a < 3 → ∀ b, b < 3 → a ≠ b → (F_W a).2.1 ≠ (F_W b).2.1 := by decide +kernel
theorem tt_W : ∀ k, k < 3 → parseFieldDescriptor (F_W k).2.2.1 = some (ty_W k) := by decide +kernel
theorem tb_W : Tb 0 R_W F_W 3 := ⟨rfl, fun w h => T0_in (tw_W w h).1 (tw_W w h).2, tn_W, ty_W, tt_W⟩
theorem tw_G : ∀ w ∈ u_ws R_G F_G 4, w ∈ lw_tbl ∧ goodWord w = true := by decide +kernel
theorem tn_G : ∀ a, a < 4 → ∀ b, b < 4 → a ≠ b → (F_G a).2.1 ≠ (F_G b).2.1 := by decide +kernel
theorem tt_G : ∀ k, k < 4 → parseFieldDescriptor (F_G k).2.2.1 = some (ty_G k) := by decide +kernel
theorem tb_G : Tb 1 R_G F_G 4 := ⟨rfl, fun w h => T0_in (tw_G w h).1 (tw_G w h).2, tn_G, ty_G, tt_G⟩
theorem tw_T : ∀ w ∈ u_ws R_T F_T 12, w ∈ lw_tbl ∧ goodWord w = true := by decide +kernel
theorem tn_T : ∀ a, a < 12 → ∀ b, b < 12 → a ≠ b → (F_T a).2.1 ≠ (F_T b).2.1 := by decide +kernel
theorem tt_T : ∀ k, k < 12 → parseFieldDescriptor (F_T k).2.2.1 = some (ty_T k) := by decide +kernel
theorem tb_T : Tb 2 R_T F_T 12 := ⟨rfl, fun w h => T0_in (tw_T w h).1 (tw_T w h).2, tn_T, ty_T, tt_T⟩
theorem tw_M : ∀ w ∈ u_ws R_M F_M 17, w ∈ lw_tbl ∧ goodWord w = true := by decide +kernel
theorem tn_M : ∀ a, a < 17 → ∀ b, b < 17 → a ≠ b → (F_M a).2.1 ≠ (F_M b).2.1 := by decide +kernel
theorem tt_M : ∀ k, k < 17 → parseFieldDescriptor (F_M k).2.2.1 = some (ty_M k) := by decide +kernel
theorem tb_M : Tb 3 R_M F_M 17 := ⟨rfl, fun w h => T0_in (tw_M w h).1 (tw_M w h).2, tn_M, ty_M, tt_M⟩
theorem mw_0 : Cond.fieldLink "WayTable" 12 "WayTable" "graph" "LWayTable$Graph;" ∈ T0 := T0_in (List.mem_append_right _ (List.mem_of_getElem? (i := 91) (by decide +kernel))) (by decide +kernel)
theorem mw_1 : Cond.fieldLink "WayTable$Graph" 9 "WayTable$Graph" "nodeCount" "I" ∈ T0 := T0_in (List.mem_append_right _ (List.mem_of_getElem? (i := 23) (by decide +kernel))) (by decide +kernel)
theorem mw_2 : Cond.fieldLink "WayTable$Graph" 15 "WayTable$Graph" "letterCount" "I" ∈ T0 := T0_in (List.mem_append_right _ (List.mem_of_getElem? (i := 25) (by decide +kernel))) (by decide +kernel)
theorem mw_3 : Cond.fieldLink "WayTable$Graph" 18 "WayTable$Graph" "startNode" "I" ∈ T0 := T0_in (List.mem_append_right _ (List.mem_of_getElem? (i := 28) (by decide +kernel))) (by decide +kernel)
theorem mw_4 : Cond.fieldLink "WayTable$Graph" 21 "WayTable$Graph" "targets" "[I" ∈ T0 := T0_in (List.mem_append_right _ (List.mem_of_getElem? (i := 31) (by decide +kernel))) (by decide +kernel)
theorem mw_5 : Cond.methodLink "WayTable$Graph" 25 (⟨"java/util/Arrays", "fill", "([II)V"⟩ : MethodName) ∈ T0 := T0_in (List.mem_append_right _ (List.mem_of_getElem? (i := 109) (by decide +kernel))) (by decide +kernel)
theorem nw_6 : Cond.methodLinkNest "WayTable" 27 (⟨"WayTable$Graph", "clear", "(II)V"⟩ : MethodName) "WayTable" ∈ N0 := N0_in (List.mem_append_right _ (List.mem_of_getElem? (i := 105) (by decide +kernel))) rfl
theorem mw_7 : Cond.fieldLink "WayTableModel" 48 "WayTableModel" "thrown" "I" ∈ T0 := T0_in (List.mem_append_right _ (List.mem_of_getElem? (i := 344) (by decide +kernel))) (by decide +kernel)
theorem mw_8 : Cond.fieldLink "WayTableModel" 7 "WayTableModel" "nodes" "I" ∈ T0 := T0_in (List.mem_append_right _ (List.mem_of_getElem? (i := 345) (by decide +kernel))) (by decide +kernel)
theorem mw_9 : Cond.fieldLink "WayTableModel" 13 "WayTableModel" "letters" "I" ∈ T0 := T0_in (List.mem_append_right _ (List.mem_of_getElem? (i := 346) (by decide +kernel))) (by decide +kernel)
theorem mw_10 : Cond.fieldLink "WayTableModel" 51 "WayTableModel" "start" "I" ∈ T0 := T0_in (List.mem_append_right _ (List.mem_of_getElem? (i := 347) (by decide +kernel))) (by decide +kernel)
theorem mw_11 : Cond.fieldLink "WayTableModel" 16 "WayTableModel" "ways" "[I" ∈ T0 := T0_in (List.mem_append_right _ (List.mem_of_getElem? (i := 348) (by decide +kernel))) (by decide +kernel)
theorem mw_12 : Cond.methodLink "WayTable$Graph" 31 (⟨"WayTable$Graph", "hasNode", "(I)Z"⟩ : MethodName) ∈ T0 := T0_in (List.mem_append_right _ (List.mem_of_getElem? (i := 120) (by decide +kernel))) (by decide +kernel)
theorem mw_13 : Cond.methodLink "WayTable$Graph" 35 (⟨"WayTable$Graph", "hasLetter", "(I)Z"⟩ : MethodName) ∈ T0 := T0_in (List.mem_append_right _ (List.mem_of_getElem? (i := 124) (by decide +kernel))) (by decide +kernel)
theorem nw_14 : Cond.methodLinkNest "WayTable" 31 (⟨"WayTable$Graph", "canHold", "(III)Z"⟩ : MethodName) "WayTable" ∈ N0 := N0_in (List.mem_append_right _ (List.mem_of_getElem? (i := 116) (by decide +kernel))) rfl
theorem mw_15 : Cond.methodLink "WayTable$Graph" 38 (⟨"WayTable$Graph", "place", "(II)I"⟩ : MethodName) ∈ T0 := T0_in (List.mem_append_right _ (List.mem_of_getElem? (i := 132) (by decide +kernel))) (by decide +kernel)
theorem nw_16 : Cond.methodLinkNest "WayTable" 35 (⟨"WayTable$Graph", "holds", "(III)Z"⟩ : MethodName) "WayTable" ∈ N0 := N0_in (List.mem_append_right _ (List.mem_of_getElem? (i := 128) (by decide +kernel))) rfl
theorem nw_17 : Cond.methodLinkNest "WayTable" 38 (⟨"WayTable$Graph", "flip", "(III)V"⟩ : MethodName) "WayTable" ∈ N0 := N0_in (List.mem_append_right _ (List.mem_of_getElem? (i := 135) (by decide +kernel))) rfl
theorem mw_18 : Cond.methodLink "WayTableModel" 54 (⟨"WayTableModel", "isNode", "(I)Z"⟩ : MethodName) ∈ T0 := T0_in (List.mem_append_right _ (List.mem_of_getElem? (i := 404) (by decide +kernel))) (by decide +kernel)
theorem mw_19 : Cond.methodLink "WayTableModel" 58 (⟨"WayTableModel", "isLetter", "(I)Z"⟩ : MethodName) ∈ T0 := T0_in (List.mem_append_right _ (List.mem_of_getElem? (i := 408) (by decide +kernel))) (by decide +kernel)
theorem mw_20 : Cond.methodLink "WayTableModel" 61 (⟨"WayTableModel", "is", "(III)Z"⟩ : MethodName) ∈ T0 := T0_in (List.mem_append_right _ (List.mem_of_getElem? (i := 412) (by decide +kernel))) (by decide +kernel)
theorem nw_21 : Cond.methodLinkNest "WayTable" 42 (⟨"WayTable$Graph", "hasLetter", "(I)Z"⟩ : MethodName) "WayTable" ∈ N0 := N0_in (List.mem_append_right _ (List.mem_of_getElem? (i := 143) (by decide +kernel))) rfl
theorem nw_22 : Cond.methodLinkNest "WayTable" 46 (⟨"WayTable$Graph", "hasNode", "(I)Z"⟩ : MethodName) "WayTable" ∈ N0 := N0_in (List.mem_append_right _ (List.mem_of_getElem? (i := 144) (by decide +kernel))) rfl
theorem nw_23 : Cond.fieldLinkNest "WayTable" 49 "WayTable$Graph" "nodeCount" "I" "WayTable" ∈ N0 := N0_in (List.mem_append_right _ (List.mem_of_getElem? (i := 24) (by decide +kernel))) rfl
theorem mw_24 : Cond.methodLink "WayTableModel" 65 (⟨"WayTableModel", "way", "(IIIZ)Z"⟩ : MethodName) ∈ T0 := T0_in (List.mem_append_right _ (List.mem_of_getElem? (i := 420) (by decide +kernel))) (by decide +kernel)
theorem nw_25 : Cond.fieldLinkNest "WayTable" 52 "WayTable$Graph" "letterCount" "I" "WayTable" ∈ N0 := N0_in (List.mem_append_right _ (List.mem_of_getElem? (i := 26) (by decide +kernel))) rfl
theorem mw_26 : Cond.methodLink "WayTable$Graph" 42 (⟨"WayTable$Graph", "holds", "(III)Z"⟩ : MethodName) ∈ T0 := T0_in (List.mem_append_right _ (List.mem_of_getElem? (i := 153) (by decide +kernel))) (by decide +kernel)
theorem mw_27 : Cond.methodLink "WayTable$Graph" 46 (⟨"WayTable$Graph", "flip", "(III)V"⟩ : MethodName) ∈ T0 := T0_in (List.mem_append_right _ (List.mem_of_getElem? (i := 154) (by decide +kernel))) (by decide +kernel)
theorem nw_28 : Cond.methodLinkNest "WayTable" 55 (⟨"WayTable$Graph", "transpose", "(I)V"⟩ : MethodName) "WayTable" ∈ N0 := N0_in (List.mem_append_right _ (List.mem_of_getElem? (i := 149) (by decide +kernel))) rfl
theorem nw_29 : Cond.fieldLinkNest "WayTable" 59 "WayTable$Graph" "startNode" "I" "WayTable" ∈ N0 := N0_in (List.mem_append_right _ (List.mem_of_getElem? (i := 30) (by decide +kernel))) rfl
theorem mw_30 : Cond.fieldLink "WayTable" 19 "WayTable" "table" "LWayTable$Table;" ∈ T0 := T0_in (List.mem_append_right _ (List.mem_of_getElem? (i := 92) (by decide +kernel))) (by decide +kernel)
theorem mw_31 : Cond.fieldLink "WayTable$Table" 28 "WayTable$Table" "found" "[I" ∈ T0 := T0_in (List.mem_append_right _ (List.mem_of_getElem? (i := 58) (by decide +kernel))) (by decide +kernel)
theorem nw_32 : Cond.fieldLinkNest "WayTable$Table" 72 "WayTable$Graph" "startNode" "I" "WayTable" ∈ N0 := N0_in (List.mem_append_right _ (List.mem_of_getElem? (i := 29) (by decide +kernel))) rfl
theorem nw_33 : Cond.fieldLinkNest "WayTable$Table" 53 "WayTable$Graph" "letterCount" "I" "WayTable" ∈ N0 := N0_in (List.mem_append_right _ (List.mem_of_getElem? (i := 27) (by decide +kernel))) rfl
theorem nw_34 : Cond.methodLinkNest "WayTable$Table" 75 (⟨"WayTable$Graph", "reach", "(II)I"⟩ : MethodName) "WayTable" ∈ N0 := N0_in (List.mem_append_right _ (List.mem_of_getElem? (i := 171) (by decide +kernel))) rfl
theorem mw_35 : Cond.methodLink "WayTable$Table" 79 (⟨"WayTable$Table", "indexOf", "([III)I"⟩ : MethodName) ∈ T0 := T0_in (List.mem_append_right _ (List.mem_of_getElem? (i := 175) (by decide +kernel))) (by decide +kernel)
theorem mw_36 : Cond.methodLink "WayTable$Table" 49 (⟨"WayTable$Table", "findSets", "(LWayTable$Graph;)I"⟩ : MethodName) ∈ T0 := T0_in (List.mem_append_right _ (List.mem_of_getElem? (i := 167) (by decide +kernel))) (by decide +kernel)
theorem mw_37 : Cond.fieldLink "WayTable$Table" 9 "WayTable$Table" "letterCount" "I" ∈ T0 := T0_in (List.mem_append_right _ (List.mem_of_getElem? (i := 48) (by decide +kernel))) (by decide +kernel)
theorem mw_38 : Cond.fieldLink "WayTable$Table" 15 "WayTable$Table" "setCount" "I" ∈ T0 := T0_in (List.mem_append_right _ (List.mem_of_getElem? (i := 50) (by decide +kernel))) (by decide +kernel)
theorem mw_39 : Cond.fieldLink "WayTable$Table" 24 "WayTable$Table" "sets" "[I" ∈ T0 := T0_in (List.mem_append_right _ (List.mem_of_getElem? (i := 56) (by decide +kernel))) (by decide +kernel)
theorem mw_40 : Cond.methodLink "WayTable$Table" 56 (⟨"java/lang/System", "arraycopy", "(Ljava/lang/Object;ILjava/lang/Object;II)V"⟩ : MethodName) ∈ T0 := T0_in (List.mem_append_right _ (List.mem_of_getElem? (i := 178) (by decide +kernel))) (by decide +kernel)
theorem mw_41 : Cond.native (⟨"java/lang/System", "arraycopy", "(Ljava/lang/Object;ILjava/lang/Object;II)V"⟩ : MethodName) ∈ T0 := T0_in (List.mem_append_right _ (List.mem_of_getElem? (i := 180) (by decide +kernel))) (by decide +kernel)
theorem mw_42 : Cond.static (⟨"java/lang/System", "arraycopy", "(Ljava/lang/Object;ILjava/lang/Object;II)V"⟩ : MethodName) ∈ T0 := T0_in (List.mem_append_right _ (List.mem_of_getElem? (i := 179) (by decide +kernel))) (by decide +kernel)
theorem mw_43 : Cond.initialized "java/lang/System" ∈ T0 := T0_in (List.mem_append_right _ (List.mem_of_getElem? (i := 6) (by decide +kernel))) (by decide +kernel)
theorem mw_44 : Cond.fieldLink "WayTable$Table" 31 "WayTable$Table" "steps" "[I" ∈ T0 := T0_in (List.mem_append_right _ (List.mem_of_getElem? (i := 59) (by decide +kernel))) (by decide +kernel)
theorem mw_45 : Cond.methodLink "WayTable$Table" 62 (⟨"WayTable$Table", "laySteps", "(LWayTable$Graph;)V"⟩ : MethodName) ∈ T0 := T0_in (List.mem_append_right _ (List.mem_of_getElem? (i := 181) (by decide +kernel))) (by decide +kernel)
theorem mw_46 : Cond.fieldLink "WayTable$Table" 34 "WayTable$Table" "leaders" "[I" ∈ T0 := T0_in (List.mem_append_right _ (List.mem_of_getElem? (i := 60) (by decide +kernel))) (by decide +kernel)
theorem mw_47 : Cond.methodLink "java/util/Arrays" 13 (⟨"java/util/Arrays", "rangeCheck", "(III)V"⟩ : MethodName) ∈ T0 := T0_in (List.mem_append_right _ (List.mem_of_getElem? (i := 192) (by decide +kernel))) (by decide +kernel)
theorem mw_48 : Cond.methodLink "WayTable$Table" 83 (⟨"java/util/Arrays", "fill", "([IIII)V"⟩ : MethodName) ∈ T0 := T0_in (List.mem_append_right _ (List.mem_of_getElem? (i := 189) (by decide +kernel))) (by decide +kernel)
theorem mw_49 : Cond.fieldLink "WayTable$Table" 21 "WayTable$Table" "longestRow" "I" ∈ T0 := T0_in (List.mem_append_right _ (List.mem_of_getElem? (i := 54) (by decide +kernel))) (by decide +kernel)
theorem mw_50 : Cond.fieldLink "WayTable$Table" 37 "WayTable$Table" "leadersBefore" "[I" ∈ T0 := T0_in (List.mem_append_right _ (List.mem_of_getElem? (i := 61) (by decide +kernel))) (by decide +kernel)
theorem mw_51 : Cond.methodLink "WayTable$Table" 105 (⟨"WayTable$Table", "leaderAfter", "([III)I"⟩ : MethodName) ∈ T0 := T0_in (List.mem_append_right _ (List.mem_of_getElem? (i := 207) (by decide +kernel))) (by decide +kernel)
theorem mw_52 : Cond.methodLink "WayTable$Table" 101 (⟨"WayTable$Table", "goAlike", "(II)Z"⟩ : MethodName) ∈ T0 := T0_in (List.mem_append_right _ (List.mem_of_getElem? (i := 203) (by decide +kernel))) (by decide +kernel)
theorem mw_53 : Cond.methodLink "WayTable$Table" 93 (⟨"WayTable$Table", "findLeader", "(I)I"⟩ : MethodName) ∈ T0 := T0_in (List.mem_append_right _ (List.mem_of_getElem? (i := 199) (by decide +kernel))) (by decide +kernel)
theorem mw_54 : Cond.fieldLink "WayTable$Table" 46 "WayTable$Table" "rowLengths" "[I" ∈ T0 := T0_in (List.mem_append_right _ (List.mem_of_getElem? (i := 65) (by decide +kernel))) (by decide +kernel)
theorem mw_55 : Cond.methodLink "WayTable$Table" 111 (⟨"java/lang/Math", "max", "(II)I"⟩ : MethodName) ∈ T0 := T0_in (List.mem_append_right _ (List.mem_of_getElem? (i := 218) (by decide +kernel))) (by decide +kernel)
theorem mw_56 : Cond.static (⟨"java/lang/Math", "max", "(II)I"⟩ : MethodName) ∈ T0 := T0_in (List.mem_append_right _ (List.mem_of_getElem? (i := 219) (by decide +kernel))) (by decide +kernel)
theorem mw_57 : Cond.initialized "java/lang/Math" ∈ T0 := T0_in (List.mem_append_right _ (List.mem_of_getElem? (i := 7) (by decide +kernel))) (by decide +kernel)
theorem mw_58 : Cond.code (⟨"java/lang/Math", "max", "(II)I"⟩ : MethodName) prog_7_method_65_code 2 (Option.some Jvm.ClassFile.FieldType.int) ∈ T0 := T0_in (List.mem_append_right _ (List.mem_of_getElem? (i := 220) (by decide +kernel))) (by decide +kernel)
theorem mw_59 : Cond.methodLink "WayTable$Table" 116 (⟨"java/lang/Math", "min", "(II)I"⟩ : MethodName) ∈ T0 := T0_in (List.mem_append_right _ (List.mem_of_getElem? (i := 221) (by decide +kernel))) (by decide +kernel)
theorem mw_60 : Cond.static (⟨"java/lang/Math", "min", "(II)I"⟩ : MethodName) ∈ T0 := T0_in (List.mem_append_right _ (List.mem_of_getElem? (i := 222) (by decide +kernel))) (by decide +kernel)
theorem mw_61 : Cond.code (⟨"java/lang/Math", "min", "(II)I"⟩ : MethodName) prog_7_method_69_code 2 (Option.some Jvm.ClassFile.FieldType.int) ∈ T0 := T0_in (List.mem_append_right _ (List.mem_of_getElem? (i := 223) (by decide +kernel))) (by decide +kernel)
theorem mw_62 : Cond.methodLink "WayTable$Table" 108 (⟨"WayTable$Table", "pair", "(II)I"⟩ : MethodName) ∈ T0 := T0_in (List.mem_append_right _ (List.mem_of_getElem? (i := 215) (by decide +kernel))) (by decide +kernel)
theorem mw_63 : Cond.methodLink "WayTable$Table" 97 (⟨"WayTable$Table", "measure", "(II)V"⟩ : MethodName) ∈ T0 := T0_in (List.mem_append_right _ (List.mem_of_getElem? (i := 211) (by decide +kernel))) (by decide +kernel)
theorem mw_64 : Cond.methodLink "WayTable$Table" 89 (⟨"WayTable$Table", "partOnce", "(I)Z"⟩ : MethodName) ∈ T0 := T0_in (List.mem_append_right _ (List.mem_of_getElem? (i := 195) (by decide +kernel))) (by decide +kernel)
theorem mw_65 : Cond.methodLink "WayTable$Table" 66 (⟨"WayTable$Table", "partSets", "()V"⟩ : MethodName) ∈ T0 := T0_in (List.mem_append_right _ (List.mem_of_getElem? (i := 185) (by decide +kernel))) (by decide +kernel)
theorem mw_66 : Cond.fieldLink "WayTable$Table" 40 "WayTable$Table" "stateOf" "[I" ∈ T0 := T0_in (List.mem_append_right _ (List.mem_of_getElem? (i := 62) (by decide +kernel))) (by decide +kernel)
theorem mw_67 : Cond.fieldLink "WayTable$Table" 18 "WayTable$Table" "stateCount" "I" ∈ T0 := T0_in (List.mem_append_right _ (List.mem_of_getElem? (i := 52) (by decide +kernel))) (by decide +kernel)
theorem mw_68 : Cond.fieldLink "WayTable$Table" 43 "WayTable$Table" "leaderOfState" "[I" ∈ T0 := T0_in (List.mem_append_right _ (List.mem_of_getElem? (i := 64) (by decide +kernel))) (by decide +kernel)
theorem mw_69 : Cond.methodLink "WayTable$Table" 119 (⟨"WayTable$Table", "numberState", "(I)V"⟩ : MethodName) ∈ T0 := T0_in (List.mem_append_right _ (List.mem_of_getElem? (i := 228) (by decide +kernel))) (by decide +kernel)
theorem mw_70 : Cond.methodLink "WayTable$Table" 69 (⟨"WayTable$Table", "numberStates", "()V"⟩ : MethodName) ∈ T0 := T0_in (List.mem_append_right _ (List.mem_of_getElem? (i := 224) (by decide +kernel))) (by decide +kernel)
theorem nw_71 : Cond.methodLinkNest "WayTable" 62 (⟨"WayTable$Table", "build", "(LWayTable$Graph;)Z"⟩ : MethodName) "WayTable" ∈ N0 := N0_in (List.mem_append_right _ (List.mem_of_getElem? (i := 163) (by decide +kernel))) rfl
theorem mw_72 : Cond.fieldLink "WayTable" 23 "WayTable" "walk" "I" ∈ T0 := T0_in (List.mem_append_right _ (List.mem_of_getElem? (i := 93) (by decide +kernel))) (by decide +kernel)
theorem nw_73 : Cond.fieldLinkNest "WayTable" 66 "WayTable$Table" "stateCount" "I" "WayTable" ∈ N0 := N0_in (List.mem_append_right _ (List.mem_of_getElem? (i := 53) (by decide +kernel))) rfl
theorem mw_74 : Cond.fieldLink "WayTableModel" 38 "WayTableModel" "newSets" "[I" ∈ T0 := T0_in (List.mem_append_right _ (List.mem_of_getElem? (i := 359) (by decide +kernel))) (by decide +kernel)
theorem mw_75 : Cond.methodLink "WayTableModel" 69 (⟨"WayTableModel", "led", "(II)I"⟩ : MethodName) ∈ T0 := T0_in (List.mem_append_right _ (List.mem_of_getElem? (i := 332) (by decide +kernel))) (by decide +kernel)
theorem mw_76 : Cond.fieldLink "WayTableModel" 41 "WayTableModel" "newGoes" "[I" ∈ T0 := T0_in (List.mem_append_right _ (List.mem_of_getElem? (i := 360) (by decide +kernel))) (by decide +kernel)
theorem mw_77 : Cond.methodLink "WayTableModel" 79 (⟨"WayTableModel", "follow", "()I"⟩ : MethodName) ∈ T0 := T0_in (List.mem_append_right _ (List.mem_of_getElem? (i := 328) (by decide +kernel))) (by decide +kernel)
theorem mw_78 : Cond.fieldLink "WayTableModel" 73 "WayTableModel" "setMany" "I" ∈ T0 := T0_in (List.mem_append_right _ (List.mem_of_getElem? (i := 349) (by decide +kernel))) (by decide +kernel)
theorem mw_79 : Cond.fieldLink "WayTableModel" 76 "WayTableModel" "tableLetters" "I" ∈ T0 := T0_in (List.mem_append_right _ (List.mem_of_getElem? (i := 350) (by decide +kernel))) (by decide +kernel)
theorem mw_80 : Cond.fieldLink "WayTableModel" 26 "WayTableModel" "lengths" "[I" ∈ T0 := T0_in (List.mem_append_right _ (List.mem_of_getElem? (i := 353) (by decide +kernel))) (by decide +kernel)
theorem mw_81 : Cond.fieldLink "WayTableModel" 29 "WayTableModel" "firsts" "[I" ∈ T0 := T0_in (List.mem_append_right _ (List.mem_of_getElem? (i := 354) (by decide +kernel))) (by decide +kernel)
theorem mw_82 : Cond.fieldLink "WayTableModel" 23 "WayTableModel" "goes" "[I" ∈ T0 := T0_in (List.mem_append_right _ (List.mem_of_getElem? (i := 352) (by decide +kernel))) (by decide +kernel)
theorem mw_83 : Cond.methodLink "WayTableModel" 82 (⟨"WayTableModel", "tell", "(I)Z"⟩ : MethodName) ∈ T0 := T0_in (List.mem_append_right _ (List.mem_of_getElem? (i := 336) (by decide +kernel))) (by decide +kernel)
theorem mw_84 : Cond.fieldLink "WayTableModel" 32 "WayTableModel" "stateOf" "[I" ∈ T0 := T0_in (List.mem_append_right _ (List.mem_of_getElem? (i := 355) (by decide +kernel))) (by decide +kernel)
theorem mw_85 : Cond.fieldLink "WayTableModel" 35 "WayTableModel" "setOf" "[I" ∈ T0 := T0_in (List.mem_append_right _ (List.mem_of_getElem? (i := 356) (by decide +kernel))) (by decide +kernel)
theorem mw_86 : Cond.fieldLink "WayTableModel" 85 "WayTableModel" "states" "I" ∈ T0 := T0_in (List.mem_append_right _ (List.mem_of_getElem? (i := 357) (by decide +kernel))) (by decide +kernel)
theorem mw_87 : Cond.fieldLink "WayTableModel" 92 "WayTableModel" "walk" "I" ∈ T0 := T0_in (List.mem_append_right _ (List.mem_of_getElem? (i := 358) (by decide +kernel))) (by decide +kernel)
theorem mw_88 : Cond.methodLink "WayTableModel" 88 (⟨"WayTableModel", "leastLike", "(I)I"⟩ : MethodName) ∈ T0 := T0_in (List.mem_append_right _ (List.mem_of_getElem? (i := 340) (by decide +kernel))) (by decide +kernel)
theorem mw_89 : Cond.fieldLink "WayTableModel" 20 "WayTableModel" "sets" "[I" ∈ T0 := T0_in (List.mem_append_right _ (List.mem_of_getElem? (i := 351) (by decide +kernel))) (by decide +kernel)
theorem nw_90 : Cond.methodLinkNest "WayTable" 73 (⟨"WayTable$Table", "hasState", "(I)Z"⟩ : MethodName) "WayTable" ∈ N0 := N0_in (List.mem_append_right _ (List.mem_of_getElem? (i := 244) (by decide +kernel))) rfl
theorem nw_91 : Cond.methodLinkNest "WayTable" 76 (⟨"WayTable$Table", "hasLetter", "(I)Z"⟩ : MethodName) "WayTable" ∈ N0 := N0_in (List.mem_append_right _ (List.mem_of_getElem? (i := 248) (by decide +kernel))) rfl
theorem nw_92 : Cond.methodLinkNest "WayTable" 77 (⟨"WayTable$Table", "stateAfter", "(II)I"⟩ : MethodName) "WayTable" ∈ N0 := N0_in (List.mem_append_right _ (List.mem_of_getElem? (i := 252) (by decide +kernel))) rfl
theorem mw_93 : Cond.methodLink "WayTable" 69 (⟨"WayTable", "to", "(II)I"⟩ : MethodName) ∈ T0 := T0_in (List.mem_append_right _ (List.mem_of_getElem? (i := 240) (by decide +kernel))) (by decide +kernel)
theorem mw_94 : Cond.methodLink "WayTableModel" 95 (⟨"WayTableModel", "next", "(II)I"⟩ : MethodName) ∈ T0 := T0_in (List.mem_append_right _ (List.mem_of_getElem? (i := 439) (by decide +kernel))) (by decide +kernel)
theorem mw_95 : Cond.methodLink "WayTableModel" 98 (⟨"WayTableModel", "isState", "(I)Z"⟩ : MethodName) ∈ T0 := T0_in (List.mem_append_right _ (List.mem_of_getElem? (i := 447) (by decide +kernel))) (by decide +kernel)
theorem nw_96 : Cond.methodLinkNest "WayTable" 80 (⟨"WayTable$Table", "hasSet", "(I)Z"⟩ : MethodName) "WayTable" ∈ N0 := N0_in (List.mem_append_right _ (List.mem_of_getElem? (i := 261) (by decide +kernel))) rfl
theorem nw_97 : Cond.fieldLinkNest "WayTable" 83 "WayTable$Table" "sets" "[I" "WayTable" ∈ N0 := N0_in (List.mem_append_right _ (List.mem_of_getElem? (i := 57) (by decide +kernel))) rfl
theorem nw_98 : Cond.fieldLinkNest "WayTable" 87 "WayTable$Table" "stateOf" "[I" "WayTable" ∈ N0 := N0_in (List.mem_append_right _ (List.mem_of_getElem? (i := 63) (by decide +kernel))) rfl
theorem nw_99 : Cond.methodLinkNest "WayTable" 90 (⟨"WayTable$Table", "rowLength", "(II)I"⟩ : MethodName) "WayTable" ∈ N0 := N0_in (List.mem_append_right _ (List.mem_of_getElem? (i := 273) (by decide +kernel))) rfl
theorem mw_100 : Cond.methodLink "WayTable" 93 (⟨"WayTable", "apart", "(II)I"⟩ : MethodName) ∈ T0 := T0_in (List.mem_append_right _ (List.mem_of_getElem? (i := 281) (by decide +kernel))) (by decide +kernel)
theorem mw_101 : Cond.methodLink "WayTable$Table" 126 (⟨"WayTable$Table", "rowLength", "(II)I"⟩ : MethodName) ∈ T0 := T0_in (List.mem_append_right _ (List.mem_of_getElem? (i := 286) (by decide +kernel))) (by decide +kernel)
theorem mw_102 : Cond.methodLink "WayTable$Table" 133 (⟨"WayTable$Table", "lengthBehind", "(II)I"⟩ : MethodName) ∈ T0 := T0_in (List.mem_append_right _ (List.mem_of_getElem? (i := 291) (by decide +kernel))) (by decide +kernel)
theorem mw_103 : Cond.methodLink "WayTable$Table" 129 (⟨"WayTable$Table", "leastLetter", "(III)I"⟩ : MethodName) ∈ T0 := T0_in (List.mem_append_right _ (List.mem_of_getElem? (i := 287) (by decide +kernel))) (by decide +kernel)
theorem nw_104 : Cond.methodLinkNest "WayTable" 96 (⟨"WayTable$Table", "rowLetter", "(III)I"⟩ : MethodName) "WayTable" ∈ N0 := N0_in (List.mem_append_right _ (List.mem_of_getElem? (i := 282) (by decide +kernel))) rfl
theorem mw_105 : Cond.constant "java/lang/Integer" 265 1431655765 ∈ T0 := T0_in (List.mem_append_right _ (List.mem_of_getElem? (i := 310) (by decide +kernel))) (by decide +kernel)
theorem mw_106 : Cond.constant "java/lang/Integer" 266 858993459 ∈ T0 := T0_in (List.mem_append_right _ (List.mem_of_getElem? (i := 311) (by decide +kernel))) (by decide +kernel)
theorem mw_107 : Cond.constant "java/lang/Integer" 267 252645135 ∈ T0 := T0_in (List.mem_append_right _ (List.mem_of_getElem? (i := 312) (by decide +kernel))) (by decide +kernel)
theorem mw_108 : Cond.methodLink "WayTable$Graph" 50 (⟨"java/lang/Integer", "bitCount", "(I)I"⟩ : MethodName) ∈ T0 := T0_in (List.mem_append_right _ (List.mem_of_getElem? (i := 307) (by decide +kernel))) (by decide +kernel)
theorem nw_109 : Cond.methodLinkNest "WayTable" 100 (⟨"WayTable$Graph", "countWays", "()I"⟩ : MethodName) "WayTable" ∈ N0 := N0_in (List.mem_append_right _ (List.mem_of_getElem? (i := 303) (by decide +kernel))) rfl
theorem nw_110 : Cond.fieldLinkNest "WayTable" 104 "WayTable$Table" "setCount" "I" "WayTable" ∈ N0 := N0_in (List.mem_append_right _ (List.mem_of_getElem? (i := 51) (by decide +kernel))) rfl
theorem nw_111 : Cond.fieldLinkNest "WayTable" 107 "WayTable$Table" "letterCount" "I" "WayTable" ∈ N0 := N0_in (List.mem_append_right _ (List.mem_of_getElem? (i := 49) (by decide +kernel))) rfl
theorem mw_112 : Cond.methodLink "WayTable$Table" 123 (⟨"WayTable$Table", "stateAfter", "(II)I"⟩ : MethodName) ∈ T0 := T0_in (List.mem_append_right _ (List.mem_of_getElem? (i := 317) (by decide +kernel))) (by decide +kernel)
theorem nw_113 : Cond.methodLinkNest "WayTable" 108 (⟨"WayTable$Table", "countGoing", "()I"⟩ : MethodName) "WayTable" ∈ N0 := N0_in (List.mem_append_right _ (List.mem_of_getElem? (i := 313) (by decide +kernel))) rfl
theorem nw_114 : Cond.fieldLinkNest "WayTable" 111 "WayTable$Table" "longestRow" "I" "WayTable" ∈ N0 := N0_in (List.mem_append_right _ (List.mem_of_getElem? (i := 55) (by decide +kernel))) rfl
theorem mw_115 : Cond.methodLink "WayTableModel" 101 (⟨"WayTableModel", "wayMany", "()I"⟩ : MethodName) ∈ T0 := T0_in (List.mem_append_right _ (List.mem_of_getElem? (i := 471) (by decide +kernel))) (by decide +kernel)
theorem mw_116 : Cond.methodLink "WayTableModel" 104 (⟨"WayTableModel", "somewhere", "()I"⟩ : MethodName) ∈ T0 := T0_in (List.mem_append_right _ (List.mem_of_getElem? (i := 475) (by decide +kernel))) (by decide +kernel)
theorem mw_117 : Cond.methodLink "WayTableModel" 107 (⟨"WayTableModel", "longest", "()I"⟩ : MethodName) ∈ T0 := T0_in (List.mem_append_right _ (List.mem_of_getElem? (i := 479) (by decide +kernel))) (by decide +kernel)
theorem mw_118 : Cond.methodLink "WayTable$Graph" 3 (⟨"java/lang/Object", "<init>", "()V"⟩ : MethodName) ∈ T0 := T0_in (List.mem_append_right _ (List.mem_of_getElem? (i := 22) (by decide +kernel))) (by decide +kernel)
theorem mw_119 : Cond.instanceMethod (⟨"java/lang/Object", "<init>", "()V"⟩ : MethodName) ∈ T0 := T0_in (List.mem_append_right _ (List.mem_of_getElem? (i := 15) (by decide +kernel))) (by decide +kernel)
theorem mw_120 : Cond.code (⟨"java/lang/Object", "<init>", "()V"⟩ : MethodName) "object_method_1_code" 1 (Option.none : Option Jvm.ClassFile.FieldType) ∈ T0 := T0_in (List.mem_append_right _ (List.mem_of_getElem? (i := 16) (by decide +kernel))) (by decide +kernel)
theorem mw_121 : Cond.arrayClass Jvm.ClassFile.FieldType.int ∈ T0 := T0_in (List.mem_append_right _ (List.mem_of_getElem? (i := 41) (by decide +kernel))) (by decide +kernel)
theorem mw_122 : Cond.methodLink "WayTable$Table" 3 (⟨"java/lang/Object", "<init>", "()V"⟩ : MethodName) ∈ T0 := T0_in (List.mem_append_right _ (List.mem_of_getElem? (i := 47) (by decide +kernel))) (by decide +kernel)
theorem mw_123 : Cond.methodLink "WayTable" 3 (⟨"java/lang/Object", "<init>", "()V"⟩ : MethodName) ∈ T0 := T0_in (List.mem_append_right _ (List.mem_of_getElem? (i := 14) (by decide +kernel))) (by decide +kernel)
theorem mw_124 : Cond.classLink "WayTable" 9 "WayTable$Graph" ∈ T0 := T0_in (List.mem_append_right _ (List.mem_of_getElem? (i := 17) (by decide +kernel))) (by decide +kernel)
theorem mw_125 : Cond.instantiable "WayTable$Graph" 4 ∈ T0 := T0_in (List.mem_append_right _ (List.mem_of_getElem? (i := 18) (by decide +kernel))) (by decide +kernel)
theorem mw_126 : Cond.initialized "WayTable$Graph" ∈ T0 := T0_in (List.mem_append_right _ (List.mem_of_getElem? (i := 2) (by decide +kernel))) (by decide +kernel)
theorem nw_127 : Cond.methodLinkNest "WayTable" 11 (⟨"WayTable$Graph", "<init>", "()V"⟩ : MethodName) "WayTable" ∈ N0 := N0_in (List.mem_append_right _ (List.mem_of_getElem? (i := 19) (by decide +kernel))) rfl
theorem mw_128 : Cond.classLink "WayTable" 16 "WayTable$Table" ∈ T0 := T0_in (List.mem_append_right _ (List.mem_of_getElem? (i := 42) (by decide +kernel))) (by decide +kernel)
theorem mw_129 : Cond.instantiable "WayTable$Table" 12 ∈ T0 := T0_in (List.mem_append_right _ (List.mem_of_getElem? (i := 43) (by decide +kernel))) (by decide +kernel)
theorem mw_130 : Cond.initialized "WayTable$Table" ∈ T0 := T0_in (List.mem_append_right _ (List.mem_of_getElem? (i := 3) (by decide +kernel))) (by decide +kernel)
theorem nw_131 : Cond.methodLinkNest "WayTable" 18 (⟨"WayTable$Table", "<init>", "()V"⟩ : MethodName) "WayTable" ∈ N0 := N0_in (List.mem_append_right _ (List.mem_of_getElem? (i := 44) (by decide +kernel))) rfl
theorem mw_132 : Cond.methodLink "WayTableModel" 1 (⟨"java/lang/Object", "<init>", "()V"⟩ : MethodName) ∈ T0 := T0_in (List.mem_append_right _ (List.mem_of_getElem? (i := 323) (by decide +kernel))) (by decide +kernel)
theorem mw_133 : Cond.methodLink "WayTableModel" 44 (⟨"WayTableModel", "make", "()I"⟩ : MethodName) ∈ T0 := T0_in (List.mem_append_right _ (List.mem_of_getElem? (i := 324) (by decide +kernel))) (by decide +kernel)
theorem mw_134 : Cond.methodLink "WayTableLaw" 13 (⟨"WayTable", "begin", "(II)Z"⟩ : MethodName) ∈ T0 := T0_in (List.mem_append_right _ (List.mem_of_getElem? (i := 101) (by decide +kernel))) (by decide +kernel)
theorem mw_135 : Cond.methodLink "WayTableLaw" 17 (⟨"WayTableModel", "begin", "(II)Z"⟩ : MethodName) ∈ T0 := T0_in (List.mem_append_right _ (List.mem_of_getElem? (i := 396) (by decide +kernel))) (by decide +kernel)
theorem mw_136 : Cond.methodLink "WayTableLaw" 18 (⟨"WayTable", "way", "(IIIZ)Z"⟩ : MethodName) ∈ T0 := T0_in (List.mem_append_right _ (List.mem_of_getElem? (i := 112) (by decide +kernel))) (by decide +kernel)
theorem mw_137 : Cond.methodLink "WayTableLaw" 22 (⟨"WayTableModel", "way", "(IIIZ)Z"⟩ : MethodName) ∈ T0 := T0_in (List.mem_append_right _ (List.mem_of_getElem? (i := 400) (by decide +kernel))) (by decide +kernel)
theorem mw_138 : Cond.methodLink "WayTableLaw" 23 (⟨"WayTable", "fill", "(II)I"⟩ : MethodName) ∈ T0 := T0_in (List.mem_append_right _ (List.mem_of_getElem? (i := 139) (by decide +kernel))) (by decide +kernel)
theorem mw_139 : Cond.methodLink "WayTableLaw" 27 (⟨"WayTableModel", "fill", "(II)I"⟩ : MethodName) ∈ T0 := T0_in (List.mem_append_right _ (List.mem_of_getElem? (i := 416) (by decide +kernel))) (by decide +kernel)
theorem mw_140 : Cond.methodLink "WayTableLaw" 28 (⟨"WayTable", "turn", "()V"⟩ : MethodName) ∈ T0 := T0_in (List.mem_append_right _ (List.mem_of_getElem? (i := 145) (by decide +kernel))) (by decide +kernel)
theorem mw_141 : Cond.methodLink "WayTableLaw" 31 (⟨"WayTableModel", "turn", "()V"⟩ : MethodName) ∈ T0 := T0_in (List.mem_append_right _ (List.mem_of_getElem? (i := 421) (by decide +kernel))) (by decide +kernel)
theorem mw_142 : Cond.methodLink "WayTableLaw" 32 (⟨"WayTable", "start", "(I)Z"⟩ : MethodName) ∈ T0 := T0_in (List.mem_append_right _ (List.mem_of_getElem? (i := 155) (by decide +kernel))) (by decide +kernel)
theorem mw_143 : Cond.methodLink "WayTableLaw" 36 (⟨"WayTableModel", "start", "(I)Z"⟩ : MethodName) ∈ T0 := T0_in (List.mem_append_right _ (List.mem_of_getElem? (i := 425) (by decide +kernel))) (by decide +kernel)
theorem mw_144 : Cond.methodLink "WayTableLaw" 37 (⟨"WayTable", "make", "()I"⟩ : MethodName) ∈ T0 := T0_in (List.mem_append_right _ (List.mem_of_getElem? (i := 159) (by decide +kernel))) (by decide +kernel)
theorem mw_145 : Cond.methodLink "WayTableLaw" 41 (⟨"WayTableModel", "make", "()I"⟩ : MethodName) ∈ T0 := T0_in (List.mem_append_right _ (List.mem_of_getElem? (i := 430) (by decide +kernel))) (by decide +kernel)
theorem mw_146 : Cond.methodLink "WayTableLaw" 42 (⟨"WayTable", "home", "()V"⟩ : MethodName) ∈ T0 := T0_in (List.mem_append_right _ (List.mem_of_getElem? (i := 232) (by decide +kernel))) (by decide +kernel)
theorem mw_147 : Cond.methodLink "WayTableLaw" 45 (⟨"WayTableModel", "home", "()V"⟩ : MethodName) ∈ T0 := T0_in (List.mem_append_right _ (List.mem_of_getElem? (i := 431) (by decide +kernel))) (by decide +kernel)
theorem mw_148 : Cond.methodLink "WayTableLaw" 46 (⟨"WayTable", "go", "(I)I"⟩ : MethodName) ∈ T0 := T0_in (List.mem_append_right _ (List.mem_of_getElem? (i := 236) (by decide +kernel))) (by decide +kernel)
theorem mw_149 : Cond.methodLink "WayTableLaw" 50 (⟨"WayTableModel", "go", "(I)I"⟩ : MethodName) ∈ T0 := T0_in (List.mem_append_right _ (List.mem_of_getElem? (i := 435) (by decide +kernel))) (by decide +kernel)
theorem mw_150 : Cond.methodLink "WayTableLaw" 51 (⟨"WayTable", "to", "(II)I"⟩ : MethodName) ∈ T0 := T0_in (List.mem_append_right _ (List.mem_of_getElem? (i := 256) (by decide +kernel))) (by decide +kernel)
theorem mw_151 : Cond.methodLink "WayTableLaw" 54 (⟨"WayTableModel", "to", "(II)I"⟩ : MethodName) ∈ T0 := T0_in (List.mem_append_right _ (List.mem_of_getElem? (i := 443) (by decide +kernel))) (by decide +kernel)
theorem mw_152 : Cond.methodLink "WayTableLaw" 55 (⟨"WayTable", "nodes", "(I)I"⟩ : MethodName) ∈ T0 := T0_in (List.mem_append_right _ (List.mem_of_getElem? (i := 257) (by decide +kernel))) (by decide +kernel)
theorem mw_153 : Cond.methodLink "WayTableLaw" 58 (⟨"WayTableModel", "nodes", "(I)I"⟩ : MethodName) ∈ T0 := T0_in (List.mem_append_right _ (List.mem_of_getElem? (i := 451) (by decide +kernel))) (by decide +kernel)
theorem mw_154 : Cond.methodLink "WayTableLaw" 59 (⟨"WayTable", "state", "(I)I"⟩ : MethodName) ∈ T0 := T0_in (List.mem_append_right _ (List.mem_of_getElem? (i := 265) (by decide +kernel))) (by decide +kernel)
theorem mw_155 : Cond.methodLink "WayTableLaw" 62 (⟨"WayTableModel", "state", "(I)I"⟩ : MethodName) ∈ T0 := T0_in (List.mem_append_right _ (List.mem_of_getElem? (i := 455) (by decide +kernel))) (by decide +kernel)
theorem mw_156 : Cond.methodLink "WayTableLaw" 63 (⟨"WayTable", "apart", "(II)I"⟩ : MethodName) ∈ T0 := T0_in (List.mem_append_right _ (List.mem_of_getElem? (i := 269) (by decide +kernel))) (by decide +kernel)
theorem mw_157 : Cond.methodLink "WayTableLaw" 66 (⟨"WayTableModel", "apart", "(II)I"⟩ : MethodName) ∈ T0 := T0_in (List.mem_append_right _ (List.mem_of_getElem? (i := 459) (by decide +kernel))) (by decide +kernel)
theorem mw_158 : Cond.methodLink "WayTableLaw" 67 (⟨"WayTable", "apartBy", "(III)I"⟩ : MethodName) ∈ T0 := T0_in (List.mem_append_right _ (List.mem_of_getElem? (i := 277) (by decide +kernel))) (by decide +kernel)
theorem mw_159 : Cond.methodLink "WayTableLaw" 71 (⟨"WayTableModel", "apartBy", "(III)I"⟩ : MethodName) ∈ T0 := T0_in (List.mem_append_right _ (List.mem_of_getElem? (i := 463) (by decide +kernel))) (by decide +kernel)
theorem mw_160 : Cond.methodLink "WayTableLaw" 72 (⟨"WayTable", "is", "(III)Z"⟩ : MethodName) ∈ T0 := T0_in (List.mem_append_right _ (List.mem_of_getElem? (i := 295) (by decide +kernel))) (by decide +kernel)
theorem mw_161 : Cond.methodLink "WayTableLaw" 76 (⟨"WayTableModel", "is", "(III)Z"⟩ : MethodName) ∈ T0 := T0_in (List.mem_append_right _ (List.mem_of_getElem? (i := 429) (by decide +kernel))) (by decide +kernel)
theorem mw_162 : Cond.methodLink "WayTableLaw" 77 (⟨"WayTable", "look", "(I)I"⟩ : MethodName) ∈ T0 := T0_in (List.mem_append_right _ (List.mem_of_getElem? (i := 299) (by decide +kernel))) (by decide +kernel)
theorem mw_163 : Cond.methodLink "WayTableLaw" 80 (⟨"WayTableModel", "look", "(I)I"⟩ : MethodName) ∈ T0 := T0_in (List.mem_append_right _ (List.mem_of_getElem? (i := 467) (by decide +kernel))) (by decide +kernel)
theorem mw_164 : Cond.instantiable "WayTable" 3 ∈ T0 := T0_in (List.mem_append_right _ (List.mem_of_getElem? (i := 10) (by decide +kernel))) (by decide +kernel)
theorem mw_165 : Cond.instantiable "WayTableModel" 17 ∈ T0 := T0_in (List.mem_append_right _ (List.mem_of_getElem? (i := 319) (by decide +kernel))) (by decide +kernel)
theorem mw_166 : Cond.classLink "WayTableLaw" 7 "WayTable" ∈ T0 := T0_in (List.mem_append_right _ (List.mem_of_getElem? (i := 9) (by decide +kernel))) (by decide +kernel)
theorem mw_167 : Cond.initialized "WayTable" ∈ T0 := T0_in (List.mem_append_right _ (List.mem_of_getElem? (i := 1) (by decide +kernel))) (by decide +kernel)
theorem mw_168 : Cond.methodLink "WayTableLaw" 9 (⟨"WayTable", "<init>", "()V"⟩ : MethodName) ∈ T0 := T0_in (List.mem_append_right _ (List.mem_of_getElem? (i := 11) (by decide +kernel))) (by decide +kernel)
theorem mw_169 : Cond.classLink "WayTableLaw" 10 "WayTableModel" ∈ T0 := T0_in (List.mem_append_right _ (List.mem_of_getElem? (i := 318) (by decide +kernel))) (by decide +kernel)
theorem mw_170 : Cond.initialized "WayTableModel" ∈ T0 := T0_in (List.mem_append_right _ (List.mem_of_getElem? (i := 4) (by decide +kernel))) (by decide +kernel)
theorem mw_171 : Cond.methodLink "WayTableLaw" 12 (⟨"WayTableModel", "<init>", "()V"⟩ : MethodName) ∈ T0 := T0_in (List.mem_append_right _ (List.mem_of_getElem? (i := 320) (by decide +kernel))) (by decide +kernel)
theorem mw_172 : Cond.code (⟨"java/util/Arrays", "fill", "([II)V"⟩ : MethodName) prog_9_method_103_code 4 (Option.none : Option Jvm.ClassFile.FieldType) ∈ T0 := T0_in (List.mem_append_right _ (List.mem_of_getElem? (i := 111) (by decide +kernel))) (by decide +kernel)
theorem mw_173 : Cond.initialized "java/util/Arrays" ∈ T0 := T0_in (List.mem_append_right _ (List.mem_of_getElem? (i := 5) (by decide +kernel))) (by decide +kernel)
theorem mw_174 : Cond.static (⟨"java/util/Arrays", "fill", "([II)V"⟩ : MethodName) ∈ T0 := T0_in (List.mem_append_right _ (List.mem_of_getElem? (i := 110) (by decide +kernel))) (by decide +kernel)
theorem mw_175 : Cond.code (⟨"WayTable$Graph", "clear", "(II)V"⟩ : MethodName) prog_2_method_3_code 3 (Option.none : Option Jvm.ClassFile.FieldType) ∈ T0 := T0_in (List.mem_append_right _ (List.mem_of_getElem? (i := 108) (by decide +kernel))) (by decide +kernel)
theorem mw_176 : Cond.instanceMethod (⟨"WayTable$Graph", "clear", "(II)V"⟩ : MethodName) ∈ T0 := T0_in (List.mem_append_right _ (List.mem_of_getElem? (i := 107) (by decide +kernel))) (by decide +kernel)
theorem mw_177 : Cond.selects "WayTable$Graph" (⟨"WayTable$Graph", "clear", "(II)V"⟩ : MethodName) (⟨"WayTable$Graph", "clear", "(II)V"⟩ : MethodName) ∈ T0 := T0_in (by decide +kernel) (by decide +kernel)
theorem mw_178 : Cond.code (⟨"WayTable", "begin", "(II)Z"⟩ : MethodName) prog_1_method_2_code 3 (Option.some Jvm.ClassFile.FieldType.boolean) ∈ T0 := T0_in (List.mem_append_right _ (List.mem_of_getElem? (i := 104) (by decide +kernel))) (by decide +kernel)
theorem mw_179 : Cond.instanceMethod (⟨"WayTable", "begin", "(II)Z"⟩ : MethodName) ∈ T0 := T0_in (List.mem_append_right _ (List.mem_of_getElem? (i := 102) (by decide +kernel))) (by decide +kernel)
theorem mw_180 : Cond.selects "WayTable" (⟨"WayTable", "begin", "(II)Z"⟩ : MethodName) (⟨"WayTable", "begin", "(II)Z"⟩ : MethodName) ∈ T0 := T0_in (List.mem_append_right _ (List.mem_of_getElem? (i := 103) (by decide +kernel))) (by decide +kernel)
theorem mw_181 : Cond.code (⟨"WayTableModel", "begin", "(II)Z"⟩ : MethodName) prog_5_method_5_code 4 (Option.some Jvm.ClassFile.FieldType.boolean) ∈ T0 := T0_in (List.mem_append_right _ (List.mem_of_getElem? (i := 399) (by decide +kernel))) (by decide +kernel)
theorem mw_182 : Cond.instanceMethod (⟨"WayTableModel", "begin", "(II)Z"⟩ : MethodName) ∈ T0 := T0_in (List.mem_append_right _ (List.mem_of_getElem? (i := 397) (by decide +kernel))) (by decide +kernel)
theorem mw_183 : Cond.selects "WayTableModel" (⟨"WayTableModel", "begin", "(II)Z"⟩ : MethodName) (⟨"WayTableModel", "begin", "(II)Z"⟩ : MethodName) ∈ T0 := T0_in (List.mem_append_right _ (List.mem_of_getElem? (i := 398) (by decide +kernel))) (by decide +kernel)
theorem mw_184 : Cond.code (⟨"WayTable$Graph", "hasNode", "(I)Z"⟩ : MethodName) prog_2_method_4_code 2 (Option.some Jvm.ClassFile.FieldType.boolean) ∈ T0 := T0_in (List.mem_append_right _ (List.mem_of_getElem? (i := 123) (by decide +kernel))) (by decide +kernel)
theorem mw_185 : Cond.instanceMethod (⟨"WayTable$Graph", "hasNode", "(I)Z"⟩ : MethodName) ∈ T0 := T0_in (List.mem_append_right _ (List.mem_of_getElem? (i := 122) (by decide +kernel))) (by decide +kernel)
theorem mw_186 : Cond.selects "WayTable$Graph" (⟨"WayTable$Graph", "hasNode", "(I)Z"⟩ : MethodName) (⟨"WayTable$Graph", "hasNode", "(I)Z"⟩ : MethodName) ∈ T0 := T0_in (by decide +kernel) (by decide +kernel)
theorem mw_187 : Cond.code (⟨"WayTable$Graph", "hasLetter", "(I)Z"⟩ : MethodName) prog_2_method_5_code 2 (Option.some Jvm.ClassFile.FieldType.boolean) ∈ T0 := T0_in (List.mem_append_right _ (List.mem_of_getElem? (i := 127) (by decide +kernel))) (by decide +kernel)
theorem mw_188 : Cond.instanceMethod (⟨"WayTable$Graph", "hasLetter", "(I)Z"⟩ : MethodName) ∈ T0 := T0_in (List.mem_append_right _ (List.mem_of_getElem? (i := 126) (by decide +kernel))) (by decide +kernel)
theorem mw_189 : Cond.selects "WayTable$Graph" (⟨"WayTable$Graph", "hasLetter", "(I)Z"⟩ : MethodName) (⟨"WayTable$Graph", "hasLetter", "(I)Z"⟩ : MethodName) ∈ T0 := T0_in (by decide +kernel) (by decide +kernel)
theorem mw_190 : Cond.code (⟨"WayTable$Graph", "canHold", "(III)Z"⟩ : MethodName) prog_2_method_6_code 4 (Option.some Jvm.ClassFile.FieldType.boolean) ∈ T0 := T0_in (List.mem_append_right _ (List.mem_of_getElem? (i := 119) (by decide +kernel))) (by decide +kernel)
theorem mw_191 : Cond.instanceMethod (⟨"WayTable$Graph", "canHold", "(III)Z"⟩ : MethodName) ∈ T0 := T0_in (List.mem_append_right _ (List.mem_of_getElem? (i := 118) (by decide +kernel))) (by decide +kernel)
theorem mw_192 : Cond.selects "WayTable$Graph" (⟨"WayTable$Graph", "canHold", "(III)Z"⟩ : MethodName) (⟨"WayTable$Graph", "canHold", "(III)Z"⟩ : MethodName) ∈ T0 := T0_in (by decide +kernel) (by decide +kernel)
theorem mw_193 : Cond.code (⟨"WayTable$Graph", "place", "(II)I"⟩ : MethodName) prog_2_method_2_code 2 (Option.some Jvm.ClassFile.FieldType.int) ∈ T0 := T0_in (List.mem_append_right _ (List.mem_of_getElem? (i := 134) (by decide +kernel))) (by decide +kernel)
theorem mw_194 : Cond.static (⟨"WayTable$Graph", "place", "(II)I"⟩ : MethodName) ∈ T0 := T0_in (List.mem_append_right _ (List.mem_of_getElem? (i := 133) (by decide +kernel))) (by decide +kernel)
theorem mw_195 : Cond.code (⟨"WayTable$Graph", "holds", "(III)Z"⟩ : MethodName) prog_2_method_7_code 4 (Option.some Jvm.ClassFile.FieldType.boolean) ∈ T0 := T0_in (List.mem_append_right _ (List.mem_of_getElem? (i := 131) (by decide +kernel))) (by decide +kernel)
theorem mw_196 : Cond.instanceMethod (⟨"WayTable$Graph", "holds", "(III)Z"⟩ : MethodName) ∈ T0 := T0_in (List.mem_append_right _ (List.mem_of_getElem? (i := 130) (by decide +kernel))) (by decide +kernel)
theorem mw_197 : Cond.selects "WayTable$Graph" (⟨"WayTable$Graph", "holds", "(III)Z"⟩ : MethodName) (⟨"WayTable$Graph", "holds", "(III)Z"⟩ : MethodName) ∈ T0 := T0_in (by decide +kernel) (by decide +kernel)
theorem mw_198 : Cond.code (⟨"WayTable$Graph", "flip", "(III)V"⟩ : MethodName) prog_2_method_8_code 4 (Option.none : Option Jvm.ClassFile.FieldType) ∈ T0 := T0_in (List.mem_append_right _ (List.mem_of_getElem? (i := 138) (by decide +kernel))) (by decide +kernel)
theorem mw_199 : Cond.instanceMethod (⟨"WayTable$Graph", "flip", "(III)V"⟩ : MethodName) ∈ T0 := T0_in (List.mem_append_right _ (List.mem_of_getElem? (i := 137) (by decide +kernel))) (by decide +kernel)
theorem mw_200 : Cond.selects "WayTable$Graph" (⟨"WayTable$Graph", "flip", "(III)V"⟩ : MethodName) (⟨"WayTable$Graph", "flip", "(III)V"⟩ : MethodName) ∈ T0 := T0_in (by decide +kernel) (by decide +kernel)
theorem mw_201 : Cond.code (⟨"WayTable", "way", "(IIIZ)Z"⟩ : MethodName) prog_1_method_3_code 5 (Option.some Jvm.ClassFile.FieldType.boolean) ∈ T0 := T0_in (List.mem_append_right _ (List.mem_of_getElem? (i := 115) (by decide +kernel))) (by decide +kernel)
theorem mw_202 : Cond.instanceMethod (⟨"WayTable", "way", "(IIIZ)Z"⟩ : MethodName) ∈ T0 := T0_in (List.mem_append_right _ (List.mem_of_getElem? (i := 113) (by decide +kernel))) (by decide +kernel)
theorem mw_203 : Cond.selects "WayTable" (⟨"WayTable", "way", "(IIIZ)Z"⟩ : MethodName) (⟨"WayTable", "way", "(IIIZ)Z"⟩ : MethodName) ∈ T0 := T0_in (List.mem_append_right _ (List.mem_of_getElem? (i := 114) (by decide +kernel))) (by decide +kernel)
theorem mw_204 : Cond.code (⟨"WayTableModel", "isNode", "(I)Z"⟩ : MethodName) prog_5_method_3_code 2 (Option.some Jvm.ClassFile.FieldType.boolean) ∈ T0 := T0_in (List.mem_append_right _ (List.mem_of_getElem? (i := 407) (by decide +kernel))) (by decide +kernel)
theorem mw_205 : Cond.instanceMethod (⟨"WayTableModel", "isNode", "(I)Z"⟩ : MethodName) ∈ T0 := T0_in (List.mem_append_right _ (List.mem_of_getElem? (i := 406) (by decide +kernel))) (by decide +kernel)
theorem mw_206 : Cond.selects "WayTableModel" (⟨"WayTableModel", "isNode", "(I)Z"⟩ : MethodName) (⟨"WayTableModel", "isNode", "(I)Z"⟩ : MethodName) ∈ T0 := T0_in (by decide +kernel) (by decide +kernel)
theorem mw_207 : Cond.code (⟨"WayTableModel", "isLetter", "(I)Z"⟩ : MethodName) prog_5_method_4_code 2 (Option.some Jvm.ClassFile.FieldType.boolean) ∈ T0 := T0_in (List.mem_append_right _ (List.mem_of_getElem? (i := 411) (by decide +kernel))) (by decide +kernel)
theorem mw_208 : Cond.instanceMethod (⟨"WayTableModel", "isLetter", "(I)Z"⟩ : MethodName) ∈ T0 := T0_in (List.mem_append_right _ (List.mem_of_getElem? (i := 410) (by decide +kernel))) (by decide +kernel)
theorem mw_209 : Cond.selects "WayTableModel" (⟨"WayTableModel", "isLetter", "(I)Z"⟩ : MethodName) (⟨"WayTableModel", "isLetter", "(I)Z"⟩ : MethodName) ∈ T0 := T0_in (by decide +kernel) (by decide +kernel)
theorem mw_210 : Cond.code (⟨"WayTableModel", "is", "(III)Z"⟩ : MethodName) prog_5_method_10_code 4 (Option.some Jvm.ClassFile.FieldType.boolean) ∈ T0 := T0_in (List.mem_append_right _ (List.mem_of_getElem? (i := 415) (by decide +kernel))) (by decide +kernel)
theorem mw_211 : Cond.instanceMethod (⟨"WayTableModel", "is", "(III)Z"⟩ : MethodName) ∈ T0 := T0_in (List.mem_append_right _ (List.mem_of_getElem? (i := 413) (by decide +kernel))) (by decide +kernel)
theorem mw_212 : Cond.selects "WayTableModel" (⟨"WayTableModel", "is", "(III)Z"⟩ : MethodName) (⟨"WayTableModel", "is", "(III)Z"⟩ : MethodName) ∈ T0 := T0_in (List.mem_append_right _ (List.mem_of_getElem? (i := 414) (by decide +kernel))) (by decide +kernel)
theorem mw_213 : Cond.code (⟨"WayTableModel", "way", "(IIIZ)Z"⟩ : MethodName) prog_5_method_6_code 5 (Option.some Jvm.ClassFile.FieldType.boolean) ∈ T0 := T0_in (List.mem_append_right _ (List.mem_of_getElem? (i := 403) (by decide +kernel))) (by decide +kernel)
theorem mw_214 : Cond.instanceMethod (⟨"WayTableModel", "way", "(IIIZ)Z"⟩ : MethodName) ∈ T0 := T0_in (List.mem_append_right _ (List.mem_of_getElem? (i := 401) (by decide +kernel))) (by decide +kernel)
theorem mw_215 : Cond.selects "WayTableModel" (⟨"WayTableModel", "way", "(IIIZ)Z"⟩ : MethodName) (⟨"WayTableModel", "way", "(IIIZ)Z"⟩ : MethodName) ∈ T0 := T0_in (List.mem_append_right _ (List.mem_of_getElem? (i := 402) (by decide +kernel))) (by decide +kernel)
theorem mw_216 : Cond.code (⟨"WayTable", "fill", "(II)I"⟩ : MethodName) prog_1_method_4_code 5 (Option.some Jvm.ClassFile.FieldType.int) ∈ T0 := T0_in (List.mem_append_right _ (List.mem_of_getElem? (i := 142) (by decide +kernel))) (by decide +kernel)
theorem mw_217 : Cond.instanceMethod (⟨"WayTable", "fill", "(II)I"⟩ : MethodName) ∈ T0 := T0_in (List.mem_append_right _ (List.mem_of_getElem? (i := 140) (by decide +kernel))) (by decide +kernel)
theorem mw_218 : Cond.selects "WayTable" (⟨"WayTable", "fill", "(II)I"⟩ : MethodName) (⟨"WayTable", "fill", "(II)I"⟩ : MethodName) ∈ T0 := T0_in (List.mem_append_right _ (List.mem_of_getElem? (i := 141) (by decide +kernel))) (by decide +kernel)
theorem mw_219 : Cond.code (⟨"WayTableModel", "fill", "(II)I"⟩ : MethodName) prog_5_method_7_code 5 (Option.some Jvm.ClassFile.FieldType.int) ∈ T0 := T0_in (List.mem_append_right _ (List.mem_of_getElem? (i := 419) (by decide +kernel))) (by decide +kernel)
theorem mw_220 : Cond.instanceMethod (⟨"WayTableModel", "fill", "(II)I"⟩ : MethodName) ∈ T0 := T0_in (List.mem_append_right _ (List.mem_of_getElem? (i := 417) (by decide +kernel))) (by decide +kernel)
theorem mw_221 : Cond.selects "WayTableModel" (⟨"WayTableModel", "fill", "(II)I"⟩ : MethodName) (⟨"WayTableModel", "fill", "(II)I"⟩ : MethodName) ∈ T0 := T0_in (List.mem_append_right _ (List.mem_of_getElem? (i := 418) (by decide +kernel))) (by decide +kernel)
theorem mw_222 : Cond.code (⟨"WayTable$Graph", "transpose", "(I)V"⟩ : MethodName) prog_2_method_9_code 4 (Option.none : Option Jvm.ClassFile.FieldType) ∈ T0 := T0_in (List.mem_append_right _ (List.mem_of_getElem? (i := 152) (by decide +kernel))) (by decide +kernel)
theorem mw_223 : Cond.instanceMethod (⟨"WayTable$Graph", "transpose", "(I)V"⟩ : MethodName) ∈ T0 := T0_in (List.mem_append_right _ (List.mem_of_getElem? (i := 151) (by decide +kernel))) (by decide +kernel)
theorem mw_224 : Cond.selects "WayTable$Graph" (⟨"WayTable$Graph", "transpose", "(I)V"⟩ : MethodName) (⟨"WayTable$Graph", "transpose", "(I)V"⟩ : MethodName) ∈ T0 := T0_in (by decide +kernel) (by decide +kernel)
theorem mw_225 : Cond.code (⟨"WayTable", "turn", "()V"⟩ : MethodName) prog_1_method_5_code 2 (Option.none : Option Jvm.ClassFile.FieldType) ∈ T0 := T0_in (List.mem_append_right _ (List.mem_of_getElem? (i := 148) (by decide +kernel))) (by decide +kernel)
theorem mw_226 : Cond.instanceMethod (⟨"WayTable", "turn", "()V"⟩ : MethodName) ∈ T0 := T0_in (List.mem_append_right _ (List.mem_of_getElem? (i := 146) (by decide +kernel))) (by decide +kernel)
theorem mw_227 : Cond.selects "WayTable" (⟨"WayTable", "turn", "()V"⟩ : MethodName) (⟨"WayTable", "turn", "()V"⟩ : MethodName) ∈ T0 := T0_in (List.mem_append_right _ (List.mem_of_getElem? (i := 147) (by decide +kernel))) (by decide +kernel)
theorem mw_228 : Cond.code (⟨"WayTableModel", "turn", "()V"⟩ : MethodName) prog_5_method_8_code 6 (Option.none : Option Jvm.ClassFile.FieldType) ∈ T0 := T0_in (List.mem_append_right _ (List.mem_of_getElem? (i := 424) (by decide +kernel))) (by decide +kernel)
theorem mw_229 : Cond.instanceMethod (⟨"WayTableModel", "turn", "()V"⟩ : MethodName) ∈ T0 := T0_in (List.mem_append_right _ (List.mem_of_getElem? (i := 422) (by decide +kernel))) (by decide +kernel)
theorem mw_230 : Cond.selects "WayTableModel" (⟨"WayTableModel", "turn", "()V"⟩ : MethodName) (⟨"WayTableModel", "turn", "()V"⟩ : MethodName) ∈ T0 := T0_in (List.mem_append_right _ (List.mem_of_getElem? (i := 423) (by decide +kernel))) (by decide +kernel)
theorem mw_231 : Cond.code (⟨"WayTable", "start", "(I)Z"⟩ : MethodName) prog_1_method_6_code 2 (Option.some Jvm.ClassFile.FieldType.boolean) ∈ T0 := T0_in (List.mem_append_right _ (List.mem_of_getElem? (i := 158) (by decide +kernel))) (by decide +kernel)
theorem mw_232 : Cond.instanceMethod (⟨"WayTable", "start", "(I)Z"⟩ : MethodName) ∈ T0 := T0_in (List.mem_append_right _ (List.mem_of_getElem? (i := 156) (by decide +kernel))) (by decide +kernel)
theorem mw_233 : Cond.selects "WayTable" (⟨"WayTable", "start", "(I)Z"⟩ : MethodName) (⟨"WayTable", "start", "(I)Z"⟩ : MethodName) ∈ T0 := T0_in (List.mem_append_right _ (List.mem_of_getElem? (i := 157) (by decide +kernel))) (by decide +kernel)
theorem mw_234 : Cond.code (⟨"WayTableModel", "start", "(I)Z"⟩ : MethodName) prog_5_method_9_code 2 (Option.some Jvm.ClassFile.FieldType.boolean) ∈ T0 := T0_in (List.mem_append_right _ (List.mem_of_getElem? (i := 428) (by decide +kernel))) (by decide +kernel)
theorem mw_235 : Cond.instanceMethod (⟨"WayTableModel", "start", "(I)Z"⟩ : MethodName) ∈ T0 := T0_in (List.mem_append_right _ (List.mem_of_getElem? (i := 426) (by decide +kernel))) (by decide +kernel)
theorem mw_236 : Cond.selects "WayTableModel" (⟨"WayTableModel", "start", "(I)Z"⟩ : MethodName) (⟨"WayTableModel", "start", "(I)Z"⟩ : MethodName) ∈ T0 := T0_in (List.mem_append_right _ (List.mem_of_getElem? (i := 427) (by decide +kernel))) (by decide +kernel)
theorem mw_237 : Cond.code (⟨"WayTable$Graph", "reach", "(II)I"⟩ : MethodName) prog_2_method_11_code 5 (Option.some Jvm.ClassFile.FieldType.int) ∈ T0 := T0_in (List.mem_append_right _ (List.mem_of_getElem? (i := 174) (by decide +kernel))) (by decide +kernel)
theorem mw_238 : Cond.instanceMethod (⟨"WayTable$Graph", "reach", "(II)I"⟩ : MethodName) ∈ T0 := T0_in (List.mem_append_right _ (List.mem_of_getElem? (i := 173) (by decide +kernel))) (by decide +kernel)
theorem mw_239 : Cond.selects "WayTable$Graph" (⟨"WayTable$Graph", "reach", "(II)I"⟩ : MethodName) (⟨"WayTable$Graph", "reach", "(II)I"⟩ : MethodName) ∈ T0 := T0_in (by decide +kernel) (by decide +kernel)
theorem mw_240 : Cond.code (⟨"WayTable$Table", "indexOf", "([III)I"⟩ : MethodName) prog_3_method_7_code 4 (Option.some Jvm.ClassFile.FieldType.int) ∈ T0 := T0_in (List.mem_append_right _ (List.mem_of_getElem? (i := 177) (by decide +kernel))) (by decide +kernel)
theorem mw_241 : Cond.static (⟨"WayTable$Table", "indexOf", "([III)I"⟩ : MethodName) ∈ T0 := T0_in (List.mem_append_right _ (List.mem_of_getElem? (i := 176) (by decide +kernel))) (by decide +kernel)
theorem mw_242 : Cond.code (⟨"WayTable$Table", "findSets", "(LWayTable$Graph;)I"⟩ : MethodName) prog_3_method_6_code 6 (Option.some Jvm.ClassFile.FieldType.int) ∈ T0 := T0_in (List.mem_append_right _ (List.mem_of_getElem? (i := 170) (by decide +kernel))) (by decide +kernel)
theorem mw_243 : Cond.instanceMethod (⟨"WayTable$Table", "findSets", "(LWayTable$Graph;)I"⟩ : MethodName) ∈ T0 := T0_in (List.mem_append_right _ (List.mem_of_getElem? (i := 169) (by decide +kernel))) (by decide +kernel)
theorem mw_244 : Cond.selects "WayTable$Table" (⟨"WayTable$Table", "findSets", "(LWayTable$Graph;)I"⟩ : MethodName) (⟨"WayTable$Table", "findSets", "(LWayTable$Graph;)I"⟩ : MethodName) ∈ T0 := T0_in (by decide +kernel) (by decide +kernel)
theorem mw_245 : Cond.code (⟨"WayTable$Table", "laySteps", "(LWayTable$Graph;)V"⟩ : MethodName) prog_3_method_8_code 5 (Option.none : Option Jvm.ClassFile.FieldType) ∈ T0 := T0_in (List.mem_append_right _ (List.mem_of_getElem? (i := 184) (by decide +kernel))) (by decide +kernel)
theorem mw_246 : Cond.instanceMethod (⟨"WayTable$Table", "laySteps", "(LWayTable$Graph;)V"⟩ : MethodName) ∈ T0 := T0_in (List.mem_append_right _ (List.mem_of_getElem? (i := 183) (by decide +kernel))) (by decide +kernel)
theorem mw_247 : Cond.selects "WayTable$Table" (⟨"WayTable$Table", "laySteps", "(LWayTable$Graph;)V"⟩ : MethodName) (⟨"WayTable$Table", "laySteps", "(LWayTable$Graph;)V"⟩ : MethodName) ∈ T0 := T0_in (by decide +kernel) (by decide +kernel)
theorem mw_248 : Cond.code (⟨"java/util/Arrays", "rangeCheck", "(III)V"⟩ : MethodName) prog_9_method_30_code 3 (Option.none : Option Jvm.ClassFile.FieldType) ∈ T0 := T0_in (List.mem_append_right _ (List.mem_of_getElem? (i := 194) (by decide +kernel))) (by decide +kernel)
theorem mw_249 : Cond.static (⟨"java/util/Arrays", "rangeCheck", "(III)V"⟩ : MethodName) ∈ T0 := T0_in (List.mem_append_right _ (List.mem_of_getElem? (i := 193) (by decide +kernel))) (by decide +kernel)
theorem mw_250 : Cond.code (⟨"java/util/Arrays", "fill", "([IIII)V"⟩ : MethodName) prog_9_method_104_code 5 (Option.none : Option Jvm.ClassFile.FieldType) ∈ T0 := T0_in (List.mem_append_right _ (List.mem_of_getElem? (i := 191) (by decide +kernel))) (by decide +kernel)
theorem mw_251 : Cond.static (⟨"java/util/Arrays", "fill", "([IIII)V"⟩ : MethodName) ∈ T0 := T0_in (List.mem_append_right _ (List.mem_of_getElem? (i := 190) (by decide +kernel))) (by decide +kernel)
theorem mw_252 : Cond.code (⟨"WayTable$Table", "leaderAfter", "([III)I"⟩ : MethodName) prog_3_method_13_code 5 (Option.some Jvm.ClassFile.FieldType.int) ∈ T0 := T0_in (List.mem_append_right _ (List.mem_of_getElem? (i := 210) (by decide +kernel))) (by decide +kernel)
theorem mw_253 : Cond.instanceMethod (⟨"WayTable$Table", "leaderAfter", "([III)I"⟩ : MethodName) ∈ T0 := T0_in (List.mem_append_right _ (List.mem_of_getElem? (i := 209) (by decide +kernel))) (by decide +kernel)
theorem mw_254 : Cond.selects "WayTable$Table" (⟨"WayTable$Table", "leaderAfter", "([III)I"⟩ : MethodName) (⟨"WayTable$Table", "leaderAfter", "([III)I"⟩ : MethodName) ∈ T0 := T0_in (by decide +kernel) (by decide +kernel)
theorem mw_255 : Cond.code (⟨"WayTable$Table", "goAlike", "(II)Z"⟩ : MethodName) prog_3_method_12_code 4 (Option.some Jvm.ClassFile.FieldType.boolean) ∈ T0 := T0_in (List.mem_append_right _ (List.mem_of_getElem? (i := 206) (by decide +kernel))) (by decide +kernel)
theorem mw_256 : Cond.instanceMethod (⟨"WayTable$Table", "goAlike", "(II)Z"⟩ : MethodName) ∈ T0 := T0_in (List.mem_append_right _ (List.mem_of_getElem? (i := 205) (by decide +kernel))) (by decide +kernel)
theorem mw_257 : Cond.selects "WayTable$Table" (⟨"WayTable$Table", "goAlike", "(II)Z"⟩ : MethodName) (⟨"WayTable$Table", "goAlike", "(II)Z"⟩ : MethodName) ∈ T0 := T0_in (by decide +kernel) (by decide +kernel)
theorem mw_258 : Cond.code (⟨"WayTable$Table", "findLeader", "(I)I"⟩ : MethodName) prog_3_method_11_code 4 (Option.some Jvm.ClassFile.FieldType.int) ∈ T0 := T0_in (List.mem_append_right _ (List.mem_of_getElem? (i := 202) (by decide +kernel))) (by decide +kernel)
theorem mw_259 : Cond.instanceMethod (⟨"WayTable$Table", "findLeader", "(I)I"⟩ : MethodName) ∈ T0 := T0_in (List.mem_append_right _ (List.mem_of_getElem? (i := 201) (by decide +kernel))) (by decide +kernel)
theorem mw_260 : Cond.selects "WayTable$Table" (⟨"WayTable$Table", "findLeader", "(I)I"⟩ : MethodName) (⟨"WayTable$Table", "findLeader", "(I)I"⟩ : MethodName) ∈ T0 := T0_in (by decide +kernel) (by decide +kernel)
theorem mw_261 : Cond.code (⟨"WayTable$Table", "pair", "(II)I"⟩ : MethodName) prog_3_method_15_code 3 (Option.some Jvm.ClassFile.FieldType.int) ∈ T0 := T0_in (List.mem_append_right _ (List.mem_of_getElem? (i := 217) (by decide +kernel))) (by decide +kernel)
theorem mw_262 : Cond.static (⟨"WayTable$Table", "pair", "(II)I"⟩ : MethodName) ∈ T0 := T0_in (List.mem_append_right _ (List.mem_of_getElem? (i := 216) (by decide +kernel))) (by decide +kernel)
theorem mw_263 : Cond.code (⟨"WayTable$Table", "measure", "(II)V"⟩ : MethodName) prog_3_method_14_code 5 (Option.none : Option Jvm.ClassFile.FieldType) ∈ T0 := T0_in (List.mem_append_right _ (List.mem_of_getElem? (i := 214) (by decide +kernel))) (by decide +kernel)
theorem mw_264 : Cond.instanceMethod (⟨"WayTable$Table", "measure", "(II)V"⟩ : MethodName) ∈ T0 := T0_in (List.mem_append_right _ (List.mem_of_getElem? (i := 213) (by decide +kernel))) (by decide +kernel)
theorem mw_265 : Cond.selects "WayTable$Table" (⟨"WayTable$Table", "measure", "(II)V"⟩ : MethodName) (⟨"WayTable$Table", "measure", "(II)V"⟩ : MethodName) ∈ T0 := T0_in (by decide +kernel) (by decide +kernel)
theorem mw_266 : Cond.code (⟨"WayTable$Table", "partOnce", "(I)Z"⟩ : MethodName) prog_3_method_10_code 4 (Option.some Jvm.ClassFile.FieldType.boolean) ∈ T0 := T0_in (List.mem_append_right _ (List.mem_of_getElem? (i := 198) (by decide +kernel))) (by decide +kernel)
theorem mw_267 : Cond.instanceMethod (⟨"WayTable$Table", "partOnce", "(I)Z"⟩ : MethodName) ∈ T0 := T0_in (List.mem_append_right _ (List.mem_of_getElem? (i := 197) (by decide +kernel))) (by decide +kernel)
theorem mw_268 : Cond.selects "WayTable$Table" (⟨"WayTable$Table", "partOnce", "(I)Z"⟩ : MethodName) (⟨"WayTable$Table", "partOnce", "(I)Z"⟩ : MethodName) ∈ T0 := T0_in (by decide +kernel) (by decide +kernel)
theorem mw_269 : Cond.code (⟨"WayTable$Table", "partSets", "()V"⟩ : MethodName) prog_3_method_9_code 2 (Option.none : Option Jvm.ClassFile.FieldType) ∈ T0 := T0_in (List.mem_append_right _ (List.mem_of_getElem? (i := 188) (by decide +kernel))) (by decide +kernel)
theorem mw_270 : Cond.instanceMethod (⟨"WayTable$Table", "partSets", "()V"⟩ : MethodName) ∈ T0 := T0_in (List.mem_append_right _ (List.mem_of_getElem? (i := 187) (by decide +kernel))) (by decide +kernel)
theorem mw_271 : Cond.selects "WayTable$Table" (⟨"WayTable$Table", "partSets", "()V"⟩ : MethodName) (⟨"WayTable$Table", "partSets", "()V"⟩ : MethodName) ∈ T0 := T0_in (by decide +kernel) (by decide +kernel)
theorem mw_272 : Cond.code (⟨"WayTable$Table", "numberState", "(I)V"⟩ : MethodName) prog_3_method_17_code 2 (Option.none : Option Jvm.ClassFile.FieldType) ∈ T0 := T0_in (List.mem_append_right _ (List.mem_of_getElem? (i := 231) (by decide +kernel))) (by decide +kernel)
theorem mw_273 : Cond.instanceMethod (⟨"WayTable$Table", "numberState", "(I)V"⟩ : MethodName) ∈ T0 := T0_in (List.mem_append_right _ (List.mem_of_getElem? (i := 230) (by decide +kernel))) (by decide +kernel)
theorem mw_274 : Cond.selects "WayTable$Table" (⟨"WayTable$Table", "numberState", "(I)V"⟩ : MethodName) (⟨"WayTable$Table", "numberState", "(I)V"⟩ : MethodName) ∈ T0 := T0_in (by decide +kernel) (by decide +kernel)
theorem mw_275 : Cond.code (⟨"WayTable$Table", "numberStates", "()V"⟩ : MethodName) prog_3_method_16_code 4 (Option.none : Option Jvm.ClassFile.FieldType) ∈ T0 := T0_in (List.mem_append_right _ (List.mem_of_getElem? (i := 227) (by decide +kernel))) (by decide +kernel)
theorem mw_276 : Cond.instanceMethod (⟨"WayTable$Table", "numberStates", "()V"⟩ : MethodName) ∈ T0 := T0_in (List.mem_append_right _ (List.mem_of_getElem? (i := 226) (by decide +kernel))) (by decide +kernel)
theorem mw_277 : Cond.selects "WayTable$Table" (⟨"WayTable$Table", "numberStates", "()V"⟩ : MethodName) (⟨"WayTable$Table", "numberStates", "()V"⟩ : MethodName) ∈ T0 := T0_in (by decide +kernel) (by decide +kernel)
theorem mw_278 : Cond.code (⟨"WayTable$Table", "build", "(LWayTable$Graph;)Z"⟩ : MethodName) prog_3_method_5_code 3 (Option.some Jvm.ClassFile.FieldType.boolean) ∈ T0 := T0_in (List.mem_append_right _ (List.mem_of_getElem? (i := 166) (by decide +kernel))) (by decide +kernel)
theorem mw_279 : Cond.instanceMethod (⟨"WayTable$Table", "build", "(LWayTable$Graph;)Z"⟩ : MethodName) ∈ T0 := T0_in (List.mem_append_right _ (List.mem_of_getElem? (i := 165) (by decide +kernel))) (by decide +kernel)
theorem mw_280 : Cond.selects "WayTable$Table" (⟨"WayTable$Table", "build", "(LWayTable$Graph;)Z"⟩ : MethodName) (⟨"WayTable$Table", "build", "(LWayTable$Graph;)Z"⟩ : MethodName) ∈ T0 := T0_in (by decide +kernel) (by decide +kernel)
theorem mw_281 : Cond.code (⟨"WayTable", "make", "()I"⟩ : MethodName) prog_1_method_7_code 1 (Option.some Jvm.ClassFile.FieldType.int) ∈ T0 := T0_in (List.mem_append_right _ (List.mem_of_getElem? (i := 162) (by decide +kernel))) (by decide +kernel)
theorem mw_282 : Cond.instanceMethod (⟨"WayTable", "make", "()I"⟩ : MethodName) ∈ T0 := T0_in (List.mem_append_right _ (List.mem_of_getElem? (i := 160) (by decide +kernel))) (by decide +kernel)
theorem mw_283 : Cond.selects "WayTable" (⟨"WayTable", "make", "()I"⟩ : MethodName) (⟨"WayTable", "make", "()I"⟩ : MethodName) ∈ T0 := T0_in (List.mem_append_right _ (List.mem_of_getElem? (i := 161) (by decide +kernel))) (by decide +kernel)
theorem mw_284 : Cond.code (⟨"WayTableModel", "led", "(II)I"⟩ : MethodName) prog_5_method_11_code 5 (Option.some Jvm.ClassFile.FieldType.int) ∈ T0 := T0_in (List.mem_append_right _ (List.mem_of_getElem? (i := 335) (by decide +kernel))) (by decide +kernel)
theorem mw_285 : Cond.instanceMethod (⟨"WayTableModel", "led", "(II)I"⟩ : MethodName) ∈ T0 := T0_in (List.mem_append_right _ (List.mem_of_getElem? (i := 334) (by decide +kernel))) (by decide +kernel)
theorem mw_286 : Cond.selects "WayTableModel" (⟨"WayTableModel", "led", "(II)I"⟩ : MethodName) (⟨"WayTableModel", "led", "(II)I"⟩ : MethodName) ∈ T0 := T0_in (by decide +kernel) (by decide +kernel)
theorem mw_287 : Cond.code (⟨"WayTableModel", "follow", "()I"⟩ : MethodName) prog_5_method_12_code 6 (Option.some Jvm.ClassFile.FieldType.int) ∈ T0 := T0_in (List.mem_append_right _ (List.mem_of_getElem? (i := 331) (by decide +kernel))) (by decide +kernel)
theorem mw_288 : Cond.instanceMethod (⟨"WayTableModel", "follow", "()I"⟩ : MethodName) ∈ T0 := T0_in (List.mem_append_right _ (List.mem_of_getElem? (i := 330) (by decide +kernel))) (by decide +kernel)
theorem mw_289 : Cond.selects "WayTableModel" (⟨"WayTableModel", "follow", "()I"⟩ : MethodName) (⟨"WayTableModel", "follow", "()I"⟩ : MethodName) ∈ T0 := T0_in (by decide +kernel) (by decide +kernel)
theorem mw_290 : Cond.code (⟨"WayTableModel", "tell", "(I)Z"⟩ : MethodName) prog_5_method_13_code 9 (Option.some Jvm.ClassFile.FieldType.boolean) ∈ T0 := T0_in (List.mem_append_right _ (List.mem_of_getElem? (i := 339) (by decide +kernel))) (by decide +kernel)
theorem mw_291 : Cond.instanceMethod (⟨"WayTableModel", "tell", "(I)Z"⟩ : MethodName) ∈ T0 := T0_in (List.mem_append_right _ (List.mem_of_getElem? (i := 338) (by decide +kernel))) (by decide +kernel)
theorem mw_292 : Cond.selects "WayTableModel" (⟨"WayTableModel", "tell", "(I)Z"⟩ : MethodName) (⟨"WayTableModel", "tell", "(I)Z"⟩ : MethodName) ∈ T0 := T0_in (by decide +kernel) (by decide +kernel)
theorem mw_293 : Cond.code (⟨"WayTableModel", "leastLike", "(I)I"⟩ : MethodName) prog_5_method_14_code 3 (Option.some Jvm.ClassFile.FieldType.int) ∈ T0 := T0_in (List.mem_append_right _ (List.mem_of_getElem? (i := 343) (by decide +kernel))) (by decide +kernel)
theorem mw_294 : Cond.instanceMethod (⟨"WayTableModel", "leastLike", "(I)I"⟩ : MethodName) ∈ T0 := T0_in (List.mem_append_right _ (List.mem_of_getElem? (i := 342) (by decide +kernel))) (by decide +kernel)
theorem mw_295 : Cond.selects "WayTableModel" (⟨"WayTableModel", "leastLike", "(I)I"⟩ : MethodName) (⟨"WayTableModel", "leastLike", "(I)I"⟩ : MethodName) ∈ T0 := T0_in (by decide +kernel) (by decide +kernel)
theorem mw_296 : Cond.code (⟨"WayTableModel", "make", "()I"⟩ : MethodName) prog_5_method_15_code 7 (Option.some Jvm.ClassFile.FieldType.int) ∈ T0 := T0_in (List.mem_append_right _ (List.mem_of_getElem? (i := 327) (by decide +kernel))) (by decide +kernel)
theorem mw_297 : Cond.instanceMethod (⟨"WayTableModel", "make", "()I"⟩ : MethodName) ∈ T0 := T0_in (List.mem_append_right _ (List.mem_of_getElem? (i := 325) (by decide +kernel))) (by decide +kernel)
theorem mw_298 : Cond.selects "WayTableModel" (⟨"WayTableModel", "make", "()I"⟩ : MethodName) (⟨"WayTableModel", "make", "()I"⟩ : MethodName) ∈ T0 := T0_in (List.mem_append_right _ (List.mem_of_getElem? (i := 326) (by decide +kernel))) (by decide +kernel)
theorem mw_299 : Cond.code (⟨"WayTable", "home", "()V"⟩ : MethodName) prog_1_method_8_code 1 (Option.none : Option Jvm.ClassFile.FieldType) ∈ T0 := T0_in (List.mem_append_right _ (List.mem_of_getElem? (i := 235) (by decide +kernel))) (by decide +kernel)
theorem mw_300 : Cond.instanceMethod (⟨"WayTable", "home", "()V"⟩ : MethodName) ∈ T0 := T0_in (List.mem_append_right _ (List.mem_of_getElem? (i := 233) (by decide +kernel))) (by decide +kernel)
theorem mw_301 : Cond.selects "WayTable" (⟨"WayTable", "home", "()V"⟩ : MethodName) (⟨"WayTable", "home", "()V"⟩ : MethodName) ∈ T0 := T0_in (List.mem_append_right _ (List.mem_of_getElem? (i := 234) (by decide +kernel))) (by decide +kernel)
theorem mw_302 : Cond.code (⟨"WayTableModel", "home", "()V"⟩ : MethodName) prog_5_method_16_code 1 (Option.none : Option Jvm.ClassFile.FieldType) ∈ T0 := T0_in (List.mem_append_right _ (List.mem_of_getElem? (i := 434) (by decide +kernel))) (by decide +kernel)
theorem mw_303 : Cond.instanceMethod (⟨"WayTableModel", "home", "()V"⟩ : MethodName) ∈ T0 := T0_in (List.mem_append_right _ (List.mem_of_getElem? (i := 432) (by decide +kernel))) (by decide +kernel)
theorem mw_304 : Cond.selects "WayTableModel" (⟨"WayTableModel", "home", "()V"⟩ : MethodName) (⟨"WayTableModel", "home", "()V"⟩ : MethodName) ∈ T0 := T0_in (List.mem_append_right _ (List.mem_of_getElem? (i := 433) (by decide +kernel))) (by decide +kernel)
theorem mw_305 : Cond.code (⟨"WayTable$Table", "hasState", "(I)Z"⟩ : MethodName) prog_3_method_4_code 2 (Option.some Jvm.ClassFile.FieldType.boolean) ∈ T0 := T0_in (List.mem_append_right _ (List.mem_of_getElem? (i := 247) (by decide +kernel))) (by decide +kernel)
theorem mw_306 : Cond.instanceMethod (⟨"WayTable$Table", "hasState", "(I)Z"⟩ : MethodName) ∈ T0 := T0_in (List.mem_append_right _ (List.mem_of_getElem? (i := 246) (by decide +kernel))) (by decide +kernel)
theorem mw_307 : Cond.selects "WayTable$Table" (⟨"WayTable$Table", "hasState", "(I)Z"⟩ : MethodName) (⟨"WayTable$Table", "hasState", "(I)Z"⟩ : MethodName) ∈ T0 := T0_in (by decide +kernel) (by decide +kernel)
theorem mw_308 : Cond.code (⟨"WayTable$Table", "hasLetter", "(I)Z"⟩ : MethodName) prog_3_method_2_code 2 (Option.some Jvm.ClassFile.FieldType.boolean) ∈ T0 := T0_in (List.mem_append_right _ (List.mem_of_getElem? (i := 251) (by decide +kernel))) (by decide +kernel)
theorem mw_309 : Cond.instanceMethod (⟨"WayTable$Table", "hasLetter", "(I)Z"⟩ : MethodName) ∈ T0 := T0_in (List.mem_append_right _ (List.mem_of_getElem? (i := 250) (by decide +kernel))) (by decide +kernel)
theorem mw_310 : Cond.selects "WayTable$Table" (⟨"WayTable$Table", "hasLetter", "(I)Z"⟩ : MethodName) (⟨"WayTable$Table", "hasLetter", "(I)Z"⟩ : MethodName) ∈ T0 := T0_in (by decide +kernel) (by decide +kernel)
theorem mw_311 : Cond.code (⟨"WayTable$Table", "stateAfter", "(II)I"⟩ : MethodName) prog_3_method_18_code 4 (Option.some Jvm.ClassFile.FieldType.int) ∈ T0 := T0_in (List.mem_append_right _ (List.mem_of_getElem? (i := 255) (by decide +kernel))) (by decide +kernel)
theorem mw_312 : Cond.instanceMethod (⟨"WayTable$Table", "stateAfter", "(II)I"⟩ : MethodName) ∈ T0 := T0_in (List.mem_append_right _ (List.mem_of_getElem? (i := 254) (by decide +kernel))) (by decide +kernel)
theorem mw_313 : Cond.selects "WayTable$Table" (⟨"WayTable$Table", "stateAfter", "(II)I"⟩ : MethodName) (⟨"WayTable$Table", "stateAfter", "(II)I"⟩ : MethodName) ∈ T0 := T0_in (by decide +kernel) (by decide +kernel)
theorem mw_314 : Cond.code (⟨"WayTable", "to", "(II)I"⟩ : MethodName) prog_1_method_10_code 3 (Option.some Jvm.ClassFile.FieldType.int) ∈ T0 := T0_in (List.mem_append_right _ (List.mem_of_getElem? (i := 243) (by decide +kernel))) (by decide +kernel)
theorem mw_315 : Cond.instanceMethod (⟨"WayTable", "to", "(II)I"⟩ : MethodName) ∈ T0 := T0_in (List.mem_append_right _ (List.mem_of_getElem? (i := 241) (by decide +kernel))) (by decide +kernel)
theorem mw_316 : Cond.selects "WayTable" (⟨"WayTable", "to", "(II)I"⟩ : MethodName) (⟨"WayTable", "to", "(II)I"⟩ : MethodName) ∈ T0 := T0_in (List.mem_append_right _ (List.mem_of_getElem? (i := 242) (by decide +kernel))) (by decide +kernel)
theorem mw_317 : Cond.code (⟨"WayTable", "go", "(I)I"⟩ : MethodName) prog_1_method_9_code 3 (Option.some Jvm.ClassFile.FieldType.int) ∈ T0 := T0_in (List.mem_append_right _ (List.mem_of_getElem? (i := 239) (by decide +kernel))) (by decide +kernel)
theorem mw_318 : Cond.instanceMethod (⟨"WayTable", "go", "(I)I"⟩ : MethodName) ∈ T0 := T0_in (List.mem_append_right _ (List.mem_of_getElem? (i := 237) (by decide +kernel))) (by decide +kernel)
theorem mw_319 : Cond.selects "WayTable" (⟨"WayTable", "go", "(I)I"⟩ : MethodName) (⟨"WayTable", "go", "(I)I"⟩ : MethodName) ∈ T0 := T0_in (List.mem_append_right _ (List.mem_of_getElem? (i := 238) (by decide +kernel))) (by decide +kernel)
theorem mw_320 : Cond.code (⟨"WayTableModel", "next", "(II)I"⟩ : MethodName) prog_5_method_17_code 4 (Option.some Jvm.ClassFile.FieldType.int) ∈ T0 := T0_in (List.mem_append_right _ (List.mem_of_getElem? (i := 442) (by decide +kernel))) (by decide +kernel)
theorem mw_321 : Cond.instanceMethod (⟨"WayTableModel", "next", "(II)I"⟩ : MethodName) ∈ T0 := T0_in (List.mem_append_right _ (List.mem_of_getElem? (i := 441) (by decide +kernel))) (by decide +kernel)
theorem mw_322 : Cond.selects "WayTableModel" (⟨"WayTableModel", "next", "(II)I"⟩ : MethodName) (⟨"WayTableModel", "next", "(II)I"⟩ : MethodName) ∈ T0 := T0_in (by decide +kernel) (by decide +kernel)
theorem mw_323 : Cond.code (⟨"WayTableModel", "go", "(I)I"⟩ : MethodName) prog_5_method_18_code 3 (Option.some Jvm.ClassFile.FieldType.int) ∈ T0 := T0_in (List.mem_append_right _ (List.mem_of_getElem? (i := 438) (by decide +kernel))) (by decide +kernel)
theorem mw_324 : Cond.instanceMethod (⟨"WayTableModel", "go", "(I)I"⟩ : MethodName) ∈ T0 := T0_in (List.mem_append_right _ (List.mem_of_getElem? (i := 436) (by decide +kernel))) (by decide +kernel)
theorem mw_325 : Cond.selects "WayTableModel" (⟨"WayTableModel", "go", "(I)I"⟩ : MethodName) (⟨"WayTableModel", "go", "(I)I"⟩ : MethodName) ∈ T0 := T0_in (List.mem_append_right _ (List.mem_of_getElem? (i := 437) (by decide +kernel))) (by decide +kernel)
theorem mw_326 : Cond.code (⟨"WayTableModel", "isState", "(I)Z"⟩ : MethodName) prog_5_method_19_code 2 (Option.some Jvm.ClassFile.FieldType.boolean) ∈ T0 := T0_in (List.mem_append_right _ (List.mem_of_getElem? (i := 450) (by decide +kernel))) (by decide +kernel)
theorem mw_327 : Cond.instanceMethod (⟨"WayTableModel", "isState", "(I)Z"⟩ : MethodName) ∈ T0 := T0_in (List.mem_append_right _ (List.mem_of_getElem? (i := 449) (by decide +kernel))) (by decide +kernel)
theorem mw_328 : Cond.selects "WayTableModel" (⟨"WayTableModel", "isState", "(I)Z"⟩ : MethodName) (⟨"WayTableModel", "isState", "(I)Z"⟩ : MethodName) ∈ T0 := T0_in (by decide +kernel) (by decide +kernel)
theorem mw_329 : Cond.code (⟨"WayTableModel", "to", "(II)I"⟩ : MethodName) prog_5_method_20_code 3 (Option.some Jvm.ClassFile.FieldType.int) ∈ T0 := T0_in (List.mem_append_right _ (List.mem_of_getElem? (i := 446) (by decide +kernel))) (by decide +kernel)
theorem mw_330 : Cond.instanceMethod (⟨"WayTableModel", "to", "(II)I"⟩ : MethodName) ∈ T0 := T0_in (List.mem_append_right _ (List.mem_of_getElem? (i := 444) (by decide +kernel))) (by decide +kernel)
theorem mw_331 : Cond.selects "WayTableModel" (⟨"WayTableModel", "to", "(II)I"⟩ : MethodName) (⟨"WayTableModel", "to", "(II)I"⟩ : MethodName) ∈ T0 := T0_in (List.mem_append_right _ (List.mem_of_getElem? (i := 445) (by decide +kernel))) (by decide +kernel)
theorem mw_332 : Cond.code (⟨"WayTable$Table", "hasSet", "(I)Z"⟩ : MethodName) prog_3_method_3_code 2 (Option.some Jvm.ClassFile.FieldType.boolean) ∈ T0 := T0_in (List.mem_append_right _ (List.mem_of_getElem? (i := 264) (by decide +kernel))) (by decide +kernel)
theorem mw_333 : Cond.instanceMethod (⟨"WayTable$Table", "hasSet", "(I)Z"⟩ : MethodName) ∈ T0 := T0_in (List.mem_append_right _ (List.mem_of_getElem? (i := 263) (by decide +kernel))) (by decide +kernel)
theorem mw_334 : Cond.selects "WayTable$Table" (⟨"WayTable$Table", "hasSet", "(I)Z"⟩ : MethodName) (⟨"WayTable$Table", "hasSet", "(I)Z"⟩ : MethodName) ∈ T0 := T0_in (by decide +kernel) (by decide +kernel)
theorem mw_335 : Cond.code (⟨"WayTable", "nodes", "(I)I"⟩ : MethodName) prog_1_method_11_code 2 (Option.some Jvm.ClassFile.FieldType.int) ∈ T0 := T0_in (List.mem_append_right _ (List.mem_of_getElem? (i := 260) (by decide +kernel))) (by decide +kernel)
theorem mw_336 : Cond.instanceMethod (⟨"WayTable", "nodes", "(I)I"⟩ : MethodName) ∈ T0 := T0_in (List.mem_append_right _ (List.mem_of_getElem? (i := 258) (by decide +kernel))) (by decide +kernel)
theorem mw_337 : Cond.selects "WayTable" (⟨"WayTable", "nodes", "(I)I"⟩ : MethodName) (⟨"WayTable", "nodes", "(I)I"⟩ : MethodName) ∈ T0 := T0_in (List.mem_append_right _ (List.mem_of_getElem? (i := 259) (by decide +kernel))) (by decide +kernel)
theorem mw_338 : Cond.code (⟨"WayTableModel", "nodes", "(I)I"⟩ : MethodName) prog_5_method_21_code 2 (Option.some Jvm.ClassFile.FieldType.int) ∈ T0 := T0_in (List.mem_append_right _ (List.mem_of_getElem? (i := 454) (by decide +kernel))) (by decide +kernel)
theorem mw_339 : Cond.instanceMethod (⟨"WayTableModel", "nodes", "(I)I"⟩ : MethodName) ∈ T0 := T0_in (List.mem_append_right _ (List.mem_of_getElem? (i := 452) (by decide +kernel))) (by decide +kernel)
theorem mw_340 : Cond.selects "WayTableModel" (⟨"WayTableModel", "nodes", "(I)I"⟩ : MethodName) (⟨"WayTableModel", "nodes", "(I)I"⟩ : MethodName) ∈ T0 := T0_in (List.mem_append_right _ (List.mem_of_getElem? (i := 453) (by decide +kernel))) (by decide +kernel)
theorem mw_341 : Cond.code (⟨"WayTable", "state", "(I)I"⟩ : MethodName) prog_1_method_12_code 2 (Option.some Jvm.ClassFile.FieldType.int) ∈ T0 := T0_in (List.mem_append_right _ (List.mem_of_getElem? (i := 268) (by decide +kernel))) (by decide +kernel)
theorem mw_342 : Cond.instanceMethod (⟨"WayTable", "state", "(I)I"⟩ : MethodName) ∈ T0 := T0_in (List.mem_append_right _ (List.mem_of_getElem? (i := 266) (by decide +kernel))) (by decide +kernel)
theorem mw_343 : Cond.selects "WayTable" (⟨"WayTable", "state", "(I)I"⟩ : MethodName) (⟨"WayTable", "state", "(I)I"⟩ : MethodName) ∈ T0 := T0_in (List.mem_append_right _ (List.mem_of_getElem? (i := 267) (by decide +kernel))) (by decide +kernel)
theorem mw_344 : Cond.code (⟨"WayTableModel", "state", "(I)I"⟩ : MethodName) prog_5_method_22_code 2 (Option.some Jvm.ClassFile.FieldType.int) ∈ T0 := T0_in (List.mem_append_right _ (List.mem_of_getElem? (i := 458) (by decide +kernel))) (by decide +kernel)
theorem mw_345 : Cond.instanceMethod (⟨"WayTableModel", "state", "(I)I"⟩ : MethodName) ∈ T0 := T0_in (List.mem_append_right _ (List.mem_of_getElem? (i := 456) (by decide +kernel))) (by decide +kernel)
theorem mw_346 : Cond.selects "WayTableModel" (⟨"WayTableModel", "state", "(I)I"⟩ : MethodName) (⟨"WayTableModel", "state", "(I)I"⟩ : MethodName) ∈ T0 := T0_in (List.mem_append_right _ (List.mem_of_getElem? (i := 457) (by decide +kernel))) (by decide +kernel)
theorem mw_347 : Cond.code (⟨"WayTable$Table", "rowLength", "(II)I"⟩ : MethodName) prog_3_method_20_code 3 (Option.some Jvm.ClassFile.FieldType.int) ∈ T0 := T0_in (List.mem_append_right _ (List.mem_of_getElem? (i := 276) (by decide +kernel))) (by decide +kernel)
theorem mw_348 : Cond.instanceMethod (⟨"WayTable$Table", "rowLength", "(II)I"⟩ : MethodName) ∈ T0 := T0_in (List.mem_append_right _ (List.mem_of_getElem? (i := 275) (by decide +kernel))) (by decide +kernel)
theorem mw_349 : Cond.selects "WayTable$Table" (⟨"WayTable$Table", "rowLength", "(II)I"⟩ : MethodName) (⟨"WayTable$Table", "rowLength", "(II)I"⟩ : MethodName) ∈ T0 := T0_in (by decide +kernel) (by decide +kernel)
theorem mw_350 : Cond.code (⟨"WayTable", "apart", "(II)I"⟩ : MethodName) prog_1_method_13_code 3 (Option.some Jvm.ClassFile.FieldType.int) ∈ T0 := T0_in (List.mem_append_right _ (List.mem_of_getElem? (i := 272) (by decide +kernel))) (by decide +kernel)
theorem mw_351 : Cond.instanceMethod (⟨"WayTable", "apart", "(II)I"⟩ : MethodName) ∈ T0 := T0_in (List.mem_append_right _ (List.mem_of_getElem? (i := 270) (by decide +kernel))) (by decide +kernel)
theorem mw_352 : Cond.selects "WayTable" (⟨"WayTable", "apart", "(II)I"⟩ : MethodName) (⟨"WayTable", "apart", "(II)I"⟩ : MethodName) ∈ T0 := T0_in (List.mem_append_right _ (List.mem_of_getElem? (i := 271) (by decide +kernel))) (by decide +kernel)
theorem mw_353 : Cond.code (⟨"WayTableModel", "apart", "(II)I"⟩ : MethodName) prog_5_method_23_code 3 (Option.some Jvm.ClassFile.FieldType.int) ∈ T0 := T0_in (List.mem_append_right _ (List.mem_of_getElem? (i := 462) (by decide +kernel))) (by decide +kernel)
theorem mw_354 : Cond.instanceMethod (⟨"WayTableModel", "apart", "(II)I"⟩ : MethodName) ∈ T0 := T0_in (List.mem_append_right _ (List.mem_of_getElem? (i := 460) (by decide +kernel))) (by decide +kernel)
theorem mw_355 : Cond.selects "WayTableModel" (⟨"WayTableModel", "apart", "(II)I"⟩ : MethodName) (⟨"WayTableModel", "apart", "(II)I"⟩ : MethodName) ∈ T0 := T0_in (List.mem_append_right _ (List.mem_of_getElem? (i := 461) (by decide +kernel))) (by decide +kernel)
theorem mw_356 : Cond.code (⟨"WayTable$Table", "lengthBehind", "(II)I"⟩ : MethodName) prog_3_method_23_code 3 (Option.some Jvm.ClassFile.FieldType.int) ∈ T0 := T0_in (List.mem_append_right _ (List.mem_of_getElem? (i := 294) (by decide +kernel))) (by decide +kernel)
theorem mw_357 : Cond.instanceMethod (⟨"WayTable$Table", "lengthBehind", "(II)I"⟩ : MethodName) ∈ T0 := T0_in (List.mem_append_right _ (List.mem_of_getElem? (i := 293) (by decide +kernel))) (by decide +kernel)
theorem mw_358 : Cond.selects "WayTable$Table" (⟨"WayTable$Table", "lengthBehind", "(II)I"⟩ : MethodName) (⟨"WayTable$Table", "lengthBehind", "(II)I"⟩ : MethodName) ∈ T0 := T0_in (by decide +kernel) (by decide +kernel)
theorem mw_359 : Cond.code (⟨"WayTable$Table", "leastLetter", "(III)I"⟩ : MethodName) prog_3_method_22_code 7 (Option.some Jvm.ClassFile.FieldType.int) ∈ T0 := T0_in (List.mem_append_right _ (List.mem_of_getElem? (i := 290) (by decide +kernel))) (by decide +kernel)
theorem mw_360 : Cond.instanceMethod (⟨"WayTable$Table", "leastLetter", "(III)I"⟩ : MethodName) ∈ T0 := T0_in (List.mem_append_right _ (List.mem_of_getElem? (i := 289) (by decide +kernel))) (by decide +kernel)
theorem mw_361 : Cond.selects "WayTable$Table" (⟨"WayTable$Table", "leastLetter", "(III)I"⟩ : MethodName) (⟨"WayTable$Table", "leastLetter", "(III)I"⟩ : MethodName) ∈ T0 := T0_in (by decide +kernel) (by decide +kernel)
theorem mw_362 : Cond.code (⟨"WayTable$Table", "rowLetter", "(III)I"⟩ : MethodName) prog_3_method_21_code 9 (Option.some Jvm.ClassFile.FieldType.int) ∈ T0 := T0_in (List.mem_append_right _ (List.mem_of_getElem? (i := 285) (by decide +kernel))) (by decide +kernel)
theorem mw_363 : Cond.instanceMethod (⟨"WayTable$Table", "rowLetter", "(III)I"⟩ : MethodName) ∈ T0 := T0_in (List.mem_append_right _ (List.mem_of_getElem? (i := 284) (by decide +kernel))) (by decide +kernel)
theorem mw_364 : Cond.selects "WayTable$Table" (⟨"WayTable$Table", "rowLetter", "(III)I"⟩ : MethodName) (⟨"WayTable$Table", "rowLetter", "(III)I"⟩ : MethodName) ∈ T0 := T0_in (by decide +kernel) (by decide +kernel)
theorem mw_365 : Cond.code (⟨"WayTable", "apartBy", "(III)I"⟩ : MethodName) prog_1_method_14_code 4 (Option.some Jvm.ClassFile.FieldType.int) ∈ T0 := T0_in (List.mem_append_right _ (List.mem_of_getElem? (i := 280) (by decide +kernel))) (by decide +kernel)
theorem mw_366 : Cond.instanceMethod (⟨"WayTable", "apartBy", "(III)I"⟩ : MethodName) ∈ T0 := T0_in (List.mem_append_right _ (List.mem_of_getElem? (i := 278) (by decide +kernel))) (by decide +kernel)
theorem mw_367 : Cond.selects "WayTable" (⟨"WayTable", "apartBy", "(III)I"⟩ : MethodName) (⟨"WayTable", "apartBy", "(III)I"⟩ : MethodName) ∈ T0 := T0_in (List.mem_append_right _ (List.mem_of_getElem? (i := 279) (by decide +kernel))) (by decide +kernel)
theorem mw_368 : Cond.code (⟨"WayTableModel", "apartBy", "(III)I"⟩ : MethodName) prog_5_method_24_code 8 (Option.some Jvm.ClassFile.FieldType.int) ∈ T0 := T0_in (List.mem_append_right _ (List.mem_of_getElem? (i := 466) (by decide +kernel))) (by decide +kernel)
theorem mw_369 : Cond.instanceMethod (⟨"WayTableModel", "apartBy", "(III)I"⟩ : MethodName) ∈ T0 := T0_in (List.mem_append_right _ (List.mem_of_getElem? (i := 464) (by decide +kernel))) (by decide +kernel)
theorem mw_370 : Cond.selects "WayTableModel" (⟨"WayTableModel", "apartBy", "(III)I"⟩ : MethodName) (⟨"WayTableModel", "apartBy", "(III)I"⟩ : MethodName) ∈ T0 := T0_in (List.mem_append_right _ (List.mem_of_getElem? (i := 465) (by decide +kernel))) (by decide +kernel)
theorem mw_371 : Cond.code (⟨"WayTable", "is", "(III)Z"⟩ : MethodName) prog_1_method_15_code 4 (Option.some Jvm.ClassFile.FieldType.boolean) ∈ T0 := T0_in (List.mem_append_right _ (List.mem_of_getElem? (i := 298) (by decide +kernel))) (by decide +kernel)
theorem mw_372 : Cond.instanceMethod (⟨"WayTable", "is", "(III)Z"⟩ : MethodName) ∈ T0 := T0_in (List.mem_append_right _ (List.mem_of_getElem? (i := 296) (by decide +kernel))) (by decide +kernel)
theorem mw_373 : Cond.selects "WayTable" (⟨"WayTable", "is", "(III)Z"⟩ : MethodName) (⟨"WayTable", "is", "(III)Z"⟩ : MethodName) ∈ T0 := T0_in (List.mem_append_right _ (List.mem_of_getElem? (i := 297) (by decide +kernel))) (by decide +kernel)
theorem mw_374 : Cond.code (⟨"java/lang/Integer", "bitCount", "(I)I"⟩ : MethodName) prog_6_method_49_code 1 (Option.some Jvm.ClassFile.FieldType.int) ∈ T0 := T0_in (List.mem_append_right _ (List.mem_of_getElem? (i := 309) (by decide +kernel))) (by decide +kernel)
theorem mw_375 : Cond.initialized "java/lang/Integer" ∈ T0 := T0_in (List.mem_append_right _ (List.mem_of_getElem? (i := 8) (by decide +kernel))) (by decide +kernel)
theorem mw_376 : Cond.static (⟨"java/lang/Integer", "bitCount", "(I)I"⟩ : MethodName) ∈ T0 := T0_in (List.mem_append_right _ (List.mem_of_getElem? (i := 308) (by decide +kernel))) (by decide +kernel)
theorem mw_377 : Cond.code (⟨"WayTable$Graph", "countWays", "()I"⟩ : MethodName) prog_2_method_10_code 3 (Option.some Jvm.ClassFile.FieldType.int) ∈ T0 := T0_in (List.mem_append_right _ (List.mem_of_getElem? (i := 306) (by decide +kernel))) (by decide +kernel)
theorem mw_378 : Cond.instanceMethod (⟨"WayTable$Graph", "countWays", "()I"⟩ : MethodName) ∈ T0 := T0_in (List.mem_append_right _ (List.mem_of_getElem? (i := 305) (by decide +kernel))) (by decide +kernel)
theorem mw_379 : Cond.selects "WayTable$Graph" (⟨"WayTable$Graph", "countWays", "()I"⟩ : MethodName) (⟨"WayTable$Graph", "countWays", "()I"⟩ : MethodName) ∈ T0 := T0_in (by decide +kernel) (by decide +kernel)
theorem mw_380 : Cond.code (⟨"WayTable$Table", "countGoing", "()I"⟩ : MethodName) prog_3_method_19_code 4 (Option.some Jvm.ClassFile.FieldType.int) ∈ T0 := T0_in (List.mem_append_right _ (List.mem_of_getElem? (i := 316) (by decide +kernel))) (by decide +kernel)
theorem mw_381 : Cond.instanceMethod (⟨"WayTable$Table", "countGoing", "()I"⟩ : MethodName) ∈ T0 := T0_in (List.mem_append_right _ (List.mem_of_getElem? (i := 315) (by decide +kernel))) (by decide +kernel)
theorem mw_382 : Cond.selects "WayTable$Table" (⟨"WayTable$Table", "countGoing", "()I"⟩ : MethodName) (⟨"WayTable$Table", "countGoing", "()I"⟩ : MethodName) ∈ T0 := T0_in (by decide +kernel) (by decide +kernel)
theorem mw_383 : Cond.code (⟨"WayTable", "look", "(I)I"⟩ : MethodName) prog_1_method_16_code 2 (Option.some Jvm.ClassFile.FieldType.int) ∈ T0 := T0_in (List.mem_append_right _ (List.mem_of_getElem? (i := 302) (by decide +kernel))) (by decide +kernel)
theorem mw_384 : Cond.instanceMethod (⟨"WayTable", "look", "(I)I"⟩ : MethodName) ∈ T0 := T0_in (List.mem_append_right _ (List.mem_of_getElem? (i := 300) (by decide +kernel))) (by decide +kernel)
theorem mw_385 : Cond.selects "WayTable" (⟨"WayTable", "look", "(I)I"⟩ : MethodName) (⟨"WayTable", "look", "(I)I"⟩ : MethodName) ∈ T0 := T0_in (List.mem_append_right _ (List.mem_of_getElem? (i := 301) (by decide +kernel))) (by decide +kernel)
theorem mw_386 : Cond.code (⟨"WayTableModel", "wayMany", "()I"⟩ : MethodName) prog_5_method_27_code 4 (Option.some Jvm.ClassFile.FieldType.int) ∈ T0 := T0_in (List.mem_append_right _ (List.mem_of_getElem? (i := 474) (by decide +kernel))) (by decide +kernel)
theorem mw_387 : Cond.instanceMethod (⟨"WayTableModel", "wayMany", "()I"⟩ : MethodName) ∈ T0 := T0_in (List.mem_append_right _ (List.mem_of_getElem? (i := 473) (by decide +kernel))) (by decide +kernel)
theorem mw_388 : Cond.selects "WayTableModel" (⟨"WayTableModel", "wayMany", "()I"⟩ : MethodName) (⟨"WayTableModel", "wayMany", "()I"⟩ : MethodName) ∈ T0 := T0_in (by decide +kernel) (by decide +kernel)
theorem mw_389 : Cond.code (⟨"WayTableModel", "somewhere", "()I"⟩ : MethodName) prog_5_method_25_code 4 (Option.some Jvm.ClassFile.FieldType.int) ∈ T0 := T0_in (List.mem_append_right _ (List.mem_of_getElem? (i := 478) (by decide +kernel))) (by decide +kernel)
theorem mw_390 : Cond.instanceMethod (⟨"WayTableModel", "somewhere", "()I"⟩ : MethodName) ∈ T0 := T0_in (List.mem_append_right _ (List.mem_of_getElem? (i := 477) (by decide +kernel))) (by decide +kernel)
theorem mw_391 : Cond.selects "WayTableModel" (⟨"WayTableModel", "somewhere", "()I"⟩ : MethodName) (⟨"WayTableModel", "somewhere", "()I"⟩ : MethodName) ∈ T0 := T0_in (by decide +kernel) (by decide +kernel)
theorem mw_392 : Cond.code (⟨"WayTableModel", "longest", "()I"⟩ : MethodName) prog_5_method_26_code 5 (Option.some Jvm.ClassFile.FieldType.int) ∈ T0 := T0_in (List.mem_append_right _ (List.mem_of_getElem? (i := 482) (by decide +kernel))) (by decide +kernel)
theorem mw_393 : Cond.instanceMethod (⟨"WayTableModel", "longest", "()I"⟩ : MethodName) ∈ T0 := T0_in (List.mem_append_right _ (List.mem_of_getElem? (i := 481) (by decide +kernel))) (by decide +kernel)
theorem mw_394 : Cond.selects "WayTableModel" (⟨"WayTableModel", "longest", "()I"⟩ : MethodName) (⟨"WayTableModel", "longest", "()I"⟩ : MethodName) ∈ T0 := T0_in (by decide +kernel) (by decide +kernel)
theorem mw_395 : Cond.code (⟨"WayTableModel", "look", "(I)I"⟩ : MethodName) prog_5_method_28_code 2 (Option.some Jvm.ClassFile.FieldType.int) ∈ T0 := T0_in (List.mem_append_right _ (List.mem_of_getElem? (i := 470) (by decide +kernel))) (by decide +kernel)
theorem mw_396 : Cond.instanceMethod (⟨"WayTableModel", "look", "(I)I"⟩ : MethodName) ∈ T0 := T0_in (List.mem_append_right _ (List.mem_of_getElem? (i := 468) (by decide +kernel))) (by decide +kernel)
theorem mw_397 : Cond.selects "WayTableModel" (⟨"WayTableModel", "look", "(I)I"⟩ : MethodName) (⟨"WayTableModel", "look", "(I)I"⟩ : MethodName) ∈ T0 := T0_in (List.mem_append_right _ (List.mem_of_getElem? (i := 469) (by decide +kernel))) (by decide +kernel)
theorem mw_398 : Cond.instanceMethod (⟨"WayTable$Graph", "<init>", "()V"⟩ : MethodName) ∈ T0 := T0_in (List.mem_append_right _ (List.mem_of_getElem? (i := 20) (by decide +kernel))) (by decide +kernel)
theorem mw_399 : Cond.code (⟨"WayTable$Graph", "<init>", "()V"⟩ : MethodName) prog_2_method_1_code 1 (Option.none : Option Jvm.ClassFile.FieldType) ∈ T0 := T0_in (List.mem_append_right _ (List.mem_of_getElem? (i := 21) (by decide +kernel))) (by decide +kernel)
theorem mw_400 : Cond.instanceMethod (⟨"WayTable$Table", "<init>", "()V"⟩ : MethodName) ∈ T0 := T0_in (List.mem_append_right _ (List.mem_of_getElem? (i := 45) (by decide +kernel))) (by decide +kernel)
theorem mw_401 : Cond.code (⟨"WayTable$Table", "<init>", "()V"⟩ : MethodName) prog_3_method_1_code 1 (Option.none : Option Jvm.ClassFile.FieldType) ∈ T0 := T0_in (List.mem_append_right _ (List.mem_of_getElem? (i := 46) (by decide +kernel))) (by decide +kernel)
theorem mw_402 : Cond.instanceMethod (⟨"WayTable", "<init>", "()V"⟩ : MethodName) ∈ T0 := T0_in (List.mem_append_right _ (List.mem_of_getElem? (i := 12) (by decide +kernel))) (by decide +kernel)
theorem mw_403 : Cond.code (⟨"WayTable", "<init>", "()V"⟩ : MethodName) prog_1_method_1_code 1 (Option.none : Option Jvm.ClassFile.FieldType) ∈ T0 := T0_in (List.mem_append_right _ (List.mem_of_getElem? (i := 13) (by decide +kernel))) (by decide +kernel)
theorem mw_404 : Cond.instanceMethod (⟨"WayTableModel", "<init>", "()V"⟩ : MethodName) ∈ T0 := T0_in (List.mem_append_right _ (List.mem_of_getElem? (i := 321) (by decide +kernel))) (by decide +kernel)
theorem mw_405 : Cond.code (⟨"WayTableModel", "<init>", "()V"⟩ : MethodName) prog_5_method_1_code 2 (Option.none : Option Jvm.ClassFile.FieldType) ∈ T0 := T0_in (List.mem_append_right _ (List.mem_of_getElem? (i := 322) (by decide +kernel))) (by decide +kernel)
theorem ms_A_fill2 : Ms y_A_fill2 b_A_fill2 4 none 2 := ⟨mw_174, mw_173, mw_172, by decide, by decide, by decide +kernel⟩
theorem mv_G_clear : Mv y_G_clear b_G_clear 3 none 2 := ⟨mw_176, mw_177, mw_126, mw_175, by decide, by decide, by decide +kernel⟩
theorem mv_W_begin : Mv y_W_begin b_W_begin 3 (some .boolean) 2 := ⟨mw_179, mw_180, mw_167, mw_178, by decide, by decide, by decide +kernel⟩
theorem mv_M_begin : Mv y_M_begin b_M_begin 4 (some .boolean) 2 := ⟨mw_182, mw_183, mw_170, mw_181, by decide, by decide, by decide +kernel⟩
theorem mv_G_hasNode : Mv y_G_hasNode b_G_hasNode 2 (some .boolean) 1 := ⟨mw_185, mw_186, mw_126, mw_184, by decide, by decide, by decide +kernel⟩
theorem mv_G_hasLetter : Mv y_G_hasLetter b_G_hasLetter 2 (some .boolean) 1 := ⟨mw_188, mw_189, mw_126, mw_187, by decide, by decide, by decide +kernel⟩
theorem mv_G_canHold : Mv y_G_canHold b_G_canHold 4 (some .boolean) 3 := ⟨mw_191, mw_192, mw_126, mw_190, by decide, by decide, by decide +kernel⟩
theorem ms_G_place : Ms y_G_place b_G_place 2 (some .int) 2 := ⟨mw_194, mw_126, mw_193, by decide, by decide, by decide +kernel⟩
theorem mv_G_holds : Mv y_G_holds b_G_holds 4 (some .boolean) 3 := ⟨mw_196, mw_197, mw_126, mw_195, by decide, by decide, by decide +kernel⟩
theorem mv_G_flip : Mv y_G_flip b_G_flip 4 none 3 := ⟨mw_199, mw_200, mw_126, mw_198, by decide, by decide, by decide +kernel⟩
theorem mv_W_way : Mv y_W_way b_W_way 5 (some .boolean) 4 := ⟨mw_202, mw_203, mw_167, mw_201, by decide, by decide, by decide +kernel⟩
theorem mv_M_isNode : Mv y_M_isNode b_M_isNode 2 (some .boolean) 1 := ⟨mw_205, mw_206, mw_170, mw_204, by decide, by decide, by decide +kernel⟩
theorem mv_M_isLetter : Mv y_M_isLetter b_M_isLetter 2 (some .boolean) 1 := ⟨mw_208, mw_209, mw_170, mw_207, by decide, by decide, by decide +kernel⟩
theorem mv_M_is : Mv y_M_is b_M_is 4 (some .boolean) 3 := ⟨mw_211, mw_212, mw_170, mw_210, by decide, by decide, by decide +kernel⟩
theorem mv_M_way : Mv y_M_way b_M_way 5 (some .boolean) 4 := ⟨mw_214, mw_215, mw_170, mw_213, by decide, by decide, by decide +kernel⟩
theorem mv_W_fill : Mv y_W_fill b_W_fill 5 (some .int) 2 := ⟨mw_217, mw_218, mw_167, mw_216, by decide, by decide, by decide +kernel⟩
theorem mv_M_fill : Mv y_M_fill b_M_fill 5 (some .int) 2 := ⟨mw_220, mw_221, mw_170, mw_219, by decide, by decide, by decide +kernel⟩
theorem mv_G_transpose : Mv y_G_transpose b_G_transpose 4 none 1 := ⟨mw_223, mw_224, mw_126, mw_222, by decide, by decide, by decide +kernel⟩
theorem mv_W_turn : Mv y_W_turn b_W_turn 2 none 0 := ⟨mw_226, mw_227, mw_167, mw_225, by decide, by decide, by decide +kernel⟩
theorem mv_M_turn : Mv y_M_turn b_M_turn 6 none 0 := ⟨mw_229, mw_230, mw_170, mw_228, by decide, by decide, by decide +kernel⟩
theorem mv_W_start : Mv y_W_start b_W_start 2 (some .boolean) 1 := ⟨mw_232, mw_233, mw_167, mw_231, by decide, by decide, by decide +kernel⟩
theorem mv_M_start : Mv y_M_start b_M_start 2 (some .boolean) 1 := ⟨mw_235, mw_236, mw_170, mw_234, by decide, by decide, by decide +kernel⟩
theorem mv_G_reach : Mv y_G_reach b_G_reach 5 (some .int) 2 := ⟨mw_238, mw_239, mw_126, mw_237, by decide, by decide, by decide +kernel⟩
theorem ms_T_indexOf : Ms y_T_indexOf b_T_indexOf 4 (some .int) 3 := ⟨mw_241, mw_130, mw_240, by decide, by decide, by decide +kernel⟩
theorem mv_T_findSets : Mv y_T_findSets b_T_findSets 6 (some .int) 1 := ⟨mw_243, mw_244, mw_130, mw_242, by decide, by decide, by decide +kernel⟩
theorem mv_T_laySteps : Mv y_T_laySteps b_T_laySteps 5 none 1 := ⟨mw_246, mw_247, mw_130, mw_245, by decide, by decide, by decide +kernel⟩
theorem ms_A_rangeCheck3 : Ms y_A_rangeCheck3 b_A_rangeCheck3 3 none 3 := ⟨mw_249, mw_173, mw_248, by decide, by decide, by decide +kernel⟩
theorem ms_A_fill4 : Ms y_A_fill4 b_A_fill4 5 none 4 := ⟨mw_251, mw_173, mw_250, by decide, by decide, by decide +kernel⟩
theorem mv_T_leaderAfter : Mv y_T_leaderAfter b_T_leaderAfter 5 (some .int) 3 := ⟨mw_253, mw_254, mw_130, mw_252, by decide, by decide, by decide +kernel⟩
theorem mv_T_goAlike : Mv y_T_goAlike b_T_goAlike 4 (some .boolean) 2 := ⟨mw_256, mw_257, mw_130, mw_255, by decide, by decide, by decide +kernel⟩
theorem mv_T_findLeader : Mv y_T_findLeader b_T_findLeader 4 (some .int) 1 := ⟨mw_259, mw_260, mw_130, mw_258, by decide, by decide, by decide +kernel⟩
theorem ms_T_pair : Ms y_T_pair b_T_pair 3 (some .int) 2 := ⟨mw_262, mw_130, mw_261, by decide, by decide, by decide +kernel⟩
theorem mv_T_measure : Mv y_T_measure b_T_measure 5 none 2 := ⟨mw_264, mw_265, mw_130, mw_263, by decide, by decide, by decide +kernel⟩
theorem mv_T_partOnce : Mv y_T_partOnce b_T_partOnce 4 (some .boolean) 1 := ⟨mw_267, mw_268, mw_130, mw_266, by decide, by decide, by decide +kernel⟩
theorem mv_T_partSets : Mv y_T_partSets b_T_partSets 2 none 0 := ⟨mw_270, mw_271, mw_130, mw_269, by decide, by decide, by decide +kernel⟩
theorem mv_T_numberState : Mv y_T_numberState b_T_numberState 2 none 1 := ⟨mw_273, mw_274, mw_130, mw_272, by decide, by decide, by decide +kernel⟩
theorem mv_T_numberStates : Mv y_T_numberStates b_T_numberStates 4 none 0 := ⟨mw_276, mw_277, mw_130, mw_275, by decide, by decide, by decide +kernel⟩
theorem mv_T_build : Mv y_T_build b_T_build 3 (some .boolean) 1 := ⟨mw_279, mw_280, mw_130, mw_278, by decide, by decide, by decide +kernel⟩
theorem mv_W_make : Mv y_W_make b_W_make 1 (some .int) 0 := ⟨mw_282, mw_283, mw_167, mw_281, by decide, by decide, by decide +kernel⟩
theorem mv_M_led : Mv y_M_led b_M_led 5 (some .int) 2 := ⟨mw_285, mw_286, mw_170, mw_284, by decide, by decide, by decide +kernel⟩
theorem mv_M_follow : Mv y_M_follow b_M_follow 6 (some .int) 0 := ⟨mw_288, mw_289, mw_170, mw_287, by decide, by decide, by decide +kernel⟩
theorem mv_M_tell : Mv y_M_tell b_M_tell 9 (some .boolean) 1 := ⟨mw_291, mw_292, mw_170, mw_290, by decide, by decide, by decide +kernel⟩
theorem mv_M_leastLike : Mv y_M_leastLike b_M_leastLike 3 (some .int) 1 := ⟨mw_294, mw_295, mw_170, mw_293, by decide, by decide, by decide +kernel⟩
theorem mv_M_make : Mv y_M_make b_M_make 7 (some .int) 0 := ⟨mw_297, mw_298, mw_170, mw_296, by decide, by decide, by decide +kernel⟩
theorem mv_W_home : Mv y_W_home b_W_home 1 none 0 := ⟨mw_300, mw_301, mw_167, mw_299, by decide, by decide, by decide +kernel⟩
theorem mv_M_home : Mv y_M_home b_M_home 1 none 0 := ⟨mw_303, mw_304, mw_170, mw_302, by decide, by decide, by decide +kernel⟩
theorem mv_T_hasState : Mv y_T_hasState b_T_hasState 2 (some .boolean) 1 := ⟨mw_306, mw_307, mw_130, mw_305, by decide, by decide, by decide +kernel⟩
theorem mv_T_hasLetter : Mv y_T_hasLetter b_T_hasLetter 2 (some .boolean) 1 := ⟨mw_309, mw_310, mw_130, mw_308, by decide, by decide, by decide +kernel⟩
theorem mv_T_stateAfter : Mv y_T_stateAfter b_T_stateAfter 4 (some .int) 2 := ⟨mw_312, mw_313, mw_130, mw_311, by decide, by decide, by decide +kernel⟩
theorem mv_W_to : Mv y_W_to b_W_to 3 (some .int) 2 := ⟨mw_315, mw_316, mw_167, mw_314, by decide, by decide, by decide +kernel⟩
theorem mv_W_go : Mv y_W_go b_W_go 3 (some .int) 1 := ⟨mw_318, mw_319, mw_167, mw_317, by decide, by decide, by decide +kernel⟩
theorem mv_M_next : Mv y_M_next b_M_next 4 (some .int) 2 := ⟨mw_321, mw_322, mw_170, mw_320, by decide, by decide, by decide +kernel⟩
theorem mv_M_go : Mv y_M_go b_M_go 3 (some .int) 1 := ⟨mw_324, mw_325, mw_170, mw_323, by decide, by decide, by decide +kernel⟩
theorem mv_M_isState : Mv y_M_isState b_M_isState 2 (some .boolean) 1 := ⟨mw_327, mw_328, mw_170, mw_326, by decide, by decide, by decide +kernel⟩
theorem mv_M_to : Mv y_M_to b_M_to 3 (some .int) 2 := ⟨mw_330, mw_331, mw_170, mw_329, by decide, by decide, by decide +kernel⟩
theorem mv_T_hasSet : Mv y_T_hasSet b_T_hasSet 2 (some .boolean) 1 := ⟨mw_333, mw_334, mw_130, mw_332, by decide, by decide, by decide +kernel⟩
theorem mv_W_nodes : Mv y_W_nodes b_W_nodes 2 (some .int) 1 := ⟨mw_336, mw_337, mw_167, mw_335, by decide, by decide, by decide +kernel⟩
theorem mv_M_nodes : Mv y_M_nodes b_M_nodes 2 (some .int) 1 := ⟨mw_339, mw_340, mw_170, mw_338, by decide, by decide, by decide +kernel⟩
theorem mv_W_state : Mv y_W_state b_W_state 2 (some .int) 1 := ⟨mw_342, mw_343, mw_167, mw_341, by decide, by decide, by decide +kernel⟩
theorem mv_M_state : Mv y_M_state b_M_state 2 (some .int) 1 := ⟨mw_345, mw_346, mw_170, mw_344, by decide, by decide, by decide +kernel⟩
theorem mv_T_rowLength : Mv y_T_rowLength b_T_rowLength 3 (some .int) 2 := ⟨mw_348, mw_349, mw_130, mw_347, by decide, by decide, by decide +kernel⟩
theorem mv_W_apart : Mv y_W_apart b_W_apart 3 (some .int) 2 := ⟨mw_351, mw_352, mw_167, mw_350, by decide, by decide, by decide +kernel⟩
theorem mv_M_apart : Mv y_M_apart b_M_apart 3 (some .int) 2 := ⟨mw_354, mw_355, mw_170, mw_353, by decide, by decide, by decide +kernel⟩
theorem mv_T_lengthBehind : Mv y_T_lengthBehind b_T_lengthBehind 3 (some .int) 2 := ⟨mw_357, mw_358, mw_130, mw_356, by decide, by decide, by decide +kernel⟩
theorem mv_T_leastLetter : Mv y_T_leastLetter b_T_leastLetter 7 (some .int) 3 := ⟨mw_360, mw_361, mw_130, mw_359, by decide, by decide, by decide +kernel⟩
theorem mv_T_rowLetter : Mv y_T_rowLetter b_T_rowLetter 9 (some .int) 3 := ⟨mw_363, mw_364, mw_130, mw_362, by decide, by decide, by decide +kernel⟩
theorem mv_W_apartBy : Mv y_W_apartBy b_W_apartBy 4 (some .int) 3 := ⟨mw_366, mw_367, mw_167, mw_365, by decide, by decide, by decide +kernel⟩
theorem mv_M_apartBy : Mv y_M_apartBy b_M_apartBy 8 (some .int) 3 := ⟨mw_369, mw_370, mw_170, mw_368, by decide, by decide, by decide +kernel⟩
theorem mv_W_is : Mv y_W_is b_W_is 4 (some .boolean) 3 := ⟨mw_372, mw_373, mw_167, mw_371, by decide, by decide, by decide +kernel⟩
theorem ms_I_bitCount1 : Ms y_I_bitCount1 b_I_bitCount1 1 (some .int) 1 := ⟨mw_376, mw_375, mw_374, by decide, by decide, by decide +kernel⟩
theorem mv_G_countWays : Mv y_G_countWays b_G_countWays 3 (some .int) 0 := ⟨mw_378, mw_379, mw_126, mw_377, by decide, by decide, by decide +kernel⟩
theorem mv_T_countGoing : Mv y_T_countGoing b_T_countGoing 4 (some .int) 0 := ⟨mw_381, mw_382, mw_130, mw_380, by decide, by decide, by decide +kernel⟩
theorem mv_W_look : Mv y_W_look b_W_look 2 (some .int) 1 := ⟨mw_384, mw_385, mw_167, mw_383, by decide, by decide, by decide +kernel⟩
theorem mv_M_wayMany : Mv y_M_wayMany b_M_wayMany 4 (some .int) 0 := ⟨mw_387, mw_388, mw_170, mw_386, by decide, by decide, by decide +kernel⟩
theorem mv_M_somewhere : Mv y_M_somewhere b_M_somewhere 4 (some .int) 0 := ⟨mw_390, mw_391, mw_170, mw_389, by decide, by decide, by decide +kernel⟩
theorem mv_M_longest : Mv y_M_longest b_M_longest 5 (some .int) 0 := ⟨mw_393, mw_394, mw_170, mw_392, by decide, by decide, by decide +kernel⟩
theorem mv_M_look : Mv y_M_look b_M_look 2 (some .int) 1 := ⟨mw_396, mw_397, mw_170, mw_395, by decide, by decide, by decide +kernel⟩
theorem mk_G_init : Mk y_G_init b_G_init 1 := ⟨mw_398, mw_126, mw_399, rfl, by decide, by decide, by decide +kernel⟩
theorem mk_T_init : Mk y_T_init b_T_init 1 := ⟨mw_400, mw_130, mw_401, rfl, by decide, by decide, by decide +kernel⟩
theorem mk_W_init : Mk y_W_init b_W_init 1 := ⟨mw_402, mw_167, mw_403, rfl, by decide, by decide, by decide +kernel⟩
theorem mk_M_init : Mk y_M_init b_M_init 2 := ⟨mw_404, mw_170, mw_405, rfl, by decide, by decide, by decide +kernel⟩
end
