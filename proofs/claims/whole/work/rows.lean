section
-- ===== PART A: goes FIRST, ahead of the names: the tables' words, and 'selects' of the private methods out of them =====
/-- a private method of a class that the tables say can be made, by its rows of tables_1 -/
def lw_okq (q : MethodName × Nat) : Prop := (q.1.cls ≠ "java/lang/invoke/MethodHandle" ∧ q.1.cls ≠ "java/lang/invoke/VarHandle") ∧ Cond.instantiable q.1.cls q.2 ∈ tables_1 ∧ Cond.privateMethod q.1 ∈ tables_1 ∧ Cond.instanceMethod q.1 ∈ tables_1
theorem lw_p0 : lw_okq (⟨"WayTable$Graph", "clear", "(II)V"⟩, 4) := ⟨⟨by decide +kernel, by decide +kernel⟩, List.mem_of_getElem? (i := 18) (by decide +kernel), List.mem_of_getElem? (i := 106) (by decide +kernel), List.mem_of_getElem? (i := 107) (by decide +kernel)⟩
theorem lw_p1 : lw_okq (⟨"WayTable$Graph", "canHold", "(III)Z"⟩, 4) := ⟨⟨by decide +kernel, by decide +kernel⟩, List.mem_of_getElem? (i := 18) (by decide +kernel), List.mem_of_getElem? (i := 117) (by decide +kernel), List.mem_of_getElem? (i := 118) (by decide +kernel)⟩
theorem lw_p2 : lw_okq (⟨"WayTable$Graph", "hasNode", "(I)Z"⟩, 4) := ⟨⟨by decide +kernel, by decide +kernel⟩, List.mem_of_getElem? (i := 18) (by decide +kernel), List.mem_of_getElem? (i := 121) (by decide +kernel), List.mem_of_getElem? (i := 122) (by decide +kernel)⟩
theorem lw_p3 : lw_okq (⟨"WayTable$Graph", "hasLetter", "(I)Z"⟩, 4) := ⟨⟨by decide +kernel, by decide +kernel⟩, List.mem_of_getElem? (i := 18) (by decide +kernel), List.mem_of_getElem? (i := 125) (by decide +kernel), List.mem_of_getElem? (i := 126) (by decide +kernel)⟩
theorem lw_p4 : lw_okq (⟨"WayTable$Graph", "holds", "(III)Z"⟩, 4) := ⟨⟨by decide +kernel, by decide +kernel⟩, List.mem_of_getElem? (i := 18) (by decide +kernel), List.mem_of_getElem? (i := 129) (by decide +kernel), List.mem_of_getElem? (i := 130) (by decide +kernel)⟩
theorem lw_p5 : lw_okq (⟨"WayTable$Graph", "flip", "(III)V"⟩, 4) := ⟨⟨by decide +kernel, by decide +kernel⟩, List.mem_of_getElem? (i := 18) (by decide +kernel), List.mem_of_getElem? (i := 136) (by decide +kernel), List.mem_of_getElem? (i := 137) (by decide +kernel)⟩
theorem lw_p6 : lw_okq (⟨"WayTable$Graph", "transpose", "(I)V"⟩, 4) := ⟨⟨by decide +kernel, by decide +kernel⟩, List.mem_of_getElem? (i := 18) (by decide +kernel), List.mem_of_getElem? (i := 150) (by decide +kernel), List.mem_of_getElem? (i := 151) (by decide +kernel)⟩
theorem lw_p7 : lw_okq (⟨"WayTable$Table", "build", "(LWayTable$Graph;)Z"⟩, 12) := ⟨⟨by decide +kernel, by decide +kernel⟩, List.mem_of_getElem? (i := 43) (by decide +kernel), List.mem_of_getElem? (i := 164) (by decide +kernel), List.mem_of_getElem? (i := 165) (by decide +kernel)⟩
theorem lw_p8 : lw_okq (⟨"WayTable$Table", "findSets", "(LWayTable$Graph;)I"⟩, 12) := ⟨⟨by decide +kernel, by decide +kernel⟩, List.mem_of_getElem? (i := 43) (by decide +kernel), List.mem_of_getElem? (i := 168) (by decide +kernel), List.mem_of_getElem? (i := 169) (by decide +kernel)⟩
theorem lw_p9 : lw_okq (⟨"WayTable$Graph", "reach", "(II)I"⟩, 4) := ⟨⟨by decide +kernel, by decide +kernel⟩, List.mem_of_getElem? (i := 18) (by decide +kernel), List.mem_of_getElem? (i := 172) (by decide +kernel), List.mem_of_getElem? (i := 173) (by decide +kernel)⟩
theorem lw_p10 : lw_okq (⟨"WayTable$Table", "laySteps", "(LWayTable$Graph;)V"⟩, 12) := ⟨⟨by decide +kernel, by decide +kernel⟩, List.mem_of_getElem? (i := 43) (by decide +kernel), List.mem_of_getElem? (i := 182) (by decide +kernel), List.mem_of_getElem? (i := 183) (by decide +kernel)⟩
theorem lw_p11 : lw_okq (⟨"WayTable$Table", "partSets", "()V"⟩, 12) := ⟨⟨by decide +kernel, by decide +kernel⟩, List.mem_of_getElem? (i := 43) (by decide +kernel), List.mem_of_getElem? (i := 186) (by decide +kernel), List.mem_of_getElem? (i := 187) (by decide +kernel)⟩
theorem lw_p12 : lw_okq (⟨"WayTable$Table", "partOnce", "(I)Z"⟩, 12) := ⟨⟨by decide +kernel, by decide +kernel⟩, List.mem_of_getElem? (i := 43) (by decide +kernel), List.mem_of_getElem? (i := 196) (by decide +kernel), List.mem_of_getElem? (i := 197) (by decide +kernel)⟩
theorem lw_p13 : lw_okq (⟨"WayTable$Table", "findLeader", "(I)I"⟩, 12) := ⟨⟨by decide +kernel, by decide +kernel⟩, List.mem_of_getElem? (i := 43) (by decide +kernel), List.mem_of_getElem? (i := 200) (by decide +kernel), List.mem_of_getElem? (i := 201) (by decide +kernel)⟩
theorem lw_p14 : lw_okq (⟨"WayTable$Table", "goAlike", "(II)Z"⟩, 12) := ⟨⟨by decide +kernel, by decide +kernel⟩, List.mem_of_getElem? (i := 43) (by decide +kernel), List.mem_of_getElem? (i := 204) (by decide +kernel), List.mem_of_getElem? (i := 205) (by decide +kernel)⟩
theorem lw_p15 : lw_okq (⟨"WayTable$Table", "leaderAfter", "([III)I"⟩, 12) := ⟨⟨by decide +kernel, by decide +kernel⟩, List.mem_of_getElem? (i := 43) (by decide +kernel), List.mem_of_getElem? (i := 208) (by decide +kernel), List.mem_of_getElem? (i := 209) (by decide +kernel)⟩
def lw_privs_1 : List (MethodName × Nat) := [(⟨"WayTable$Graph", "clear", "(II)V"⟩, 4), (⟨"WayTable$Graph", "canHold", "(III)Z"⟩, 4), (⟨"WayTable$Graph", "hasNode", "(I)Z"⟩, 4), (⟨"WayTable$Graph", "hasLetter", "(I)Z"⟩, 4), (⟨"WayTable$Graph", "holds", "(III)Z"⟩, 4), (⟨"WayTable$Graph", "flip", "(III)V"⟩, 4), (⟨"WayTable$Graph", "transpose", "(I)V"⟩, 4), (⟨"WayTable$Table", "build", "(LWayTable$Graph;)Z"⟩, 12), (⟨"WayTable$Table", "findSets", "(LWayTable$Graph;)I"⟩, 12), (⟨"WayTable$Graph", "reach", "(II)I"⟩, 4), (⟨"WayTable$Table", "laySteps", "(LWayTable$Graph;)V"⟩, 12), (⟨"WayTable$Table", "partSets", "()V"⟩, 12), (⟨"WayTable$Table", "partOnce", "(I)Z"⟩, 12), (⟨"WayTable$Table", "findLeader", "(I)I"⟩, 12), (⟨"WayTable$Table", "goAlike", "(II)Z"⟩, 12), (⟨"WayTable$Table", "leaderAfter", "([III)I"⟩, 12)]
theorem lw_r1 : ∀ q ∈ lw_privs_1, lw_okq q := List.forall_mem_cons.mpr ⟨lw_p0, List.forall_mem_cons.mpr ⟨lw_p1, List.forall_mem_cons.mpr ⟨lw_p2, List.forall_mem_cons.mpr ⟨lw_p3, List.forall_mem_cons.mpr ⟨lw_p4, List.forall_mem_cons.mpr ⟨lw_p5, List.forall_mem_cons.mpr ⟨lw_p6, List.forall_mem_cons.mpr ⟨lw_p7, List.forall_mem_cons.mpr ⟨lw_p8, List.forall_mem_cons.mpr ⟨lw_p9, List.forall_mem_cons.mpr ⟨lw_p10, List.forall_mem_cons.mpr ⟨lw_p11, List.forall_mem_cons.mpr ⟨lw_p12, List.forall_mem_cons.mpr ⟨lw_p13, List.forall_mem_cons.mpr ⟨lw_p14, List.forall_mem_cons.mpr ⟨lw_p15, fun _ h => absurd h List.not_mem_nil⟩⟩⟩⟩⟩⟩⟩⟩⟩⟩⟩⟩⟩⟩⟩⟩
theorem lw_p16 : lw_okq (⟨"WayTable$Table", "measure", "(II)V"⟩, 12) := ⟨⟨by decide +kernel, by decide +kernel⟩, List.mem_of_getElem? (i := 43) (by decide +kernel), List.mem_of_getElem? (i := 212) (by decide +kernel), List.mem_of_getElem? (i := 213) (by decide +kernel)⟩
theorem lw_p17 : lw_okq (⟨"WayTable$Table", "numberStates", "()V"⟩, 12) := ⟨⟨by decide +kernel, by decide +kernel⟩, List.mem_of_getElem? (i := 43) (by decide +kernel), List.mem_of_getElem? (i := 225) (by decide +kernel), List.mem_of_getElem? (i := 226) (by decide +kernel)⟩
theorem lw_p18 : lw_okq (⟨"WayTable$Table", "numberState", "(I)V"⟩, 12) := ⟨⟨by decide +kernel, by decide +kernel⟩, List.mem_of_getElem? (i := 43) (by decide +kernel), List.mem_of_getElem? (i := 229) (by decide +kernel), List.mem_of_getElem? (i := 230) (by decide +kernel)⟩
theorem lw_p19 : lw_okq (⟨"WayTable$Table", "hasState", "(I)Z"⟩, 12) := ⟨⟨by decide +kernel, by decide +kernel⟩, List.mem_of_getElem? (i := 43) (by decide +kernel), List.mem_of_getElem? (i := 245) (by decide +kernel), List.mem_of_getElem? (i := 246) (by decide +kernel)⟩
theorem lw_p20 : lw_okq (⟨"WayTable$Table", "hasLetter", "(I)Z"⟩, 12) := ⟨⟨by decide +kernel, by decide +kernel⟩, List.mem_of_getElem? (i := 43) (by decide +kernel), List.mem_of_getElem? (i := 249) (by decide +kernel), List.mem_of_getElem? (i := 250) (by decide +kernel)⟩
theorem lw_p21 : lw_okq (⟨"WayTable$Table", "stateAfter", "(II)I"⟩, 12) := ⟨⟨by decide +kernel, by decide +kernel⟩, List.mem_of_getElem? (i := 43) (by decide +kernel), List.mem_of_getElem? (i := 253) (by decide +kernel), List.mem_of_getElem? (i := 254) (by decide +kernel)⟩
theorem lw_p22 : lw_okq (⟨"WayTable$Table", "hasSet", "(I)Z"⟩, 12) := ⟨⟨by decide +kernel, by decide +kernel⟩, List.mem_of_getElem? (i := 43) (by decide +kernel), List.mem_of_getElem? (i := 262) (by decide +kernel), List.mem_of_getElem? (i := 263) (by decide +kernel)⟩
theorem lw_p23 : lw_okq (⟨"WayTable$Table", "rowLength", "(II)I"⟩, 12) := ⟨⟨by decide +kernel, by decide +kernel⟩, List.mem_of_getElem? (i := 43) (by decide +kernel), List.mem_of_getElem? (i := 274) (by decide +kernel), List.mem_of_getElem? (i := 275) (by decide +kernel)⟩
theorem lw_p24 : lw_okq (⟨"WayTable$Table", "rowLetter", "(III)I"⟩, 12) := ⟨⟨by decide +kernel, by decide +kernel⟩, List.mem_of_getElem? (i := 43) (by decide +kernel), List.mem_of_getElem? (i := 283) (by decide +kernel), List.mem_of_getElem? (i := 284) (by decide +kernel)⟩
theorem lw_p25 : lw_okq (⟨"WayTable$Table", "leastLetter", "(III)I"⟩, 12) := ⟨⟨by decide +kernel, by decide +kernel⟩, List.mem_of_getElem? (i := 43) (by decide +kernel), List.mem_of_getElem? (i := 288) (by decide +kernel), List.mem_of_getElem? (i := 289) (by decide +kernel)⟩
theorem lw_p26 : lw_okq (⟨"WayTable$Table", "lengthBehind", "(II)I"⟩, 12) := ⟨⟨by decide +kernel, by decide +kernel⟩, List.mem_of_getElem? (i := 43) (by decide +kernel), List.mem_of_getElem? (i := 292) (by decide +kernel), List.mem_of_getElem? (i := 293) (by decide +kernel)⟩
theorem lw_p27 : lw_okq (⟨"WayTable$Graph", "countWays", "()I"⟩, 4) := ⟨⟨by decide +kernel, by decide +kernel⟩, List.mem_of_getElem? (i := 18) (by decide +kernel), List.mem_of_getElem? (i := 304) (by decide +kernel), List.mem_of_getElem? (i := 305) (by decide +kernel)⟩
theorem lw_p28 : lw_okq (⟨"WayTable$Table", "countGoing", "()I"⟩, 12) := ⟨⟨by decide +kernel, by decide +kernel⟩, List.mem_of_getElem? (i := 43) (by decide +kernel), List.mem_of_getElem? (i := 314) (by decide +kernel), List.mem_of_getElem? (i := 315) (by decide +kernel)⟩
theorem lw_p29 : lw_okq (⟨"WayTableModel", "follow", "()I"⟩, 17) := ⟨⟨by decide +kernel, by decide +kernel⟩, List.mem_of_getElem? (i := 319) (by decide +kernel), List.mem_of_getElem? (i := 329) (by decide +kernel), List.mem_of_getElem? (i := 330) (by decide +kernel)⟩
theorem lw_p30 : lw_okq (⟨"WayTableModel", "led", "(II)I"⟩, 17) := ⟨⟨by decide +kernel, by decide +kernel⟩, List.mem_of_getElem? (i := 319) (by decide +kernel), List.mem_of_getElem? (i := 333) (by decide +kernel), List.mem_of_getElem? (i := 334) (by decide +kernel)⟩
theorem lw_p31 : lw_okq (⟨"WayTableModel", "tell", "(I)Z"⟩, 17) := ⟨⟨by decide +kernel, by decide +kernel⟩, List.mem_of_getElem? (i := 319) (by decide +kernel), List.mem_of_getElem? (i := 337) (by decide +kernel), List.mem_of_getElem? (i := 338) (by decide +kernel)⟩
def lw_privs_2 : List (MethodName × Nat) := [(⟨"WayTable$Table", "measure", "(II)V"⟩, 12), (⟨"WayTable$Table", "numberStates", "()V"⟩, 12), (⟨"WayTable$Table", "numberState", "(I)V"⟩, 12), (⟨"WayTable$Table", "hasState", "(I)Z"⟩, 12), (⟨"WayTable$Table", "hasLetter", "(I)Z"⟩, 12), (⟨"WayTable$Table", "stateAfter", "(II)I"⟩, 12), (⟨"WayTable$Table", "hasSet", "(I)Z"⟩, 12), (⟨"WayTable$Table", "rowLength", "(II)I"⟩, 12), (⟨"WayTable$Table", "rowLetter", "(III)I"⟩, 12), (⟨"WayTable$Table", "leastLetter", "(III)I"⟩, 12), (⟨"WayTable$Table", "lengthBehind", "(II)I"⟩, 12), (⟨"WayTable$Graph", "countWays", "()I"⟩, 4), (⟨"WayTable$Table", "countGoing", "()I"⟩, 12), (⟨"WayTableModel", "follow", "()I"⟩, 17), (⟨"WayTableModel", "led", "(II)I"⟩, 17), (⟨"WayTableModel", "tell", "(I)Z"⟩, 17)]
theorem lw_r2 : ∀ q ∈ lw_privs_2, lw_okq q := List.forall_mem_cons.mpr ⟨lw_p16, List.forall_mem_cons.mpr ⟨lw_p17, List.forall_mem_cons.mpr ⟨lw_p18, List.forall_mem_cons.mpr ⟨lw_p19, List.forall_mem_cons.mpr ⟨lw_p20, List.forall_mem_cons.mpr ⟨lw_p21, List.forall_mem_cons.mpr ⟨lw_p22, List.forall_mem_cons.mpr ⟨lw_p23, List.forall_mem_cons.mpr ⟨lw_p24, List.forall_mem_cons.mpr ⟨lw_p25, List.forall_mem_cons.mpr ⟨lw_p26, List.forall_mem_cons.mpr ⟨lw_p27, List.forall_mem_cons.mpr ⟨lw_p28, List.forall_mem_cons.mpr ⟨lw_p29, List.forall_mem_cons.mpr ⟨lw_p30, List.forall_mem_cons.mpr ⟨lw_p31, fun _ h => absurd h List.not_mem_nil⟩⟩⟩⟩⟩⟩⟩⟩⟩⟩⟩⟩⟩⟩⟩⟩
theorem lw_p32 : lw_okq (⟨"WayTableModel", "leastLike", "(I)I"⟩, 17) := ⟨⟨by decide +kernel, by decide +kernel⟩, List.mem_of_getElem? (i := 319) (by decide +kernel), List.mem_of_getElem? (i := 341) (by decide +kernel), List.mem_of_getElem? (i := 342) (by decide +kernel)⟩
theorem lw_p33 : lw_okq (⟨"WayTableModel", "isNode", "(I)Z"⟩, 17) := ⟨⟨by decide +kernel, by decide +kernel⟩, List.mem_of_getElem? (i := 319) (by decide +kernel), List.mem_of_getElem? (i := 405) (by decide +kernel), List.mem_of_getElem? (i := 406) (by decide +kernel)⟩
theorem lw_p34 : lw_okq (⟨"WayTableModel", "isLetter", "(I)Z"⟩, 17) := ⟨⟨by decide +kernel, by decide +kernel⟩, List.mem_of_getElem? (i := 319) (by decide +kernel), List.mem_of_getElem? (i := 409) (by decide +kernel), List.mem_of_getElem? (i := 410) (by decide +kernel)⟩
theorem lw_p35 : lw_okq (⟨"WayTableModel", "next", "(II)I"⟩, 17) := ⟨⟨by decide +kernel, by decide +kernel⟩, List.mem_of_getElem? (i := 319) (by decide +kernel), List.mem_of_getElem? (i := 440) (by decide +kernel), List.mem_of_getElem? (i := 441) (by decide +kernel)⟩
theorem lw_p36 : lw_okq (⟨"WayTableModel", "isState", "(I)Z"⟩, 17) := ⟨⟨by decide +kernel, by decide +kernel⟩, List.mem_of_getElem? (i := 319) (by decide +kernel), List.mem_of_getElem? (i := 448) (by decide +kernel), List.mem_of_getElem? (i := 449) (by decide +kernel)⟩
theorem lw_p37 : lw_okq (⟨"WayTableModel", "wayMany", "()I"⟩, 17) := ⟨⟨by decide +kernel, by decide +kernel⟩, List.mem_of_getElem? (i := 319) (by decide +kernel), List.mem_of_getElem? (i := 472) (by decide +kernel), List.mem_of_getElem? (i := 473) (by decide +kernel)⟩
theorem lw_p38 : lw_okq (⟨"WayTableModel", "somewhere", "()I"⟩, 17) := ⟨⟨by decide +kernel, by decide +kernel⟩, List.mem_of_getElem? (i := 319) (by decide +kernel), List.mem_of_getElem? (i := 476) (by decide +kernel), List.mem_of_getElem? (i := 477) (by decide +kernel)⟩
theorem lw_p39 : lw_okq (⟨"WayTableModel", "longest", "()I"⟩, 17) := ⟨⟨by decide +kernel, by decide +kernel⟩, List.mem_of_getElem? (i := 319) (by decide +kernel), List.mem_of_getElem? (i := 480) (by decide +kernel), List.mem_of_getElem? (i := 481) (by decide +kernel)⟩
def lw_privs_3 : List (MethodName × Nat) := [(⟨"WayTableModel", "leastLike", "(I)I"⟩, 17), (⟨"WayTableModel", "isNode", "(I)Z"⟩, 17), (⟨"WayTableModel", "isLetter", "(I)Z"⟩, 17), (⟨"WayTableModel", "next", "(II)I"⟩, 17), (⟨"WayTableModel", "isState", "(I)Z"⟩, 17), (⟨"WayTableModel", "wayMany", "()I"⟩, 17), (⟨"WayTableModel", "somewhere", "()I"⟩, 17), (⟨"WayTableModel", "longest", "()I"⟩, 17)]
theorem lw_r3 : ∀ q ∈ lw_privs_3, lw_okq q := List.forall_mem_cons.mpr ⟨lw_p32, List.forall_mem_cons.mpr ⟨lw_p33, List.forall_mem_cons.mpr ⟨lw_p34, List.forall_mem_cons.mpr ⟨lw_p35, List.forall_mem_cons.mpr ⟨lw_p36, List.forall_mem_cons.mpr ⟨lw_p37, List.forall_mem_cons.mpr ⟨lw_p38, List.forall_mem_cons.mpr ⟨lw_p39, fun _ h => absurd h List.not_mem_nil⟩⟩⟩⟩⟩⟩⟩⟩
def lw_privs : List (MethodName × Nat) := lw_privs_1 ++ (lw_privs_2 ++ (lw_privs_3))
def lw_tbl : List Cond := k2_sels lw_privs ++ tables_1
theorem lw_privs_ok : ∀ q ∈ lw_privs, lw_okq q := by
  show ∀ q ∈ lw_privs_1 ++ (lw_privs_2 ++ (lw_privs_3)), lw_okq q
  exact List.forall_mem_append.mpr ⟨lw_r1, List.forall_mem_append.mpr ⟨lw_r2, lw_r3⟩⟩
end
section
def R_W : String := "WayTable"
def F_W : u_T := fun k => match k with
  | 0 => ("WayTable", "graph", "LWayTable$Graph;", true)
  | 1 => ("WayTable", "table", "LWayTable$Table;", true)
  | _ => ("WayTable", "walk", "I", false)
def ty_W : Nat → FieldType := fun k => match k with
  | 0 => .object "WayTable$Graph"
  | 1 => .object "WayTable$Table"
  | _ => .int
def R_G : String := "WayTable$Graph"
def F_G : u_T := fun k => match k with
  | 0 => ("WayTable$Graph", "nodeCount", "I", false)
  | 1 => ("WayTable$Graph", "letterCount", "I", false)
  | 2 => ("WayTable$Graph", "startNode", "I", false)
  | _ => ("WayTable$Graph", "targets", "[I", true)
def ty_G : Nat → FieldType := fun k => match k with
  | 0 => .int
  | 1 => .int
  | 2 => .int
  | _ => .array .int
def R_T : String := "WayTable$Table"
def F_T : u_T := fun k => match k with
  | 0 => ("WayTable$Table", "letterCount", "I", false)
  | 1 => ("WayTable$Table", "setCount", "I", false)
  | 2 => ("WayTable$Table", "stateCount", "I", false)
  | 3 => ("WayTable$Table", "longestRow", "I", false)
  | 4 => ("WayTable$Table", "sets", "[I", true)
  | 5 => ("WayTable$Table", "found", "[I", true)
  | 6 => ("WayTable$Table", "steps", "[I", true)
  | 7 => ("WayTable$Table", "leaders", "[I", true)
  | 8 => ("WayTable$Table", "leadersBefore", "[I", true)
  | 9 => ("WayTable$Table", "stateOf", "[I", true)
  | 10 => ("WayTable$Table", "leaderOfState", "[I", true)
  | _ => ("WayTable$Table", "rowLengths", "[I", true)
def ty_T : Nat → FieldType := fun k => match k with
  | 0 => .int
  | 1 => .int
  | 2 => .int
  | 3 => .int
  | 4 => .array .int
  | 5 => .array .int
  | 6 => .array .int
  | 7 => .array .int
  | 8 => .array .int
  | 9 => .array .int
  | 10 => .array .int
  | _ => .array .int
def R_M : String := "WayTableModel"
def F_M : u_T := fun k => match k with
  | 0 => ("WayTableModel", "thrown", "I", false)
  | 1 => ("WayTableModel", "nodes", "I", false)
  | 2 => ("WayTableModel", "letters", "I", false)
  | 3 => ("WayTableModel", "start", "I", false)
  | 4 => ("WayTableModel", "ways", "[I", true)
  | 5 => ("WayTableModel", "setMany", "I", false)
  | 6 => ("WayTableModel", "tableLetters", "I", false)
  | 7 => ("WayTableModel", "sets", "[I", true)
  | 8 => ("WayTableModel", "goes", "[I", true)
  | 9 => ("WayTableModel", "lengths", "[I", true)
  | 10 => ("WayTableModel", "firsts", "[I", true)
  | 11 => ("WayTableModel", "stateOf", "[I", true)
  | 12 => ("WayTableModel", "setOf", "[I", true)
  | 13 => ("WayTableModel", "states", "I", false)
  | 14 => ("WayTableModel", "walk", "I", false)
  | 15 => ("WayTableModel", "newSets", "[I", true)
  | _ => ("WayTableModel", "newGoes", "[I", true)
def ty_M : Nat → FieldType := fun k => match k with
  | 0 => .int
  | 1 => .int
  | 2 => .int
  | 3 => .int
  | 4 => .array .int
  | 5 => .int
  | 6 => .int
  | 7 => .array .int
  | 8 => .array .int
  | 9 => .array .int
  | 10 => .array .int
  | 11 => .array .int
  | 12 => .array .int
  | 13 => .int
  | 14 => .int
  | 15 => .array .int
  | _ => .array .int
abbrev classes : List vw_C := [(R_W, F_W, 3), (R_G, F_G, 4), (R_T, F_T, 12), (R_M, F_M, 17)]
def wC (cI : ClassId) (q : Nat → Nat) (σ : (Nat → Int32) × (Nat → Nat → Int32)) : va_W := [(q 0, .inr (0, [.ref (q 1), .ref (q 3), .int (σ.1 0)])),
  (q 1, .inr (1, [.int (σ.1 1), .int (σ.1 2), .int (σ.1 3), .ref (q 2)])),
  (q 2, .inl (cI, 960, .inl (σ.2 0))),
  (q 3, .inr (2, [.int (σ.1 4), .int (σ.1 5), .int (σ.1 6), .int (σ.1 7), .ref (q 4), .ref (q 5), .ref (q 6), .ref (q 7), .ref (q 8), .ref (q 9), .ref (q 10), .ref (q 11)])),
  (q 4, .inl (cI, 120, .inl (σ.2 1))),
  (q 5, .inl (cI, 120, .inl (σ.2 2))),
  (q 6, .inl (cI, 4800, .inl (σ.2 3))),
  (q 7, .inl (cI, 120, .inl (σ.2 4))),
  (q 8, .inl (cI, 120, .inl (σ.2 5))),
  (q 9, .inl (cI, 120, .inl (σ.2 6))),
  (q 10, .inl (cI, 120, .inl (σ.2 7))),
  (q 11, .inl (cI, 7140, .inl (σ.2 8)))]
def wM (cI : ClassId) (q : Nat → Nat) (σ : (Nat → Int32) × (Nat → Nat → Int32)) : va_W := [(q 0, .inr (3, [.int (σ.1 0), .int (σ.1 1), .int (σ.1 2), .int (σ.1 3), .ref (q 1), .int (σ.1 4), .int (σ.1 5), .ref (q 2), .ref (q 3), .ref (q 4), .ref (q 5), .ref (q 6), .ref (q 7), .int (σ.1 6), .int (σ.1 7), .ref (q 8), .ref (q 9)])),
  (q 1, .inl (cI, 960, .inl (σ.2 0))),
  (q 2, .inl (cI, 120, .inl (σ.2 1))),
  (q 3, .inl (cI, 4800, .inl (σ.2 2))),
  (q 4, .inl (cI, 14400, .inl (σ.2 3))),
  (q 5, .inl (cI, 14400, .inl (σ.2 4))),
  (q 6, .inl (cI, 120, .inl (σ.2 5))),
  (q 7, .inl (cI, 120, .inl (σ.2 6))),
  (q 8, .inl (cI, 121, .inl (σ.2 7))),
  (q 9, .inl (cI, 4800, .inl (σ.2 8)))]
abbrev b_G_init : ByteArray := prog_2_method_1_code
def y_G_init : MethodName := ⟨"WayTable$Graph", "<init>", "()V"⟩
abbrev b_T_init : ByteArray := prog_3_method_1_code
def y_T_init : MethodName := ⟨"WayTable$Table", "<init>", "()V"⟩
abbrev b_W_init : ByteArray := prog_1_method_1_code
def y_W_init : MethodName := ⟨"WayTable", "<init>", "()V"⟩
abbrev b_M_init : ByteArray := prog_5_method_1_code
def y_M_init : MethodName := ⟨"WayTableModel", "<init>", "()V"⟩
abbrev b_A_fill2 : ByteArray := prog_9_method_103_code
def y_A_fill2 : MethodName := ⟨"java/util/Arrays", "fill", "([II)V"⟩
abbrev b_G_clear : ByteArray := prog_2_method_3_code
def y_G_clear : MethodName := ⟨"WayTable$Graph", "clear", "(II)V"⟩
abbrev b_W_begin : ByteArray := prog_1_method_2_code
def y_W_begin : MethodName := ⟨"WayTable", "begin", "(II)Z"⟩
abbrev b_M_begin : ByteArray := prog_5_method_5_code
def y_M_begin : MethodName := ⟨"WayTableModel", "begin", "(II)Z"⟩
abbrev b_G_hasNode : ByteArray := prog_2_method_4_code
def y_G_hasNode : MethodName := ⟨"WayTable$Graph", "hasNode", "(I)Z"⟩
abbrev b_G_hasLetter : ByteArray := prog_2_method_5_code
def y_G_hasLetter : MethodName := ⟨"WayTable$Graph", "hasLetter", "(I)Z"⟩
abbrev b_G_canHold : ByteArray := prog_2_method_6_code
def y_G_canHold : MethodName := ⟨"WayTable$Graph", "canHold", "(III)Z"⟩
abbrev b_G_place : ByteArray := prog_2_method_2_code
def y_G_place : MethodName := ⟨"WayTable$Graph", "place", "(II)I"⟩
abbrev b_G_holds : ByteArray := prog_2_method_7_code
def y_G_holds : MethodName := ⟨"WayTable$Graph", "holds", "(III)Z"⟩
abbrev b_G_flip : ByteArray := prog_2_method_8_code
def y_G_flip : MethodName := ⟨"WayTable$Graph", "flip", "(III)V"⟩
abbrev b_W_way : ByteArray := prog_1_method_3_code
def y_W_way : MethodName := ⟨"WayTable", "way", "(IIIZ)Z"⟩
abbrev b_M_isNode : ByteArray := prog_5_method_3_code
def y_M_isNode : MethodName := ⟨"WayTableModel", "isNode", "(I)Z"⟩
abbrev b_M_isLetter : ByteArray := prog_5_method_4_code
def y_M_isLetter : MethodName := ⟨"WayTableModel", "isLetter", "(I)Z"⟩
abbrev b_M_is : ByteArray := prog_5_method_10_code
def y_M_is : MethodName := ⟨"WayTableModel", "is", "(III)Z"⟩
abbrev b_M_way : ByteArray := prog_5_method_6_code
def y_M_way : MethodName := ⟨"WayTableModel", "way", "(IIIZ)Z"⟩
abbrev b_W_fill : ByteArray := prog_1_method_4_code
def y_W_fill : MethodName := ⟨"WayTable", "fill", "(II)I"⟩
abbrev b_M_fill : ByteArray := prog_5_method_7_code
def y_M_fill : MethodName := ⟨"WayTableModel", "fill", "(II)I"⟩
abbrev b_G_transpose : ByteArray := prog_2_method_9_code
def y_G_transpose : MethodName := ⟨"WayTable$Graph", "transpose", "(I)V"⟩
abbrev b_W_turn : ByteArray := prog_1_method_5_code
def y_W_turn : MethodName := ⟨"WayTable", "turn", "()V"⟩
abbrev b_M_turn : ByteArray := prog_5_method_8_code
def y_M_turn : MethodName := ⟨"WayTableModel", "turn", "()V"⟩
abbrev b_W_start : ByteArray := prog_1_method_6_code
def y_W_start : MethodName := ⟨"WayTable", "start", "(I)Z"⟩
abbrev b_M_start : ByteArray := prog_5_method_9_code
def y_M_start : MethodName := ⟨"WayTableModel", "start", "(I)Z"⟩
abbrev b_G_reach : ByteArray := prog_2_method_11_code
def y_G_reach : MethodName := ⟨"WayTable$Graph", "reach", "(II)I"⟩
abbrev b_T_indexOf : ByteArray := prog_3_method_7_code
def y_T_indexOf : MethodName := ⟨"WayTable$Table", "indexOf", "([III)I"⟩
abbrev b_T_findSets : ByteArray := prog_3_method_6_code
def y_T_findSets : MethodName := ⟨"WayTable$Table", "findSets", "(LWayTable$Graph;)I"⟩
abbrev b_T_laySteps : ByteArray := prog_3_method_8_code
def y_T_laySteps : MethodName := ⟨"WayTable$Table", "laySteps", "(LWayTable$Graph;)V"⟩
abbrev b_A_rangeCheck3 : ByteArray := prog_9_method_30_code
def y_A_rangeCheck3 : MethodName := ⟨"java/util/Arrays", "rangeCheck", "(III)V"⟩
abbrev b_A_fill4 : ByteArray := prog_9_method_104_code
def y_A_fill4 : MethodName := ⟨"java/util/Arrays", "fill", "([IIII)V"⟩
abbrev b_T_leaderAfter : ByteArray := prog_3_method_13_code
def y_T_leaderAfter : MethodName := ⟨"WayTable$Table", "leaderAfter", "([III)I"⟩
abbrev b_T_goAlike : ByteArray := prog_3_method_12_code
def y_T_goAlike : MethodName := ⟨"WayTable$Table", "goAlike", "(II)Z"⟩
abbrev b_T_findLeader : ByteArray := prog_3_method_11_code
def y_T_findLeader : MethodName := ⟨"WayTable$Table", "findLeader", "(I)I"⟩
abbrev b_T_pair : ByteArray := prog_3_method_15_code
def y_T_pair : MethodName := ⟨"WayTable$Table", "pair", "(II)I"⟩
abbrev b_T_measure : ByteArray := prog_3_method_14_code
def y_T_measure : MethodName := ⟨"WayTable$Table", "measure", "(II)V"⟩
abbrev b_T_partOnce : ByteArray := prog_3_method_10_code
def y_T_partOnce : MethodName := ⟨"WayTable$Table", "partOnce", "(I)Z"⟩
abbrev b_T_partSets : ByteArray := prog_3_method_9_code
def y_T_partSets : MethodName := ⟨"WayTable$Table", "partSets", "()V"⟩
abbrev b_T_numberState : ByteArray := prog_3_method_17_code
def y_T_numberState : MethodName := ⟨"WayTable$Table", "numberState", "(I)V"⟩
abbrev b_T_numberStates : ByteArray := prog_3_method_16_code
def y_T_numberStates : MethodName := ⟨"WayTable$Table", "numberStates", "()V"⟩
abbrev b_T_build : ByteArray := prog_3_method_5_code
def y_T_build : MethodName := ⟨"WayTable$Table", "build", "(LWayTable$Graph;)Z"⟩
abbrev b_W_make : ByteArray := prog_1_method_7_code
def y_W_make : MethodName := ⟨"WayTable", "make", "()I"⟩
abbrev b_M_led : ByteArray := prog_5_method_11_code
def y_M_led : MethodName := ⟨"WayTableModel", "led", "(II)I"⟩
abbrev b_M_follow : ByteArray := prog_5_method_12_code
def y_M_follow : MethodName := ⟨"WayTableModel", "follow", "()I"⟩
abbrev b_M_tell : ByteArray := prog_5_method_13_code
def y_M_tell : MethodName := ⟨"WayTableModel", "tell", "(I)Z"⟩
abbrev b_M_leastLike : ByteArray := prog_5_method_14_code
def y_M_leastLike : MethodName := ⟨"WayTableModel", "leastLike", "(I)I"⟩
abbrev b_M_make : ByteArray := prog_5_method_15_code
def y_M_make : MethodName := ⟨"WayTableModel", "make", "()I"⟩
abbrev b_W_home : ByteArray := prog_1_method_8_code
def y_W_home : MethodName := ⟨"WayTable", "home", "()V"⟩
abbrev b_M_home : ByteArray := prog_5_method_16_code
def y_M_home : MethodName := ⟨"WayTableModel", "home", "()V"⟩
abbrev b_T_hasState : ByteArray := prog_3_method_4_code
def y_T_hasState : MethodName := ⟨"WayTable$Table", "hasState", "(I)Z"⟩
abbrev b_T_hasLetter : ByteArray := prog_3_method_2_code
def y_T_hasLetter : MethodName := ⟨"WayTable$Table", "hasLetter", "(I)Z"⟩
abbrev b_T_stateAfter : ByteArray := prog_3_method_18_code
def y_T_stateAfter : MethodName := ⟨"WayTable$Table", "stateAfter", "(II)I"⟩
abbrev b_W_to : ByteArray := prog_1_method_10_code
def y_W_to : MethodName := ⟨"WayTable", "to", "(II)I"⟩
abbrev b_W_go : ByteArray := prog_1_method_9_code
def y_W_go : MethodName := ⟨"WayTable", "go", "(I)I"⟩
abbrev b_M_next : ByteArray := prog_5_method_17_code
def y_M_next : MethodName := ⟨"WayTableModel", "next", "(II)I"⟩
abbrev b_M_go : ByteArray := prog_5_method_18_code
def y_M_go : MethodName := ⟨"WayTableModel", "go", "(I)I"⟩
abbrev b_M_isState : ByteArray := prog_5_method_19_code
def y_M_isState : MethodName := ⟨"WayTableModel", "isState", "(I)Z"⟩
abbrev b_M_to : ByteArray := prog_5_method_20_code
def y_M_to : MethodName := ⟨"WayTableModel", "to", "(II)I"⟩
abbrev b_T_hasSet : ByteArray := prog_3_method_3_code
def y_T_hasSet : MethodName := ⟨"WayTable$Table", "hasSet", "(I)Z"⟩
abbrev b_W_nodes : ByteArray := prog_1_method_11_code
def y_W_nodes : MethodName := ⟨"WayTable", "nodes", "(I)I"⟩
abbrev b_M_nodes : ByteArray := prog_5_method_21_code
def y_M_nodes : MethodName := ⟨"WayTableModel", "nodes", "(I)I"⟩
abbrev b_W_state : ByteArray := prog_1_method_12_code
def y_W_state : MethodName := ⟨"WayTable", "state", "(I)I"⟩
abbrev b_M_state : ByteArray := prog_5_method_22_code
def y_M_state : MethodName := ⟨"WayTableModel", "state", "(I)I"⟩
abbrev b_T_rowLength : ByteArray := prog_3_method_20_code
def y_T_rowLength : MethodName := ⟨"WayTable$Table", "rowLength", "(II)I"⟩
abbrev b_W_apart : ByteArray := prog_1_method_13_code
def y_W_apart : MethodName := ⟨"WayTable", "apart", "(II)I"⟩
abbrev b_M_apart : ByteArray := prog_5_method_23_code
def y_M_apart : MethodName := ⟨"WayTableModel", "apart", "(II)I"⟩
abbrev b_T_lengthBehind : ByteArray := prog_3_method_23_code
def y_T_lengthBehind : MethodName := ⟨"WayTable$Table", "lengthBehind", "(II)I"⟩
abbrev b_T_leastLetter : ByteArray := prog_3_method_22_code
def y_T_leastLetter : MethodName := ⟨"WayTable$Table", "leastLetter", "(III)I"⟩
abbrev b_T_rowLetter : ByteArray := prog_3_method_21_code
def y_T_rowLetter : MethodName := ⟨"WayTable$Table", "rowLetter", "(III)I"⟩
abbrev b_W_apartBy : ByteArray := prog_1_method_14_code
def y_W_apartBy : MethodName := ⟨"WayTable", "apartBy", "(III)I"⟩
abbrev b_M_apartBy : ByteArray := prog_5_method_24_code
def y_M_apartBy : MethodName := ⟨"WayTableModel", "apartBy", "(III)I"⟩
abbrev b_W_is : ByteArray := prog_1_method_15_code
def y_W_is : MethodName := ⟨"WayTable", "is", "(III)Z"⟩
abbrev b_I_bitCount1 : ByteArray := prog_6_method_49_code
def y_I_bitCount1 : MethodName := ⟨"java/lang/Integer", "bitCount", "(I)I"⟩
abbrev b_G_countWays : ByteArray := prog_2_method_10_code
def y_G_countWays : MethodName := ⟨"WayTable$Graph", "countWays", "()I"⟩
abbrev b_T_countGoing : ByteArray := prog_3_method_19_code
def y_T_countGoing : MethodName := ⟨"WayTable$Table", "countGoing", "()I"⟩
abbrev b_W_look : ByteArray := prog_1_method_16_code
def y_W_look : MethodName := ⟨"WayTable", "look", "(I)I"⟩
abbrev b_M_wayMany : ByteArray := prog_5_method_27_code
def y_M_wayMany : MethodName := ⟨"WayTableModel", "wayMany", "()I"⟩
abbrev b_M_somewhere : ByteArray := prog_5_method_25_code
def y_M_somewhere : MethodName := ⟨"WayTableModel", "somewhere", "()I"⟩
abbrev b_M_longest : ByteArray := prog_5_method_26_code
def y_M_longest : MethodName := ⟨"WayTableModel", "longest", "()I"⟩
abbrev b_M_look : ByteArray := prog_5_method_28_code
def y_M_look : MethodName := ⟨"WayTableModel", "look", "(I)I"⟩
end
section
/-! THE FRAME OF THIS PROOF: a judgement VV (a world, locals, a place, a stack), a row an instruction; contracts CI, CV over weakest preconditions. -/
abbrev St : Type := (Nat → Int32) × (Nat → Nat → Int32)
def us (σ : St) (k : Nat) (v : Int32) : St := (upd σ.1 k v, σ.2)
def uA (σ : St) (k : Nat) (f : Nat → Int32) : St := (σ.1, va_up σ.2 k f)
abbrev ua (σ : St) (k i : Nat) (v : Int32) : St := uA σ k (upd (σ.2 k) i v)
def ush (x y : Int32) : Int32 := (x.toUInt32 >>> (y.toUInt32 &&& Int32.toUInt32 31)).toInt32
def zb (v : Int32) : Prop := narrow .boolean (.int v) = .int v
/-- the words that hold on, and the words of nest mates -/
def T0 : List Cond := lw_tbl.filter goodWord
theorem T0_in {w : Cond} (h : w ∈ lw_tbl) (g : goodWord w = true) : w ∈ T0 := List.mem_filter.mpr ⟨h, g⟩
theorem T0_tb {w : Cond} (h : w ∈ T0) : w ∈ lw_tbl := (List.mem_filter.mp h).1
theorem T0_gd {w : Cond} (h : w ∈ T0) : w ∈ T0 ∧ ((w.onTables && w.keeps) = true ∨ ∃ ty, w = .arrayClass ty) := ⟨h, good_of_word (List.mem_filter.mp h).2⟩
theorem T0_cons {c : Cond} (h : c ∈ T0) : GoodIn T0 (c :: T0) := fun w hw => by
  rcases List.mem_cons.mp hw with e | e
  · rw [e]; exact T0_gd h
  · exact T0_gd e
theorem T0_app {l : List Cond} {c : Cond} (hl : ∀ w ∈ l, w ∈ T0) (h : c ∈ T0) : GoodIn T0 (l ++ (c :: T0)) := fun w hw => by
  rcases List.mem_append.mp hw with e | e
  · exact T0_gd (hl w e)
  · exact T0_cons h w e
def is_nest : Cond → Bool
  | .fieldLinkNest _ _ _ _ _ _ => true
  | .methodLinkNest _ _ _ _ => true
  | _ => false
def N0 : List Cond := lw_tbl.filter is_nest
theorem N0_in {w : Cond} (h : w ∈ lw_tbl) (g : is_nest w = true) : w ∈ N0 := List.mem_filter.mpr ⟨h, g⟩
def nw_all (U : State) : Prop := ∀ w ∈ N0, va_Nw w U
theorem nest_tab {w : Cond} (h : is_nest w = true) : w.onTables = true := by
  cases w <;> first | rfl | (simp [is_nest] at h)
theorem nw_warm {s U : State} (hW : s.WarmedH U.vm) (h : nw_all s) : nw_all U := by
  intro w hw
  have h1 := h w hw
  have h2 : is_nest w = true := (List.mem_filter.mp hw).2
  cases w <;> first | exact va_Nw.warmF hW h1 | exact va_Nw.warmM hW h1 | (simp [is_nest] at h2)
theorem nw_same {u U : State} (e : u.vm = U.vm) (h : nw_all u) : nw_all U := fun w hw => va_Nw.same (nest_tab (List.mem_filter.mp hw).2) e (h w hw)
/-- what a method runs in: machine, launch, env, room, start, method, args, frames below, method, code, its cells, its end, classes' numbers, the class of int[], locals -/
abbrev ZT := Program × Launch × Env × Room × State × MethodId × Array Value × List Frame × Method × Code × (Nat → Prop) × (State → Prop) × va_G × ClassId × Nat
abbrev zp (Z : ZT) : Program := Z.1
abbrev zl (Z : ZT) : Launch := Z.2.1
abbrev ze (Z : ZT) : Env := Z.2.2.1
abbrev zR (Z : ZT) : Room := Z.2.2.2.1
abbrev zs (Z : ZT) : State := Z.2.2.2.2.1
abbrev zm (Z : ZT) : MethodId := Z.2.2.2.2.2.1
abbrev za (Z : ZT) : Array Value := Z.2.2.2.2.2.2.1
abbrev zw (Z : ZT) : List Frame := Z.2.2.2.2.2.2.2.1
abbrev zt (Z : ZT) : Method := Z.2.2.2.2.2.2.2.2.1
abbrev zc (Z : ZT) : Code := Z.2.2.2.2.2.2.2.2.2.1
abbrev zA (Z : ZT) : Nat → Prop := Z.2.2.2.2.2.2.2.2.2.2.1
abbrev zQ (Z : ZT) : State → Prop := Z.2.2.2.2.2.2.2.2.2.2.2.1
abbrev zD (Z : ZT) : va_G := Z.2.2.2.2.2.2.2.2.2.2.2.2.1
abbrev zI (Z : ZT) : ClassId := Z.2.2.2.2.2.2.2.2.2.2.2.2.2.1
abbrev zn (Z : ZT) : Nat := Z.2.2.2.2.2.2.2.2.2.2.2.2.2.2
def VV (Z : ZT) (kc ns : Nat) (ws : va_W) (lv : List (Nat × Value)) (pc : Nat) (st : List Value) : Prop :=
  ∀ (H : Heap) (locs : List Loc) (ls : Array Slot), va_P (zD Z) classes ws H → va_D (zA Z) ws → va_S (zA Z) (zs Z).heap H locs → lv_has ls (zn Z) lv →
    W (zp Z) (zl Z) (ze Z) (zR Z) (zs Z) (zm Z) (za Z) (zw Z) (zt Z) (zc Z) H locs kc ns (zQ Z) (F0 (zm Z) pc ls st)
def Cx (Z : ZT) (own : String) (cc : ByteArray) (rm : Room) (nL : Nat) : Prop :=
  (zp Z).tables.exec = Jvm.exec ∧ (zc Z).code = cc ∧ (zc Z).maxLocals = zn Z ∧ (zs Z).vm.findClass own = some (zm Z).cls ∧ (∀ w ∈ T0, w.before (za Z) (zs Z) = true) ∧
  va_K (zD Z) classes [(zI Z, .int)] (zs Z) ∧ (∀ q, (zs Z).heap.size ≤ q → zA Z q) ∧ nw_all (zs Z) ∧ zR Z = rm ∧ zn Z = nL
/-- a class's rows: its number, its words, its names apart, its types -/
def Tb (ci : Nat) (C : String) (T : u_T) (N : Nat) : Prop := classes[ci]? = some (C, T, N) ∧ (∀ w ∈ u_ws C T N, w ∈ T0) ∧ (∀ a, a < N → ∀ b, b < N → a ≠ b → (T a).2.1 ≠ (T b).2.1) ∧ ∃ ty0 : Nat → FieldType, ∀ k, k < N → parseFieldDescriptor (T k).2.2.1 = some (ty0 k)
section XR
variable {Z : ZT} {own : String} {cc : ByteArray} {rm : Room} {nL kc ns pc : Nat} {ws : va_W} {lv : List (Nat × Value)} {st : List Value}
theorem x_drop {lv' : List (Nat × Value)} (ks : List Nat) (hk : lv_pick lv ks = lv') (h : VV Z kc ns ws lv' pc st) : VV Z kc ns ws lv pc st := fun H locs ls hP hD hS hl => h H locs ls hP hD hS (lv_sub hl ks hk)
theorem x_topi {x : Int32} (h : ∀ y : Int32, y = x → VV Z kc ns ws lv pc (.int y :: st)) : VV Z kc ns ws lv pc (.int x :: st) := h x rfl
theorem x_iconst (X : Cx Z own cc rm nL) {n : Int} {v : Int32} (hd : decode cc pc = .ok (.iconst n, 1)) (hv : Int32.ofInt n = v) (h : VV Z kc ns ws lv (pc + 1) (.int v :: st)) : VV Z kc ns ws lv pc st := fun H locs ls hP hD hS hl => lv_iconst X.1 X.2.1 hd hv (h H locs ls hP hD hS hl)
theorem x_bipush (X : Cx Z own cc rm nL) {n : Int} {v : Int32} (hd : decode cc pc = .ok (.bipush n, 2)) (hv : (Int8.ofInt n).toInt32 = v) (h : VV Z kc ns ws lv (pc + 2) (.int v :: st)) : VV Z kc ns ws lv pc st := fun H locs ls hP hD hS hl => lv_bipush X.1 X.2.1 hd hv (h H locs ls hP hD hS hl)
theorem x_sipush (X : Cx Z own cc rm nL) {n : Int} {v : Int32} (hd : decode cc pc = .ok (.sipush n, 3)) (hv : (Int16.ofInt n).toInt32 = v) (h : VV Z kc ns ws lv (pc + 3) (.int v :: st)) : VV Z kc ns ws lv pc st := fun H locs ls hP hD hS hl => lv_sipush X.1 X.2.1 hd hv (h H locs ls hP hD hS hl)
theorem x_ldc (X : Cx Z own cc rm nL) {idx : Nat} {v : Int32} (hw : Cond.constant own idx v ∈ T0) (hd : decode cc pc = .ok (.ldc idx, 2)) (h : VV Z kc ns ws lv (pc + 2) (.int v :: st)) : VV Z kc ns ws lv pc st := fun H locs ls hP hD hS hl => lv_ldc X.1 X.2.1 X.2.2.2.1 (X.2.2.2.2.1 _ hw) hd (h H locs ls hP hD hS hl)
theorem x_ldcw (X : Cx Z own cc rm nL) {idx : Nat} {v : Int32} (hw : Cond.constant own idx v ∈ T0) (hd : decode cc pc = .ok (.ldc_w idx, 3)) (h : VV Z kc ns ws lv (pc + 3) (.int v :: st)) : VV Z kc ns ws lv pc st := fun H locs ls hP hD hS hl => lv_ldcw X.1 X.2.1 X.2.2.2.1 (X.2.2.2.2.1 _ hw) hd (h H locs ls hP hD hS hl)
theorem x_iload_n (X : Cx Z own cc rm nL) {i : Fin 4} {x : Int32} (hd : decode cc pc = .ok (.iload_n i, 1)) (j : Nat) (hj : lv[j]? = some (i.val, .int x)) (h : VV Z kc ns ws lv (pc + 1) (.int x :: st)) : VV Z kc ns ws lv pc st := fun H locs ls hP hD hS hl => lv_iload_n X.1 X.2.1 hd rfl (lv_at hl j hj) (h H locs ls hP hD hS hl)
theorem x_iload (X : Cx Z own cc rm nL) {i : Nat} {x : Int32} (hd : decode cc pc = .ok (.iload i, 2)) (j : Nat) (hj : lv[j]? = some (i, .int x)) (h : VV Z kc ns ws lv (pc + 2) (.int x :: st)) : VV Z kc ns ws lv pc st := fun H locs ls hP hD hS hl => lv_iload X.1 X.2.1 hd (lv_at hl j hj) (h H locs ls hP hD hS hl)
theorem x_aload_n (X : Cx Z own cc rm nL) {i : Fin 4} {x : Nat} (hd : decode cc pc = .ok (.aload_n i, 1)) (j : Nat) (hj : lv[j]? = some (i.val, .ref x)) (h : VV Z kc ns ws lv (pc + 1) (.ref x :: st)) : VV Z kc ns ws lv pc st := fun H locs ls hP hD hS hl => lv_aload_n X.1 X.2.1 hd rfl (lv_at hl j hj) (h H locs ls hP hD hS hl)
theorem x_aload (X : Cx Z own cc rm nL) {i : Nat} {x : Nat} (hd : decode cc pc = .ok (.aload i, 2)) (j : Nat) (hj : lv[j]? = some (i, .ref x)) (h : VV Z kc ns ws lv (pc + 2) (.ref x :: st)) : VV Z kc ns ws lv pc st := fun H locs ls hP hD hS hl => lv_aload X.1 X.2.1 hd (lv_at hl j hj) (h H locs ls hP hD hS hl)
theorem x_istore_n (X : Cx Z own cc rm nL) {i : Fin 4} {x : Int32} {lv' : List (Nat × Value)} (hd : decode cc pc = .ok (.istore_n i, 1)) (hn : i.val < nL) (ks : List Nat) (hk : lv_pick ((i.val, Value.int x) :: lv.filter (fun q => !(q.1 == i.val) && !(q.1 + 1 == i.val && q.2.category == 2))) ks = lv') (h : VV Z kc ns ws lv' (pc + 1) st) : VV Z kc ns ws lv pc (.int x :: st) := fun H locs ls hP hD hS hl => lv_istore_n X.1 X.2.1 hd rfl hl (by rw [X.2.2.2.2.2.2.2.2.2]; exact hn) rfl (fun ls' hl' => h H locs ls' hP hD hS (lv_sub hl' ks hk))
theorem x_istore (X : Cx Z own cc rm nL) {i : Nat} {x : Int32} {lv' : List (Nat × Value)} (hd : decode cc pc = .ok (.istore i, 2)) (hn : i < nL) (ks : List Nat) (hk : lv_pick ((i, Value.int x) :: lv.filter (fun q => !(q.1 == i) && !(q.1 + 1 == i && q.2.category == 2))) ks = lv') (h : VV Z kc ns ws lv' (pc + 2) st) : VV Z kc ns ws lv pc (.int x :: st) := fun H locs ls hP hD hS hl => lv_istore X.1 X.2.1 hd hl (by rw [X.2.2.2.2.2.2.2.2.2]; exact hn) rfl (fun ls' hl' => h H locs ls' hP hD hS (lv_sub hl' ks hk))
theorem x_astore_n (X : Cx Z own cc rm nL) {i : Fin 4} {x : Nat} {lv' : List (Nat × Value)} (hd : decode cc pc = .ok (.astore_n i, 1)) (hn : i.val < nL) (ks : List Nat) (hk : lv_pick ((i.val, Value.ref x) :: lv.filter (fun q => !(q.1 == i.val) && !(q.1 + 1 == i.val && q.2.category == 2))) ks = lv') (h : VV Z kc ns ws lv' (pc + 1) st) : VV Z kc ns ws lv pc (.ref x :: st) := fun H locs ls hP hD hS hl => lv_astore_n X.1 X.2.1 hd rfl hl (by rw [X.2.2.2.2.2.2.2.2.2]; exact hn) rfl (fun ls' hl' => h H locs ls' hP hD hS (lv_sub hl' ks hk))
theorem x_iinc (X : Cx Z own cc rm nL) {i : Nat} {n : Int} {x d : Int32} {lv' : List (Nat × Value)} (hd : decode cc pc = .ok (.iinc i n, 3)) (j : Nat) (hj : lv[j]? = some (i, .int x)) (hv : Int32.ofInt n = d) (hn : i < nL) (ks : List Nat) (hk : lv_pick ((i, Value.int (x + d)) :: lv.filter (fun q => !(q.1 == i) && !(q.1 + 1 == i && q.2.category == 2))) ks = lv') (h : VV Z kc ns ws lv' (pc + 3) st) : VV Z kc ns ws lv pc st := fun H locs ls hP hD hS hl => lv_iinc X.1 X.2.1 hd hl hj (congrArg (x + ·) hv) (by rw [X.2.2.2.2.2.2.2.2.2]; exact hn) rfl (fun ls' hl' => h H locs ls' hP hD hS (lv_sub hl' ks hk))
theorem x_iadd (X : Cx Z own cc rm nL) {x y : Int32} (hd : decode cc pc = .ok (.iadd, 1)) (h : VV Z kc ns ws lv (pc + 1) (.int (x + y) :: st)) : VV Z kc ns ws lv pc (.int y :: .int x :: st) := fun H locs ls hP hD hS hl => lv_iadd X.1 X.2.1 hd (h H locs ls hP hD hS hl)
theorem x_isub (X : Cx Z own cc rm nL) {x y : Int32} (hd : decode cc pc = .ok (.isub, 1)) (h : VV Z kc ns ws lv (pc + 1) (.int (x - y) :: st)) : VV Z kc ns ws lv pc (.int y :: .int x :: st) := fun H locs ls hP hD hS hl => lv_isub X.1 X.2.1 hd (h H locs ls hP hD hS hl)
theorem x_imul (X : Cx Z own cc rm nL) {x y : Int32} (hd : decode cc pc = .ok (.imul, 1)) (h : VV Z kc ns ws lv (pc + 1) (.int (x * y) :: st)) : VV Z kc ns ws lv pc (.int y :: .int x :: st) := fun H locs ls hP hD hS hl => lv_imul X.1 X.2.1 hd (h H locs ls hP hD hS hl)
theorem x_idiv (X : Cx Z own cc rm nL) {x y : Int32} (hd : decode cc pc = .ok (.idiv, 1)) (h0 : ¬ y = 0) (h : VV Z kc ns ws lv (pc + 1) (.int (x / y) :: st)) : VV Z kc ns ws lv pc (.int y :: .int x :: st) := fun H locs ls hP hD hS hl => lv_idiv X.1 X.2.1 hd h0 (h H locs ls hP hD hS hl)
theorem x_iand (X : Cx Z own cc rm nL) {x y : Int32} (hd : decode cc pc = .ok (.iand, 1)) (h : VV Z kc ns ws lv (pc + 1) (.int (x &&& y) :: st)) : VV Z kc ns ws lv pc (.int y :: .int x :: st) := fun H locs ls hP hD hS hl => lv_iand X.1 X.2.1 hd (h H locs ls hP hD hS hl)
theorem x_ior (X : Cx Z own cc rm nL) {x y : Int32} (hd : decode cc pc = .ok (.ior, 1)) (h : VV Z kc ns ws lv (pc + 1) (.int (x ||| y) :: st)) : VV Z kc ns ws lv pc (.int y :: .int x :: st) := fun H locs ls hP hD hS hl => lv_ior X.1 X.2.1 hd (h H locs ls hP hD hS hl)
theorem x_ixor (X : Cx Z own cc rm nL) {x y : Int32} (hd : decode cc pc = .ok (.ixor, 1)) (h : VV Z kc ns ws lv (pc + 1) (.int (x ^^^ y) :: st)) : VV Z kc ns ws lv pc (.int y :: .int x :: st) := fun H locs ls hP hD hS hl => lv_ixor X.1 X.2.1 hd (h H locs ls hP hD hS hl)
theorem x_ishl (X : Cx Z own cc rm nL) {x y : Int32} (hd : decode cc pc = .ok (.ishl, 1)) (h : VV Z kc ns ws lv (pc + 1) (.int (x <<< (y &&& 31)) :: st)) : VV Z kc ns ws lv pc (.int y :: .int x :: st) := fun H locs ls hP hD hS hl => lv_ishl X.1 X.2.1 hd (h H locs ls hP hD hS hl)
theorem x_ishr (X : Cx Z own cc rm nL) {x y : Int32} (hd : decode cc pc = .ok (.ishr, 1)) (h : VV Z kc ns ws lv (pc + 1) (.int (x >>> (y &&& 31)) :: st)) : VV Z kc ns ws lv pc (.int y :: .int x :: st) := fun H locs ls hP hD hS hl => lv_ishr X.1 X.2.1 hd (h H locs ls hP hD hS hl)
theorem x_iushr (X : Cx Z own cc rm nL) {x y : Int32} (hd : decode cc pc = .ok (.iushr, 1)) (h : VV Z kc ns ws lv (pc + 1) (.int (ush x y) :: st)) : VV Z kc ns ws lv pc (.int y :: .int x :: st) := fun H locs ls hP hD hS hl => lv_iushr X.1 X.2.1 hd rfl (h H locs ls hP hD hS hl)
theorem x_dup (X : Cx Z own cc rm nL) {v : Value} (hd : decode cc pc = .ok (.dup, 1)) (hv : v.category = 1) (h : VV Z kc ns ws lv (pc + 1) (v :: v :: st)) : VV Z kc ns ws lv pc (v :: st) := fun H locs ls hP hD hS hl => lv_dup X.1 X.2.1 hd hv (h H locs ls hP hD hS hl)
theorem x_dup2 (X : Cx Z own cc rm nL) {v u : Value} (hd : decode cc pc = .ok (.dup2, 1)) (hv : v.category = 1) (hu : u.category = 1) (h : VV Z kc ns ws lv (pc + 1) (v :: u :: v :: u :: st)) : VV Z kc ns ws lv pc (v :: u :: st) := fun H locs ls hP hD hS hl => lv_dup2_11 X.1 X.2.1 hd hv hu (h H locs ls hP hD hS hl)
theorem x_pop (X : Cx Z own cc rm nL) {v : Value} (hd : decode cc pc = .ok (.pop, 1)) (hv : v.category = 1) (h : VV Z kc ns ws lv (pc + 1) st) : VV Z kc ns ws lv pc (v :: st) := fun H locs ls hP hD hS hl => lv_pop X.1 X.2.1 hd hv (h H locs ls hP hD hS hl)
theorem x_goto (X : Cx Z own cc rm nL) {off : Int} {tgt : Nat} (hd : decode cc pc = .ok (.goto off, 3)) (ht : (pc : Int) + off = (tgt : Int)) (h : VV Z kc ns ws lv tgt st) : VV Z kc ns ws lv pc st := fun H locs ls hP hD hS hl => lv_goto X.1 X.2.1 hd ht (h H locs ls hP hD hS hl)
theorem x_if_eq (X : Cx Z own cc rm nL) {x : Int32} {off : Int} {tgt : Nat} (hd : decode cc pc = .ok (.ifCond .eq off, 3)) (ht : (pc : Int) + off = (tgt : Int)) (kt : x = 0 → VV Z kc ns ws lv tgt st) (kf : ¬ x = 0 → VV Z kc ns ws lv (pc + 3) st) : VV Z kc ns ws lv pc (.int x :: st) := fun H locs ls hP hD hS hl => lv_if_eq X.1 X.2.1 hd ht (fun c => kt c H locs ls hP hD hS hl) (fun c => kf c H locs ls hP hD hS hl)
theorem x_icmp_eq (X : Cx Z own cc rm nL) {x y : Int32} {off : Int} {tgt : Nat} (hd : decode cc pc = .ok (.if_icmp .eq off, 3)) (ht : (pc : Int) + off = (tgt : Int)) (kt : x = y → VV Z kc ns ws lv tgt st) (kf : ¬ x = y → VV Z kc ns ws lv (pc + 3) st) : VV Z kc ns ws lv pc (.int y :: .int x :: st) := fun H locs ls hP hD hS hl => lv_icmp_eq X.1 X.2.1 hd ht (fun c => kt c H locs ls hP hD hS hl) (fun c => kf c H locs ls hP hD hS hl)
theorem x_if_ne (X : Cx Z own cc rm nL) {x : Int32} {off : Int} {tgt : Nat} (hd : decode cc pc = .ok (.ifCond .ne off, 3)) (ht : (pc : Int) + off = (tgt : Int)) (kt : ¬ x = 0 → VV Z kc ns ws lv tgt st) (kf : x = 0 → VV Z kc ns ws lv (pc + 3) st) : VV Z kc ns ws lv pc (.int x :: st) := fun H locs ls hP hD hS hl => lv_if_ne X.1 X.2.1 hd ht (fun c => kt c H locs ls hP hD hS hl) (fun c => kf c H locs ls hP hD hS hl)
theorem x_icmp_ne (X : Cx Z own cc rm nL) {x y : Int32} {off : Int} {tgt : Nat} (hd : decode cc pc = .ok (.if_icmp .ne off, 3)) (ht : (pc : Int) + off = (tgt : Int)) (kt : ¬ x = y → VV Z kc ns ws lv tgt st) (kf : x = y → VV Z kc ns ws lv (pc + 3) st) : VV Z kc ns ws lv pc (.int y :: .int x :: st) := fun H locs ls hP hD hS hl => lv_icmp_ne X.1 X.2.1 hd ht (fun c => kt c H locs ls hP hD hS hl) (fun c => kf c H locs ls hP hD hS hl)
theorem x_if_lt (X : Cx Z own cc rm nL) {x : Int32} {off : Int} {tgt : Nat} (hd : decode cc pc = .ok (.ifCond .lt off, 3)) (ht : (pc : Int) + off = (tgt : Int)) (kt : x < 0 → VV Z kc ns ws lv tgt st) (kf : ¬ x < 0 → VV Z kc ns ws lv (pc + 3) st) : VV Z kc ns ws lv pc (.int x :: st) := fun H locs ls hP hD hS hl => lv_if_lt X.1 X.2.1 hd ht (fun c => kt c H locs ls hP hD hS hl) (fun c => kf c H locs ls hP hD hS hl)
theorem x_icmp_lt (X : Cx Z own cc rm nL) {x y : Int32} {off : Int} {tgt : Nat} (hd : decode cc pc = .ok (.if_icmp .lt off, 3)) (ht : (pc : Int) + off = (tgt : Int)) (kt : x < y → VV Z kc ns ws lv tgt st) (kf : ¬ x < y → VV Z kc ns ws lv (pc + 3) st) : VV Z kc ns ws lv pc (.int y :: .int x :: st) := fun H locs ls hP hD hS hl => lv_icmp_lt X.1 X.2.1 hd ht (fun c => kt c H locs ls hP hD hS hl) (fun c => kf c H locs ls hP hD hS hl)
theorem x_if_ge (X : Cx Z own cc rm nL) {x : Int32} {off : Int} {tgt : Nat} (hd : decode cc pc = .ok (.ifCond .ge off, 3)) (ht : (pc : Int) + off = (tgt : Int)) (kt : 0 ≤ x → VV Z kc ns ws lv tgt st) (kf : ¬ 0 ≤ x → VV Z kc ns ws lv (pc + 3) st) : VV Z kc ns ws lv pc (.int x :: st) := fun H locs ls hP hD hS hl => lv_if_ge X.1 X.2.1 hd ht (fun c => kt c H locs ls hP hD hS hl) (fun c => kf c H locs ls hP hD hS hl)
theorem x_icmp_ge (X : Cx Z own cc rm nL) {x y : Int32} {off : Int} {tgt : Nat} (hd : decode cc pc = .ok (.if_icmp .ge off, 3)) (ht : (pc : Int) + off = (tgt : Int)) (kt : y ≤ x → VV Z kc ns ws lv tgt st) (kf : ¬ y ≤ x → VV Z kc ns ws lv (pc + 3) st) : VV Z kc ns ws lv pc (.int y :: .int x :: st) := fun H locs ls hP hD hS hl => lv_icmp_ge X.1 X.2.1 hd ht (fun c => kt c H locs ls hP hD hS hl) (fun c => kf c H locs ls hP hD hS hl)
theorem x_if_gt (X : Cx Z own cc rm nL) {x : Int32} {off : Int} {tgt : Nat} (hd : decode cc pc = .ok (.ifCond .gt off, 3)) (ht : (pc : Int) + off = (tgt : Int)) (kt : 0 < x → VV Z kc ns ws lv tgt st) (kf : ¬ 0 < x → VV Z kc ns ws lv (pc + 3) st) : VV Z kc ns ws lv pc (.int x :: st) := fun H locs ls hP hD hS hl => lv_if_gt X.1 X.2.1 hd ht (fun c => kt c H locs ls hP hD hS hl) (fun c => kf c H locs ls hP hD hS hl)
theorem x_icmp_gt (X : Cx Z own cc rm nL) {x y : Int32} {off : Int} {tgt : Nat} (hd : decode cc pc = .ok (.if_icmp .gt off, 3)) (ht : (pc : Int) + off = (tgt : Int)) (kt : y < x → VV Z kc ns ws lv tgt st) (kf : ¬ y < x → VV Z kc ns ws lv (pc + 3) st) : VV Z kc ns ws lv pc (.int y :: .int x :: st) := fun H locs ls hP hD hS hl => lv_icmp_gt X.1 X.2.1 hd ht (fun c => kt c H locs ls hP hD hS hl) (fun c => kf c H locs ls hP hD hS hl)
theorem x_if_le (X : Cx Z own cc rm nL) {x : Int32} {off : Int} {tgt : Nat} (hd : decode cc pc = .ok (.ifCond .le off, 3)) (ht : (pc : Int) + off = (tgt : Int)) (kt : x ≤ 0 → VV Z kc ns ws lv tgt st) (kf : ¬ x ≤ 0 → VV Z kc ns ws lv (pc + 3) st) : VV Z kc ns ws lv pc (.int x :: st) := fun H locs ls hP hD hS hl => lv_if_le X.1 X.2.1 hd ht (fun c => kt c H locs ls hP hD hS hl) (fun c => kf c H locs ls hP hD hS hl)
theorem x_icmp_le (X : Cx Z own cc rm nL) {x y : Int32} {off : Int} {tgt : Nat} (hd : decode cc pc = .ok (.if_icmp .le off, 3)) (ht : (pc : Int) + off = (tgt : Int)) (kt : x ≤ y → VV Z kc ns ws lv tgt st) (kf : ¬ x ≤ y → VV Z kc ns ws lv (pc + 3) st) : VV Z kc ns ws lv pc (.int y :: .int x :: st) := fun H locs ls hP hD hS hl => lv_icmp_le X.1 X.2.1 hd ht (fun c => kt c H locs ls hP hD hS hl) (fun c => kf c H locs ls hP hD hS hl)
theorem x_get (X : Cx Z own cc rm nL) {ci N idx a : Nat} {C : String} {T : u_T} {fs : List Value} {v : Value} (hT : Tb ci C T N) (q0 k : Nat) (hk : k < N) (hw : Cond.fieldLink own idx (T k).1 (T k).2.1 (T k).2.2.1 ∈ T0) (he : ws[q0]? = some (a, .inr (ci, fs))) (hv : fs[k]? = some v) (hd : decode cc pc = .ok (.getfield idx, 3)) (h : VV Z kc ns ws lv (pc + 3) (v :: st)) : VV Z kc ns ws lv pc (.ref a :: st) := fun H locs ls hP hD hS hl =>
  va_get X.1 X.2.1 X.2.2.2.2.1 hT.2.1 X.2.2.2.1 X.2.2.2.2.2.1 hP q0 he hT.1 k hk (X.2.2.2.2.1 _ hw) (fun _ z => z) hv hd (h H locs ls hP hD hS hl)
theorem x_getN (X : Cx Z own cc rm nL) {ci N idx a : Nat} {C host : String} {T : u_T} {fs : List Value} {v : Value} (hT : Tb ci C T N) (q0 k : Nat) (hk : k < N) (hw : Cond.fieldLinkNest own idx (T k).1 (T k).2.1 (T k).2.2.1 host ∈ N0) (he : ws[q0]? = some (a, .inr (ci, fs))) (hv : fs[k]? = some v) (hd : decode cc pc = .ok (.getfield idx, 3)) (h : VV Z kc ns ws lv (pc + 3) (v :: st)) : VV Z kc ns ws lv pc (.ref a :: st) := fun H locs ls hP hD hS hl =>
  va_getN X.1 X.2.1 X.2.2.2.2.1 hT.2.1 X.2.2.2.1 X.2.2.2.2.2.1 hP q0 he hT.1 k hk (va_Nw.use rfl (X.2.2.2.2.2.2.2.1 _ hw)) (fun _ z => z) hv hd (h H locs ls hP hD hS hl)
theorem x_put (X : Cx Z own cc rm nL) {ci N idx a : Nat} {C : String} {T : u_T} {fs : List Value} {x : Int32} {ws' : va_W} (hT : Tb ci C T N) (q0 k : Nat) (hk : k < N) (hw : Cond.fieldLink own idx (T k).1 (T k).2.1 (T k).2.2.1 ∈ T0) (he : ws[q0]? = some (a, .inr (ci, fs))) (hf : (T k).2.2.2 = false) (hy : parseFieldDescriptor (T k).2.2.1 = some .int) (hlen : k < fs.length) (hset : ws.set q0 (a, .inr (ci, fs.set k (.int x))) = ws') (hd : decode cc pc = .ok (.putfield idx, 3)) (h : VV Z kc ns ws' lv (pc + 3) st) : VV Z kc ns ws lv pc (.int x :: .ref a :: st) := by
  obtain ⟨h1, h2, h3, ty0, h4⟩ := hT
  subst hset
  exact fun H locs ls hP hD hS hl => va_put X.1 X.2.1 X.2.2.2.2.1 h2 ty0 h4 h3 X.2.2.2.1 X.2.2.2.2.2.1 hP hD hS q0 he h1 k hk (X.2.2.2.2.1 _ hw) (fun _ z => z) hf hy (vp_nar_int x) rfl hlen hd (fun H1 l1 a1 a2 a3 => h H1 l1 ls a1 a2 a3 hl)
theorem x_putN (X : Cx Z own cc rm nL) {ci N idx a : Nat} {C host : String} {T : u_T} {fs : List Value} {x : Int32} {ws' : va_W} (hT : Tb ci C T N) (q0 k : Nat) (hk : k < N) (hw : Cond.fieldLinkNest own idx (T k).1 (T k).2.1 (T k).2.2.1 host ∈ N0) (he : ws[q0]? = some (a, .inr (ci, fs))) (hf : (T k).2.2.2 = false) (hy : parseFieldDescriptor (T k).2.2.1 = some .int) (hlen : k < fs.length) (hset : ws.set q0 (a, .inr (ci, fs.set k (.int x))) = ws') (hd : decode cc pc = .ok (.putfield idx, 3)) (h : VV Z kc ns ws' lv (pc + 3) st) : VV Z kc ns ws lv pc (.int x :: .ref a :: st) := by
  obtain ⟨h1, h2, h3, ty0, h4⟩ := hT
  subst hset
  exact fun H locs ls hP hD hS hl => va_putN X.1 X.2.1 X.2.2.2.2.1 h2 ty0 h4 h3 X.2.2.2.1 X.2.2.2.2.2.1 hP hD hS q0 he h1 k hk (va_Nw.use rfl (X.2.2.2.2.2.2.2.1 _ hw)) (fun _ z => z) hf hy (vp_nar_int x) rfl hlen hd (fun H1 l1 a1 a2 a3 => h H1 l1 ls a1 a2 a3 hl)
theorem x_iald (X : Cx Z own cc rm nL) {a n : Nat} {f : Nat → Int32} {i : Int32} (q0 : Nat) (he : ws[q0]? = some (a, .inl (zI Z, n, .inl f))) (hin : vp_in i n) (hd : decode cc pc = .ok (.iaload, 1)) (h : VV Z kc ns ws lv (pc + 1) (.int (f i.toNatClampNeg) :: st)) : VV Z kc ns ws lv pc (.int i :: .ref a :: st) := fun H locs ls hP hD hS hl =>
  va_iald X.1 X.2.1 X.2.2.2.2.2.1 hP q0 0 he rfl hin hd (h H locs ls hP hD hS hl)
theorem x_iast (X : Cx Z own cc rm nL) {a n : Nat} {f : Nat → Int32} {i x : Int32} {ws' : va_W} (q0 : Nat) (he : ws[q0]? = some (a, .inl (zI Z, n, .inl f))) (hin : vp_in i n) (hset : ws.set q0 (a, .inl (zI Z, n, .inl (upd f i.toNatClampNeg x))) = ws') (hd : decode cc pc = .ok (.iastore, 1)) (h : VV Z kc ns ws' lv (pc + 1) st) : VV Z kc ns ws lv pc (.int x :: .int i :: .ref a :: st) := by
  subst hset
  exact fun H locs ls hP hD hS hl => va_iast X.1 X.2.1 X.2.2.2.2.2.1 hP hD hS q0 0 he rfl hin hd (fun H1 l1 a1 a2 a3 => h H1 l1 ls a1 a2 a3 hl)
theorem x_alen (X : Cx Z own cc rm nL) {a n : Nat} {f : Nat → Int32} (q0 : Nat) (he : ws[q0]? = some (a, .inl (zI Z, n, .inl f))) (hd : decode cc pc = .ok (.arraylength, 1)) (h : VV Z kc ns ws lv (pc + 1) (.int (nI n) :: st)) : VV Z kc ns ws lv pc (.ref a :: st) := fun H locs ls hP hD hS hl =>
  va_alen (ty := .int) X.1 X.2.1 X.2.2.2.2.2.1 hP q0 0 he rfl (v := nI n) rfl hd (h H locs ls hP hD hS hl)
theorem x_mmax (X : Cx Z own cc rm nL) {idx : Nat} {x y : Int32} (h1 : Cond.methodLink own idx Lib.Math.max.name ∈ T0) (h2 : Cond.static Lib.Math.max.name ∈ T0) (h3 : Cond.initialized "java/lang/Math" ∈ T0) (h4 : Cond.code Lib.Math.max.name Lib.Math.max.code 2 (some .int) ∈ T0) (hf : 1 ≤ rm.frames) (hl9 : (st.map fun v => v.category).sum + 13 ≤ rm.locals) (hk : kc ≤ rm.cells) (hn : ns ≤ rm.slots) (hd : decode cc pc = .ok (.invokestatic idx, 3)) (h : VV Z kc ns ws lv (pc + 3) (.int (if x < y then y else x) :: st)) : VV Z kc ns ws lv pc (.int y :: .int x :: st) := fun H locs ls hP hD hS hl =>
  va_mmax X.1 X.2.1 (X.2.2.1.trans hl.1.symm) X.2.2.2.1 (X.2.2.2.2.1 _ h1) (X.2.2.2.2.1 _ h2) (X.2.2.2.2.1 _ h3) (X.2.2.2.2.1 _ h4) (by rw [X.2.2.2.2.2.2.2.2.1]; exact hf) (by rw [X.2.2.2.2.2.2.2.2.1]; exact hl9) (by rw [X.2.2.2.2.2.2.2.2.1]; exact hk) (by rw [X.2.2.2.2.2.2.2.2.1]; exact hn) hd (h H locs ls hP hD hS hl)
theorem x_mmin (X : Cx Z own cc rm nL) {idx : Nat} {x y : Int32} (h1 : Cond.methodLink own idx Lib.Math.min.name ∈ T0) (h2 : Cond.static Lib.Math.min.name ∈ T0) (h3 : Cond.initialized "java/lang/Math" ∈ T0) (h4 : Cond.code Lib.Math.min.name Lib.Math.min.code 2 (some .int) ∈ T0) (hf : 1 ≤ rm.frames) (hl9 : (st.map fun v => v.category).sum + 13 ≤ rm.locals) (hk : kc ≤ rm.cells) (hn : ns ≤ rm.slots) (hd : decode cc pc = .ok (.invokestatic idx, 3)) (h : VV Z kc ns ws lv (pc + 3) (.int (if y < x then y else x) :: st)) : VV Z kc ns ws lv pc (.int y :: .int x :: st) := fun H locs ls hP hD hS hl =>
  va_mmin X.1 X.2.1 (X.2.2.1.trans hl.1.symm) X.2.2.2.1 (X.2.2.2.2.1 _ h1) (X.2.2.2.2.1 _ h2) (X.2.2.2.2.1 _ h3) (X.2.2.2.2.1 _ h4) (by rw [X.2.2.2.2.2.2.2.2.1]; exact hf) (by rw [X.2.2.2.2.2.2.2.2.1]; exact hl9) (by rw [X.2.2.2.2.2.2.2.2.1]; exact hk) (by rw [X.2.2.2.2.2.2.2.2.1]; exact hn) hd (h H locs ls hP hD hS hl)
/-- System.arraycopy of one int[] into another -/
def cpok (sp dp n : Int32) (n0 n1 : Nat) : Prop := ¬ sp < 0 ∧ ¬ dp < 0 ∧ ¬ n < 0 ∧ sp.toNatClampNeg + n.toNatClampNeg ≤ n0 ∧ dp.toNatClampNeg + n.toNatClampNeg ≤ n1
theorem x_copy (X : Cx Z own cc rm nL) {idx a0 a1 n0 n1 : Nat} {f g : Nat → Int32} {sp dp n : Int32} {ws' : va_W} (h1 : Cond.methodLink own idx arraycopyName ∈ T0) (h2 : Cond.native arraycopyName ∈ T0) (h3 : Cond.static arraycopyName ∈ T0) (h4 : Cond.initialized "java/lang/System" ∈ T0) (q0 q1 : Nat) (he0 : ws[q0]? = some (a0, .inl (zI Z, n0, .inl f))) (he1 : ws[q1]? = some (a1, .inl (zI Z, n1, .inl g))) (hok : cpok sp dp n n0 n1) (hf : 1 ≤ rm.frames) (hl9 : (st.map fun v => v.category).sum + (nativeFrameWords "java/lang/System" "arraycopy" 5 + 11) ≤ rm.locals) (hset : ws.set q1 (a1, .inl (zI Z, n1, .inl (va_cpy f g sp.toNatClampNeg dp.toNatClampNeg n.toNatClampNeg))) = ws') (hd : decode cc pc = .ok (.invokestatic idx, 3)) (h : VV Z kc ns ws' lv (pc + 3) st) : VV Z kc ns ws lv pc (.int n :: .int dp :: .ref a1 :: .int sp :: .ref a0 :: st) := by
  subst hset
  obtain ⟨k1, k2, k3, k4, k5⟩ := hok
  exact fun H locs ls hP hD hS hl => va_copyi (ty := .int) X.1 X.2.1 (X.2.2.1.trans hl.1.symm) X.2.2.2.1 (X.2.2.2.2.1 _ h1) (X.2.2.2.2.1 _ h2) (X.2.2.2.2.1 _ h3) (X.2.2.2.2.1 _ h4) X.2.2.2.2.2.1 hP hD hS q0 q1 0 0 he0 he1 rfl rfl rfl k1 k2 k3 k4 k5 (fun _ _ => rfl) (by rw [X.2.2.2.2.2.2.2.2.1]; exact hf) (by rw [X.2.2.2.2.2.2.2.2.1]; exact hl9) hd (fun H1 l1 a1 a2 a3 => h H1 l1 ls a1 a2 a3 hl)
/-- tableswitch from 0 on -/
theorem x_table (X : Cx Z own cc rm nL) {dflt hi : Int} {offs : Array Int} {len N dt : Nat} {x : Int32} (tg : Nat → Nat) (hd : decode cc pc = .ok (.tableswitch dflt 0 hi offs, len)) (hhi : hi + 1 = (N : Int)) (hN : N < 2 ^ 31) (ho : ∀ j, j < N → ∃ off, offs[j]? = some off ∧ (pc : Int) + off = (tg j : Int)) (hdt : (pc : Int) + dflt = (dt : Int)) (kin : ∀ j, j < N → x = nI j → VV Z kc ns ws lv (tg j) st) (kout : (∀ j, j < N → ¬ x = nI j) → VV Z kc ns ws lv dt st) : VV Z kc ns ws lv pc (.int x :: st) := by
  by_cases c : ∃ j, j < N ∧ x = nI j
  · obtain ⟨j, hj, rfl⟩ := c
    obtain ⟨off, h1, h2⟩ := ho j hj
    have e : (nI j).toInt = (j : Int) := nI_toInt (by omega)
    exact fun H locs ls hP hD hS hl => lv_tableIn X.1 X.2.1 hd (by rw [e]; omega) (by rw [e]; omega) (by rw [e]; simpa using h1) h2 (kin j hj rfl H locs ls hP hD hS hl)
  · refine fun H locs ls hP hD hS hl => lv_tableOut X.1 X.2.1 hd ?_ hdt (kout (fun j hj e => c ⟨j, hj, e⟩) H locs ls hP hD hS hl)
    by_cases h0 : x < 0
    · left
      have := Int32.lt_iff_toInt_lt.mp h0
      simpa using this
    · right
      obtain ⟨j, hj, e⟩ := nI_of h0
      have e2 : x.toInt = (j : Int) := by rw [e]; exact nI_toInt hj
      rw [e2]
      have : ¬ j < N := fun h => c ⟨j, h, e⟩
      omega
end XR
def PcB (D : va_G) (cI : ClassId) (ws : va_W) (sz : Nat) (U : State) : Prop := U.heap.size = sz ∧ va_P D classes ws U.heap ∧ va_K D classes [(cI, .int)] U ∧ va_D (fun _ => True) ws ∧ nw_all U
def QcB (D : va_G) (w0 : va_W) (sz : Nat) (wd : St → va_W) (u : St) (t : State) : Prop := va_P D classes (wd u) t.heap ∧ va_D (va_A w0 sz) (wd u)
/-- a contract over a precondition: from the world of σ, the method answers r and leaves the world of u, with 'post r u' -/
def CI (l : Launch) (D : va_G) (cI : ClassId) (wd : St → va_W) (y : MethodName) (cc : ByteArray) (nL : Nat) (ty : FieldType) (rm : Room) (av : List Value) (σ : St) (post : Int32 → St → Prop) : Prop :=
  ∀ sz : Nat, Met l y (Cond.code y cc nL (some ty) :: T0) rm (va_Pc av (PcB D cI (wd σ) sz)) (va_Qi post (QcB D (wd σ) sz wd) (va_A (wd σ) sz)) 0 0 (va_A (wd σ) sz)
def CV (l : Launch) (D : va_G) (cI : ClassId) (wd : St → va_W) (y : MethodName) (cc : ByteArray) (nL : Nat) (rm : Room) (av : List Value) (σ : St) (post : St → Prop) : Prop :=
  ∀ sz : Nat, Met l y (Cond.code y cc nL none :: T0) rm (va_Pc av (PcB D cI (wd σ) sz)) (va_Qv post (QcB D (wd σ) sz wd) (va_A (wd σ) sz)) 0 0 (va_A (wd σ) sz)
def RI (Z : ZT) (cc : ByteArray) (ty : FieldType) (wd : St → va_W) (post : Int32 → St → Prop) : Prop := ∀ (v : Int32) (u : St) (lv : List (Nat × Value)) (pc : Nat), decode cc pc = .ok (.ireturn, 1) → narrow ty (.int v) = .int v → post v u → VV Z 0 0 (wd u) lv pc [.int v]
def RV (Z : ZT) (cc : ByteArray) (wd : St → va_W) (post : St → Prop) : Prop := ∀ (u : St) (lv : List (Nat × Value)) (pc : Nat), decode cc pc = .ok (.return_, 1) → post u → VV Z 0 0 (wd u) lv pc []
theorem pc_blind {av : List Value} {D : va_G} {cI : ClassId} {ws : va_W} {sz : Nat} : FrameBlind (va_Pc av (PcB D cI ws sz)) := fun a U g mk q => by
  obtain ⟨q0, q1, qP, qK, qD, qN⟩ := q
  exact ⟨q0, q1, qP, va_K.moved (u := U) (U := U.calling g mk a) (Vm.Alike.refl U.vm) qK, qD, nw_same (u := U) (U := U.calling g mk a) rfl qN⟩
theorem CI_of {l : Launch} {D : va_G} {cI : ClassId} {wd : St → va_W} {y : MethodName} {cc : ByteArray} {nL : Nat} {ty : FieldType} {rm : Room} {av : List Value} {σ : St} {post : Int32 → St → Prop} (hy : plainName y.cls = true) (hlen : (lg_sl av).length ≤ nL)
    (body : ∀ Z : ZT, zl Z = l → zD Z = D → zI Z = cI → Cx Z y.cls cc rm nL → RI Z cc ty wd post → VV Z 0 0 (wd σ) (lv_args 0 av) 0 []) : CI l D cI wd y cc nL ty rm av σ post := by
  intro sz
  refine Met.ofW (cc := cc) (maxL := nL) (ret := some ty) hy rfl ?_
  intro p e s m args below meth c s₁ B hml hv
  obtain ⟨rfl, hsz, hP, hK, hD0, hN⟩ := hv
  have hts := atoms_spec (ws := Cond.code y cc nL (some ty) :: T0) B.pre
  have hlocks := B.notSynchronized
  subst hsz
  rw [lg_entry_eq]
  have hl := lv_entry av (n := nL) hlen
  refine body (p, l, e, rm, s, m, av.toArray, below, meth, c, va_A (wd σ) s.heap.size, MQ below (va_Qi post (QcB D (wd σ) s.heap.size wd) (va_A (wd σ) s.heap.size)) av.toArray s 0 0 (va_A (wd σ) s.heap.size), D, cI, nL) rfl rfl rfl ⟨B.exec, B.bytes, hml, findClass_of_methodNamed B.named, fun w hw => hts w (List.mem_cons_of_mem _ hw), hK, fun q h => Or.inr h, hN, rfl, rfl⟩ ?_ s.heap [] _ hP hD0.self va_S.rf hl
  intro v u lv pc hd hn hp H locs ls hP hD hS hl
  exact W.zret B.exec B.bytes B.returns hn (fun t ht hW => ⟨⟨v, u, rfl, hp, by rw [ht]; exact hP, hD⟩, hS.F ht⟩) hS.2.2 hd (hlocks := hlocks)
theorem CV_of {l : Launch} {D : va_G} {cI : ClassId} {wd : St → va_W} {y : MethodName} {cc : ByteArray} {nL : Nat} {rm : Room} {av : List Value} {σ : St} {post : St → Prop} (hy : plainName y.cls = true) (hlen : (lg_sl av).length ≤ nL)
    (body : ∀ Z : ZT, zl Z = l → zD Z = D → zI Z = cI → Cx Z y.cls cc rm nL → RV Z cc wd post → VV Z 0 0 (wd σ) (lv_args 0 av) 0 []) : CV l D cI wd y cc nL rm av σ post := by
  intro sz
  refine Met.ofW (cc := cc) (maxL := nL) (ret := none) hy rfl ?_
  intro p e s m args below meth c s₁ B hml hv
  obtain ⟨rfl, hsz, hP, hK, hD0, hN⟩ := hv
  have hts := atoms_spec (ws := Cond.code y cc nL none :: T0) B.pre
  have hlocks := B.notSynchronized
  subst hsz
  rw [lg_entry_eq]
  have hl := lv_entry av (n := nL) hlen
  refine body (p, l, e, rm, s, m, av.toArray, below, meth, c, va_A (wd σ) s.heap.size, MQ below (va_Qv post (QcB D (wd σ) s.heap.size wd) (va_A (wd σ) s.heap.size)) av.toArray s 0 0 (va_A (wd σ) s.heap.size), D, cI, nL) rfl rfl rfl ⟨B.exec, B.bytes, hml, findClass_of_methodNamed B.named, fun w hw => hts w (List.mem_cons_of_mem _ hw), hK, fun q h => Or.inr h, hN, rfl, rfl⟩ ?_ s.heap [] _ hP hD0.self va_S.rf hl
  intro u lv pc hd hp H locs ls hP hD hS hl
  exact W.vret B.exec B.bytes B.returns (fun t ht hW => ⟨⟨u, rfl, hp, by rw [ht]; exact hP, hD⟩, hS.F ht⟩) hS.2.2 hd (hlocks := hlocks)
/-- the callee's part of a world, and what comes back beside the rest -/
theorem w_right {wr wc : va_W} {k : Nat} {q : Nat × va_E} (h : wc[k]? = some q) : (wr ++ wc)[wr.length + k]? = some q := by
  rw [List.getElem?_append_right (by omega)]
  simpa using h
theorem w_Pc {D : va_G} {wr wc : va_W} {H : Heap} (h : va_P D classes (wr ++ wc) H) : va_P D classes wc H := fun k q hq => h _ q (w_right hq)
theorem w_Dc {A : Nat → Prop} {wr wc : va_W} (h : va_D A (wr ++ wc)) : va_D A wc := ⟨fun i j p q hi hj e => by
  have := h.1 _ _ p q (w_right hi) (w_right hj) e
  omega, fun k q hq => h.2 _ q (w_right hq)⟩
theorem w_left {wr wc : va_W} {k : Nat} {q : Nat × va_E} (h : wr[k]? = some q) : (wr ++ wc)[k]? = some q := by
  rw [List.getElem?_append_left (List.getElem?_eq_some_iff.mp h).1]
  exact h
theorem w_join {A : Nat → Prop} {D : va_G} {wr wc w1 : va_W} {H H1 : Heap} (hP : va_P D classes (wr ++ wc) H) (hD : va_D A (wr ++ wc)) (hF : ∀ q, va_A wc H.size q → A q) (hk : ∀ q : Nat, q < H.size → ¬ va_A wc H.size q → H1[q]? = H[q]?) (hP1 : va_P D classes w1 H1) (hD1 : va_D (va_A wc H.size) w1) : va_P D classes (wr ++ w1) H1 ∧ va_D A (wr ++ w1) := by
  have apart : ∀ (k : Nat) (q : Nat × va_E), wr[k]? = some q → q.1 < H.size ∧ ¬ va_A wc H.size q.1 := by
    intro k q hq
    have hl := (hP k q (w_left hq)).lt
    refine ⟨hl, fun h => ?_⟩
    rcases h with ⟨k2, e, h⟩ | h
    · have hij := hD.1 k _ q (q.1, e) (w_left hq) (w_right h) rfl
      have : k < wr.length := (List.getElem?_eq_some_iff.mp hq).1
      omega
    · omega
  refine ⟨va_P.app (fun k q hq => ?_) hP1, va_D.app ⟨fun i j p q hi hj e => hD.1 i j p q (w_left hi) (w_left hj) e, fun k q hq => hD.2 k q (w_left hq)⟩ (hD1.weaken (fun k q _ h => hF q.1 h)) (fun i j x y hx hy hxy => ?_)⟩
  · obtain ⟨g1, g2⟩ := apart k q hq
    exact (hP k q (w_left hq)).kept (hk q.1 g1 g2)
  · exact (apart i x hx).2 (by rw [hxy]; exact hD1.2 j y hy)
/-- a method's rows for its calls: of an object, static -/
def Mv (y : MethodName) (cc : ByteArray) (nL : Nat) (ret : Option FieldType) (n : Nat) : Prop := Cond.instanceMethod y ∈ T0 ∧ Cond.selects y.cls y y ∈ T0 ∧ Cond.initialized y.cls ∈ T0 ∧ Cond.code y cc nL ret ∈ T0 ∧ y.cls ≠ "java/lang/invoke/MethodHandle" ∧ y.cls ≠ "java/lang/invoke/VarHandle" ∧ (parseMethodDescriptor y.desc).map (fun d => d.parameters.length) = some n
def Ms (y : MethodName) (cc : ByteArray) (nL : Nat) (ret : Option FieldType) (n : Nat) : Prop := Cond.static y ∈ T0 ∧ Cond.initialized y.cls ∈ T0 ∧ Cond.code y cc nL ret ∈ T0 ∧ y.cls ≠ "java/lang/invoke/MethodHandle" ∧ y.cls ≠ "java/lang/invoke/VarHandle" ∧ (parseMethodDescriptor y.desc).map (fun d => d.parameters.length) = some n
section XC
variable {Z : ZT} {own : String} {cc : ByteArray} {rm : Room} {nL kc ns pc : Nat} {lv : List (Nat × Value)} {st : List Value}
variable {wr : va_W} {wd : St → va_W} {y : MethodName} {cb : ByteArray} {nb b q0 ci idx : Nat} {ty : FieldType} {rmc : Room} {σ : St} {fs : List Value} {C : String} {T : u_T} {N : Nat}
theorem cw_V {ret : Option FieldType} {n : Nat} (X : Cx Z own cc rm nL) (hm : Mv y cb nb ret n) (hc0 : rmc.cells = 0 ∧ rmc.slots = 0) (hlk : Cond.methodLink own idx y ∈ T0) (hR : rmc.frames + 1 ≤ rm.frames ∧ 8 + (nb + 11) + rmc.locals ≤ rm.locals) : CallW (zR Z) (zs Z) (za Z) own y.cls idx y cb nb ret (Cond.code y cb nb ret :: T0) rmc 0 0 n := by
  obtain ⟨m1, m2, m3, m4, m5, m6, m7⟩ := hm
  refine cwV n X.2.2.2.2.1 (T0_app (l := [.methodLink own idx y, .instanceMethod y, .selects y.cls y y, .initialized y.cls]) ?_ m4) rfl hc0.1 hc0.2 ⟨rfl, m5, m6, m7⟩ (by rw [X.2.2.2.2.2.2.2.2.1]; exact hR)
  intro w hw
  simp only [List.mem_cons, List.not_mem_nil, or_false] at hw
  rcases hw with rfl | rfl | rfl | rfl <;> assumption
theorem cw_VN {ret : Option FieldType} {n : Nat} {host : String} (X : Cx Z own cc rm nL) (hm : Mv y cb nb ret n) (hc0 : rmc.cells = 0 ∧ rmc.slots = 0) (hlk : Cond.methodLinkNest own idx y host ∈ N0) (hR : rmc.frames + 1 ≤ rm.frames ∧ 8 + (nb + 11) + rmc.locals ≤ rm.locals) : va_CN (zR Z) (zs Z) (za Z) own idx y host cb nb ret (Cond.code y cb nb ret :: T0) rmc 0 0 n ∧ (Cond.instanceMethod y).before (za Z) (zs Z) = true ∧ (Cond.selects y.cls y y).before (za Z) (zs Z) = true := by
  obtain ⟨m1, m2, m3, m4, m5, m6, m7⟩ := hm
  exact ⟨va_cnB n X.2.2.2.2.1 (T0_cons m4) rfl hc0.1 hc0.2 (X.2.2.2.2.2.2.2.1 _ hlk) (X.2.2.2.2.1 _ m3) ⟨m5, m6, m7⟩ (by rw [X.2.2.2.2.2.2.2.2.1]; exact hR), X.2.2.2.2.1 _ m1, X.2.2.2.2.1 _ m2⟩
theorem cw_S {ret : Option FieldType} {n : Nat} (X : Cx Z own cc rm nL) (hm : Ms y cb nb ret n) (hc0 : rmc.cells = 0 ∧ rmc.slots = 0) (hlk : Cond.methodLink own idx y ∈ T0) (hR : rmc.frames + 1 ≤ rm.frames ∧ 8 + (nb + 11) + rmc.locals ≤ rm.locals) : CallB (zR Z) (zs Z) (za Z) own idx y cb nb ret (Cond.code y cb nb ret :: T0) rmc 0 0 n ∧ (Cond.static y).before (za Z) (zs Z) = true := by
  obtain ⟨m1, m3, m4, m5, m6, m7⟩ := hm
  refine va_cwS n X.2.2.2.2.1 (T0_app (l := [.methodLink own idx y, .static y, .initialized y.cls]) ?_ m4) rfl hc0.1 hc0.2 ⟨m5, m6, m7⟩ (by rw [X.2.2.2.2.2.2.2.2.1]; exact hR)
  intro w hw
  simp only [List.mem_cons, List.not_mem_nil, or_false] at hw
  rcases hw with rfl | rfl | rfl <;> assumption
theorem x_free (X : Cx Z own cc rm nL) {ws : va_W} {H : Heap} {locs : List Loc} (hD : va_D (zA Z) ws) (hS : va_S (zA Z) (zs Z).heap H locs) : ∀ q, va_A ws H.size q → zA Z q := fun q h => by
  rcases h with ⟨k, e, h⟩ | h
  · exact hD.2 k (q, e) h
  · exact X.2.2.2.2.2.2.1 q (Nat.le_trans hS.1 h)
theorem pre_S (X : Cx Z own cc rm nL) {H : Heap} {As : List Value} (hP : va_P (zD Z) classes (wr ++ wd σ) H) (hD : va_D (zA Z) (wr ++ wd σ)) : PreS (zs Z) H (va_Pc As (PcB (zD Z) (zI Z) (wd σ) H.size)) As :=
  ⟨pc_blind, fun U hU hW => ⟨rfl, by rw [hU], by rw [hU]; exact w_Pc hP, va_K.moved hW.alike X.2.2.2.2.2.1, (w_Dc hD).weaken (fun _ _ _ _ => trivial), nw_warm hW X.2.2.2.2.2.2.2.1⟩⟩
theorem pre_V (X : Cx Z own cc rm nL) {H : Heap} {As : List Value} (hP : va_P (zD Z) classes (wr ++ wd σ) H) (hD : va_D (zA Z) (wr ++ wd σ)) (hT : Tb ci C T N) (he : (wd σ)[q0]? = some (b, .inr (ci, fs))) : PreV (zs Z) H C b (va_Pc (.ref b :: As) (PcB (zD Z) (zI Z) (wd σ) H.size)) As :=
  ⟨pc_blind, va_recv X.2.2.2.2.2.1 (w_Pc hP) hT.1 he, fun U hU hW => ⟨rfl, by rw [hU], by rw [hU]; exact w_Pc hP, va_K.moved hW.alike X.2.2.2.2.2.1, (w_Dc hD).weaken (fun _ _ _ _ => trivial), nw_warm hW X.2.2.2.2.2.2.2.1⟩⟩
theorem x_runi {post : Int32 → St → Prop} {rest : List Value} {a : Array Value} (X : Cx Z own cc rm nL) (hr : ∀ (H : Heap) (locs : List Loc) (ls : Array Slot), va_P (zD Z) classes (wr ++ wd σ) H → va_D (zA Z) (wr ++ wd σ) → lv_has ls (zn Z) lv → va_Run (zp Z) (zl Z) (ze Z) (zR Z) (zs Z) (zm Z) (za Z) (zw Z) (zt Z) (zc Z) H locs kc ns 0 0 (F0 (zm Z) pc ls st) rest (va_Qi post (QcB (zD Z) (wd σ) H.size wd) (va_A (wd σ) H.size) a) (va_A (wd σ) H.size))
    (kk : ∀ (r : Int32) (u : St), post r u → VV Z kc ns (wr ++ wd u) lv (pc + 3) (.int r :: rest)) : VV Z kc ns (wr ++ wd σ) lv pc st := by
  intro H locs ls hP hD hS hl
  have hFc : ∀ q, va_A (wd σ) H.size q → zA Z q := x_free X (w_Dc hD) hS
  refine va_calli (hr H locs ls hP hD hl) hS (fun q _ h => hFc q h) hFc (fun r u t H1 locs1 ht hvm hw hB hz1 hk1 hS1 => ?_)
  obtain ⟨hP1, hD1⟩ := hB
  rw [ht] at hP1
  obtain ⟨hP', hD'⟩ := w_join hP hD hFc hk1 hP1 hD1
  exact kk r u hw H1 locs1 ls hP' hD' hS1 hl
theorem x_runv {post : St → Prop} {rest : List Value} {a : Array Value} (X : Cx Z own cc rm nL) (hr : ∀ (H : Heap) (locs : List Loc) (ls : Array Slot), va_P (zD Z) classes (wr ++ wd σ) H → va_D (zA Z) (wr ++ wd σ) → lv_has ls (zn Z) lv → va_Run (zp Z) (zl Z) (ze Z) (zR Z) (zs Z) (zm Z) (za Z) (zw Z) (zt Z) (zc Z) H locs kc ns 0 0 (F0 (zm Z) pc ls st) rest (va_Qv post (QcB (zD Z) (wd σ) H.size wd) (va_A (wd σ) H.size) a) (va_A (wd σ) H.size))
    (kk : ∀ (u : St), post u → VV Z kc ns (wr ++ wd u) lv (pc + 3) rest) : VV Z kc ns (wr ++ wd σ) lv pc st := by
  intro H locs ls hP hD hS hl
  have hFc : ∀ q, va_A (wd σ) H.size q → zA Z q := x_free X (w_Dc hD) hS
  refine va_callv (hr H locs ls hP hD hl) hS (fun q _ h => hFc q h) hFc (fun u t H1 locs1 ht hvm hw hB hz1 hk1 hS1 => ?_)
  obtain ⟨hP1, hD1⟩ := hB
  rw [ht] at hP1
  obtain ⟨hP', hD'⟩ := w_join hP hD hFc hk1 hP1 hD1
  exact kk u hw H1 locs1 ls hP' hD' hS1 hl
theorem x_cvi_w {post : Int32 → St → Prop} {rest : List Value} (X : Cx Z own cc rm nL) (As : List Value) (hM : CI (zl Z) (zD Z) (zI Z) wd y cb nb ty rmc (.ref b :: As) σ post) (hm : Mv y cb nb (some ty) As.length) (hT : Tb ci y.cls T N) (q0 : Nat) (he : (wd σ)[q0]? = some (b, .inr (ci, fs))) (hlk : Cond.methodLink own idx y ∈ T0) (hd : decode cc pc = .ok (.invokevirtual idx, 3)) (hst : st = As.reverse ++ .ref b :: rest) (h8 : (rest.map fun v => v.category).sum ≤ 8) (hR : rmc.frames + 1 ≤ rm.frames ∧ 8 + (nb + 11) + rmc.locals ≤ rm.locals) (hc0 : rmc.cells = 0 ∧ rmc.slots = 0) (hk : kc ≤ rm.cells ∧ ns ≤ rm.slots) (kk : ∀ (r : Int32) (u : St), post r u → VV Z kc ns (wr ++ wd u) lv (pc + 3) (.int r :: rest)) : VV Z kc ns (wr ++ wd σ) lv pc st := by
  subst hst
  refine x_runi (a := (Value.ref b :: As).toArray) X (fun H locs ls hP hD hl => ?_) kk
  exact va_runV (C := y.cls) (As := As) (rest := rest) ⟨X.1, X.2.1, X.2.2.1, X.2.2.2.1, X.2.2.2.2.1⟩ (hM H.size) (cw_V X hm hc0 hlk hR) (pre_V X hP hD hT he) rfl rfl hl.1 rfl (lv_room h8) hd (by rw [X.2.2.2.2.2.2.2.2.1]; exact hk)
theorem x_cvi {post : Int32 → St → Prop} {rest : List Value} (X : Cx Z own cc rm nL) (As : List Value) (hM : CI (zl Z) (zD Z) (zI Z) wd y cb nb ty rmc (.ref b :: As) σ post) (hm : Mv y cb nb (some ty) As.length) (hT : Tb ci y.cls T N) (q0 : Nat) (he : (wd σ)[q0]? = some (b, .inr (ci, fs))) (hlk : Cond.methodLink own idx y ∈ T0) (hd : decode cc pc = .ok (.invokevirtual idx, 3)) (hst : st = As.reverse ++ .ref b :: rest) (h8 : (rest.map fun v => v.category).sum ≤ 8) (hR : rmc.frames + 1 ≤ rm.frames ∧ 8 + (nb + 11) + rmc.locals ≤ rm.locals) (hc0 : rmc.cells = 0 ∧ rmc.slots = 0) (hk : kc ≤ rm.cells ∧ ns ≤ rm.slots) (kk : ∀ (r : Int32) (u : St), post r u → VV Z kc ns (wd u) lv (pc + 3) (.int r :: rest)) : VV Z kc ns (wd σ) lv pc st := x_cvi_w (wr := []) X As hM hm hT q0 he hlk hd hst h8 hR hc0 hk kk
theorem x_cvv_w {post : St → Prop} {rest : List Value} (X : Cx Z own cc rm nL) (As : List Value) (hM : CV (zl Z) (zD Z) (zI Z) wd y cb nb rmc (.ref b :: As) σ post) (hm : Mv y cb nb none As.length) (hT : Tb ci y.cls T N) (q0 : Nat) (he : (wd σ)[q0]? = some (b, .inr (ci, fs))) (hlk : Cond.methodLink own idx y ∈ T0) (hd : decode cc pc = .ok (.invokevirtual idx, 3)) (hst : st = As.reverse ++ .ref b :: rest) (h8 : (rest.map fun v => v.category).sum ≤ 8) (hR : rmc.frames + 1 ≤ rm.frames ∧ 8 + (nb + 11) + rmc.locals ≤ rm.locals) (hc0 : rmc.cells = 0 ∧ rmc.slots = 0) (hk : kc ≤ rm.cells ∧ ns ≤ rm.slots) (kk : ∀ (u : St), post u → VV Z kc ns (wr ++ wd u) lv (pc + 3) rest) : VV Z kc ns (wr ++ wd σ) lv pc st := by
  subst hst
  refine x_runv (a := (Value.ref b :: As).toArray) X (fun H locs ls hP hD hl => ?_) kk
  exact va_runV (C := y.cls) (As := As) (rest := rest) ⟨X.1, X.2.1, X.2.2.1, X.2.2.2.1, X.2.2.2.2.1⟩ (hM H.size) (cw_V X hm hc0 hlk hR) (pre_V X hP hD hT he) rfl rfl hl.1 rfl (lv_room h8) hd (by rw [X.2.2.2.2.2.2.2.2.1]; exact hk)
theorem x_cvv {post : St → Prop} {rest : List Value} (X : Cx Z own cc rm nL) (As : List Value) (hM : CV (zl Z) (zD Z) (zI Z) wd y cb nb rmc (.ref b :: As) σ post) (hm : Mv y cb nb none As.length) (hT : Tb ci y.cls T N) (q0 : Nat) (he : (wd σ)[q0]? = some (b, .inr (ci, fs))) (hlk : Cond.methodLink own idx y ∈ T0) (hd : decode cc pc = .ok (.invokevirtual idx, 3)) (hst : st = As.reverse ++ .ref b :: rest) (h8 : (rest.map fun v => v.category).sum ≤ 8) (hR : rmc.frames + 1 ≤ rm.frames ∧ 8 + (nb + 11) + rmc.locals ≤ rm.locals) (hc0 : rmc.cells = 0 ∧ rmc.slots = 0) (hk : kc ≤ rm.cells ∧ ns ≤ rm.slots) (kk : ∀ (u : St), post u → VV Z kc ns (wd u) lv (pc + 3) rest) : VV Z kc ns (wd σ) lv pc st := x_cvv_w (wr := []) X As hM hm hT q0 he hlk hd hst h8 hR hc0 hk kk
theorem x_cni_w {post : Int32 → St → Prop} {rest : List Value} {host : String} (X : Cx Z own cc rm nL) (As : List Value) (hM : CI (zl Z) (zD Z) (zI Z) wd y cb nb ty rmc (.ref b :: As) σ post) (hm : Mv y cb nb (some ty) As.length) (hT : Tb ci y.cls T N) (q0 : Nat) (he : (wd σ)[q0]? = some (b, .inr (ci, fs))) (hlk : Cond.methodLinkNest own idx y host ∈ N0) (hd : decode cc pc = .ok (.invokevirtual idx, 3)) (hst : st = As.reverse ++ .ref b :: rest) (h8 : (rest.map fun v => v.category).sum ≤ 8) (hR : rmc.frames + 1 ≤ rm.frames ∧ 8 + (nb + 11) + rmc.locals ≤ rm.locals) (hc0 : rmc.cells = 0 ∧ rmc.slots = 0) (hk : kc ≤ rm.cells ∧ ns ≤ rm.slots) (kk : ∀ (r : Int32) (u : St), post r u → VV Z kc ns (wr ++ wd u) lv (pc + 3) (.int r :: rest)) : VV Z kc ns (wr ++ wd σ) lv pc st := by
  subst hst
  refine x_runi (a := (Value.ref b :: As).toArray) X (fun H locs ls hP hD hl => ?_) kk
  exact va_runVN (C := y.cls) (As := As) (rest := rest) ⟨X.1, X.2.1, X.2.2.1, X.2.2.2.1, X.2.2.2.2.1⟩ (hM H.size) (cw_VN X hm hc0 hlk hR) (pre_V X hP hD hT he) rfl rfl hl.1 rfl (lv_room h8) hd (by rw [X.2.2.2.2.2.2.2.2.1]; exact hk)
theorem x_cni {post : Int32 → St → Prop} {rest : List Value} {host : String} (X : Cx Z own cc rm nL) (As : List Value) (hM : CI (zl Z) (zD Z) (zI Z) wd y cb nb ty rmc (.ref b :: As) σ post) (hm : Mv y cb nb (some ty) As.length) (hT : Tb ci y.cls T N) (q0 : Nat) (he : (wd σ)[q0]? = some (b, .inr (ci, fs))) (hlk : Cond.methodLinkNest own idx y host ∈ N0) (hd : decode cc pc = .ok (.invokevirtual idx, 3)) (hst : st = As.reverse ++ .ref b :: rest) (h8 : (rest.map fun v => v.category).sum ≤ 8) (hR : rmc.frames + 1 ≤ rm.frames ∧ 8 + (nb + 11) + rmc.locals ≤ rm.locals) (hc0 : rmc.cells = 0 ∧ rmc.slots = 0) (hk : kc ≤ rm.cells ∧ ns ≤ rm.slots) (kk : ∀ (r : Int32) (u : St), post r u → VV Z kc ns (wd u) lv (pc + 3) (.int r :: rest)) : VV Z kc ns (wd σ) lv pc st := x_cni_w (wr := []) X As hM hm hT q0 he hlk hd hst h8 hR hc0 hk kk
theorem x_cnv_w {post : St → Prop} {rest : List Value} {host : String} (X : Cx Z own cc rm nL) (As : List Value) (hM : CV (zl Z) (zD Z) (zI Z) wd y cb nb rmc (.ref b :: As) σ post) (hm : Mv y cb nb none As.length) (hT : Tb ci y.cls T N) (q0 : Nat) (he : (wd σ)[q0]? = some (b, .inr (ci, fs))) (hlk : Cond.methodLinkNest own idx y host ∈ N0) (hd : decode cc pc = .ok (.invokevirtual idx, 3)) (hst : st = As.reverse ++ .ref b :: rest) (h8 : (rest.map fun v => v.category).sum ≤ 8) (hR : rmc.frames + 1 ≤ rm.frames ∧ 8 + (nb + 11) + rmc.locals ≤ rm.locals) (hc0 : rmc.cells = 0 ∧ rmc.slots = 0) (hk : kc ≤ rm.cells ∧ ns ≤ rm.slots) (kk : ∀ (u : St), post u → VV Z kc ns (wr ++ wd u) lv (pc + 3) rest) : VV Z kc ns (wr ++ wd σ) lv pc st := by
  subst hst
  refine x_runv (a := (Value.ref b :: As).toArray) X (fun H locs ls hP hD hl => ?_) kk
  exact va_runVN (C := y.cls) (As := As) (rest := rest) ⟨X.1, X.2.1, X.2.2.1, X.2.2.2.1, X.2.2.2.2.1⟩ (hM H.size) (cw_VN X hm hc0 hlk hR) (pre_V X hP hD hT he) rfl rfl hl.1 rfl (lv_room h8) hd (by rw [X.2.2.2.2.2.2.2.2.1]; exact hk)
theorem x_cnv {post : St → Prop} {rest : List Value} {host : String} (X : Cx Z own cc rm nL) (As : List Value) (hM : CV (zl Z) (zD Z) (zI Z) wd y cb nb rmc (.ref b :: As) σ post) (hm : Mv y cb nb none As.length) (hT : Tb ci y.cls T N) (q0 : Nat) (he : (wd σ)[q0]? = some (b, .inr (ci, fs))) (hlk : Cond.methodLinkNest own idx y host ∈ N0) (hd : decode cc pc = .ok (.invokevirtual idx, 3)) (hst : st = As.reverse ++ .ref b :: rest) (h8 : (rest.map fun v => v.category).sum ≤ 8) (hR : rmc.frames + 1 ≤ rm.frames ∧ 8 + (nb + 11) + rmc.locals ≤ rm.locals) (hc0 : rmc.cells = 0 ∧ rmc.slots = 0) (hk : kc ≤ rm.cells ∧ ns ≤ rm.slots) (kk : ∀ (u : St), post u → VV Z kc ns (wd u) lv (pc + 3) rest) : VV Z kc ns (wd σ) lv pc st := x_cnv_w (wr := []) X As hM hm hT q0 he hlk hd hst h8 hR hc0 hk kk
theorem x_csi_w {post : Int32 → St → Prop} {rest : List Value} (X : Cx Z own cc rm nL) (As : List Value) (hM : CI (zl Z) (zD Z) (zI Z) wd y cb nb ty rmc As σ post) (hm : Ms y cb nb (some ty) As.length) (hlk : Cond.methodLink own idx y ∈ T0) (hd : decode cc pc = .ok (.invokestatic idx, 3)) (hst : st = As.reverse ++ rest) (h8 : (rest.map fun v => v.category).sum ≤ 8) (hR : rmc.frames + 1 ≤ rm.frames ∧ 8 + (nb + 11) + rmc.locals ≤ rm.locals) (hc0 : rmc.cells = 0 ∧ rmc.slots = 0) (hk : kc ≤ rm.cells ∧ ns ≤ rm.slots) (kk : ∀ (r : Int32) (u : St), post r u → VV Z kc ns (wr ++ wd u) lv (pc + 3) (.int r :: rest)) : VV Z kc ns (wr ++ wd σ) lv pc st := by
  subst hst
  refine x_runi (a := As.toArray) X (fun H locs ls hP hD hl => ?_) kk
  exact va_runS (As := As) (rest := rest) ⟨X.1, X.2.1, X.2.2.1, X.2.2.2.1, X.2.2.2.2.1⟩ (hM H.size) (cw_S X hm hc0 hlk hR) (pre_S X hP hD) rfl rfl hl.1 rfl (lv_room h8) hd (by rw [X.2.2.2.2.2.2.2.2.1]; exact hk)
theorem x_csi {post : Int32 → St → Prop} {rest : List Value} (X : Cx Z own cc rm nL) (As : List Value) (hM : CI (zl Z) (zD Z) (zI Z) wd y cb nb ty rmc As σ post) (hm : Ms y cb nb (some ty) As.length) (hlk : Cond.methodLink own idx y ∈ T0) (hd : decode cc pc = .ok (.invokestatic idx, 3)) (hst : st = As.reverse ++ rest) (h8 : (rest.map fun v => v.category).sum ≤ 8) (hR : rmc.frames + 1 ≤ rm.frames ∧ 8 + (nb + 11) + rmc.locals ≤ rm.locals) (hc0 : rmc.cells = 0 ∧ rmc.slots = 0) (hk : kc ≤ rm.cells ∧ ns ≤ rm.slots) (kk : ∀ (r : Int32) (u : St), post r u → VV Z kc ns (wd u) lv (pc + 3) (.int r :: rest)) : VV Z kc ns (wd σ) lv pc st := x_csi_w (wr := []) X As hM hm hlk hd hst h8 hR hc0 hk kk
theorem x_csv_w {post : St → Prop} {rest : List Value} (X : Cx Z own cc rm nL) (As : List Value) (hM : CV (zl Z) (zD Z) (zI Z) wd y cb nb rmc As σ post) (hm : Ms y cb nb none As.length) (hlk : Cond.methodLink own idx y ∈ T0) (hd : decode cc pc = .ok (.invokestatic idx, 3)) (hst : st = As.reverse ++ rest) (h8 : (rest.map fun v => v.category).sum ≤ 8) (hR : rmc.frames + 1 ≤ rm.frames ∧ 8 + (nb + 11) + rmc.locals ≤ rm.locals) (hc0 : rmc.cells = 0 ∧ rmc.slots = 0) (hk : kc ≤ rm.cells ∧ ns ≤ rm.slots) (kk : ∀ (u : St), post u → VV Z kc ns (wr ++ wd u) lv (pc + 3) rest) : VV Z kc ns (wr ++ wd σ) lv pc st := by
  subst hst
  refine x_runv (a := As.toArray) X (fun H locs ls hP hD hl => ?_) kk
  exact va_runS (As := As) (rest := rest) ⟨X.1, X.2.1, X.2.2.1, X.2.2.2.1, X.2.2.2.2.1⟩ (hM H.size) (cw_S X hm hc0 hlk hR) (pre_S X hP hD) rfl rfl hl.1 rfl (lv_room h8) hd (by rw [X.2.2.2.2.2.2.2.2.1]; exact hk)
theorem x_csv {post : St → Prop} {rest : List Value} (X : Cx Z own cc rm nL) (As : List Value) (hM : CV (zl Z) (zD Z) (zI Z) wd y cb nb rmc As σ post) (hm : Ms y cb nb none As.length) (hlk : Cond.methodLink own idx y ∈ T0) (hd : decode cc pc = .ok (.invokestatic idx, 3)) (hst : st = As.reverse ++ rest) (h8 : (rest.map fun v => v.category).sum ≤ 8) (hR : rmc.frames + 1 ≤ rm.frames ∧ 8 + (nb + 11) + rmc.locals ≤ rm.locals) (hc0 : rmc.cells = 0 ∧ rmc.slots = 0) (hk : kc ≤ rm.cells ∧ ns ≤ rm.slots) (kk : ∀ (u : St), post u → VV Z kc ns (wd u) lv (pc + 3) rest) : VV Z kc ns (wd σ) lv pc st := x_csv_w (wr := []) X As hM hm hlk hd hst h8 hR hc0 hk kk
end XC
end
section
/-! THE FRAME, 2: what is made (new, newarray, constructors), the law's script, two worlds side by side. -/
theorem w_Pl {D : va_G} {wr wc : va_W} {H : Heap} (h : va_P D classes (wr ++ wc) H) : va_P D classes wr H := fun k q hq => h _ q (w_left hq)
theorem w_Dl {A : Nat → Prop} {wr wc : va_W} (h : va_D A (wr ++ wc)) : va_D A wr := ⟨fun i j p q hi hj e => h.1 i j p q (w_left hi) (w_left hj) e, fun k q hq => h.2 k q (w_left hq)⟩
theorem w_swapP {D : va_G} {a b : va_W} {H : Heap} (h : va_P D classes (a ++ b) H) : va_P D classes (b ++ a) H := va_P.app (w_Pc h) (w_Pl h)
theorem w_swapD {A : Nat → Prop} {a b : va_W} (h : va_D A (a ++ b)) : va_D A (b ++ a) := va_D.app (w_Dc h) (w_Dl h) (fun i j p q hi hj e => by
  have := h.1 _ _ q p (w_left hj) (w_right hi) e.symm
  have hl : j < a.length := (List.getElem?_eq_some_iff.mp hj).1
  omega)
theorem VV_swap {Z : ZT} {kc ns pc : Nat} {a b : va_W} {lv : List (Nat × Value)} {st : List Value} (h : VV Z kc ns (a ++ b) lv pc st) : VV Z kc ns (b ++ a) lv pc st := fun H locs ls hP hD hS hl => h H locs ls (w_swapP hP) (w_swapD hD) hS hl
theorem VV_widen {Z : ZT} {kc ns k n pc : Nat} {ws : va_W} {lv : List (Nat × Value)} {st : List Value} (h1 : kc ≤ k) (h2 : ns ≤ n) (h : VV Z k n ws lv pc st) : VV Z kc ns ws lv pc st := fun H locs ls hP hD hS hl => W.widen h1 h2 (h H locs ls hP hD hS hl)
/-- a constructor's contract: from the cells w0 to cells w with Pw w; mc cells of ms slots are new -/
def CK (l : Launch) (D : va_G) (cI : ClassId) (y : MethodName) (cc : ByteArray) (nL : Nat) (rm : Room) (av : List Value) (w0 : va_W) (Pw : va_W → Prop) (mc ms : Nat) : Prop :=
  ∀ sz : Nat, Met l y (Cond.code y cc nL none :: T0) rm (va_Pc av (PcB D cI w0 sz)) (va_Qv Pw (fun w t => va_P D classes w t.heap ∧ va_D (va_A w0 sz) w) (va_A w0 sz)) mc ms (va_A w0 sz)
def RK (Z : ZT) (cc : ByteArray) (Pw : va_W → Prop) (mc ms : Nat) : Prop := ∀ (w : va_W) (lv : List (Nat × Value)) (pc : Nat), decode cc pc = .ok (.return_, 1) → Pw w → VV Z mc ms w lv pc []
theorem CK_of {l : Launch} {D : va_G} {cI : ClassId} {y : MethodName} {cc : ByteArray} {nL : Nat} {rm : Room} {av : List Value} {w0 : va_W} {Pw : va_W → Prop} {mc ms : Nat} (hy : plainName y.cls = true) (hlen : (lg_sl av).length ≤ nL)
    (body : ∀ Z : ZT, zl Z = l → zD Z = D → zI Z = cI → (zt Z).name = y.name → Cx Z y.cls cc rm nL → RK Z cc Pw mc ms → VV Z 0 0 w0 (lv_args 0 av) 0 []) : CK l D cI y cc nL rm av w0 Pw mc ms := by
  intro sz
  refine Met.ofW (cc := cc) (maxL := nL) (ret := none) hy rfl ?_
  intro p e s m args below meth c s₁ B hml hv
  obtain ⟨rfl, hsz, hP, hK, hD0, hN⟩ := hv
  have hts := atoms_spec (ws := Cond.code y cc nL none :: T0) B.pre
  have hlocks := B.notSynchronized
  have hin : meth.name = y.name := (name_of_methodNamed B.named B.method).1
  subst hsz
  rw [lg_entry_eq]
  have hl := lv_entry av (n := nL) hlen
  refine body (p, l, e, rm, s, m, av.toArray, below, meth, c, va_A w0 s.heap.size, MQ below (va_Qv Pw (fun w t => va_P D classes w t.heap ∧ va_D (va_A w0 s.heap.size) w) (va_A w0 s.heap.size)) av.toArray s mc ms (va_A w0 s.heap.size), D, cI, nL) rfl rfl rfl hin ⟨B.exec, B.bytes, hml, findClass_of_methodNamed B.named, fun w hw => hts w (List.mem_cons_of_mem _ hw), hK, fun q h => Or.inr h, hN, rfl, rfl⟩ ?_ s.heap [] _ hP hD0.self va_S.rf hl
  intro w lv pc hd hp H locs ls hP hD hS hl
  exact W.vret B.exec B.bytes B.returns (fun t ht hW => ⟨⟨w, rfl, hp, by rw [ht]; exact hP, hD⟩, hS.F ht⟩) hS.2.2 hd (hlocks := hlocks)
section XK
variable {Z : ZT} {own : String} {cc : ByteArray} {rm : Room} {nL kc ns pc : Nat} {ws : va_W} {lv : List (Nat × Value)} {st : List Value}
theorem x_newa (X : Cx Z own cc rm nL) {n : Int32} {N : Nat} (hw : Cond.arrayClass .int ∈ T0) (hn : ¬ n < 0) (hN : n.toNatClampNeg = N) (hb : N * 4 ≤ 536870912) (hk : kc + 1 ≤ rm.cells) (hs : ns + N ≤ rm.slots) (hd : decode cc pc = .ok (.newarray .int, 2)) (h : ∀ a : Nat, VV Z (kc + 1) (ns + N) (ws ++ [(a, .inl (zI Z, N, .inl (fun _ => 0)))]) lv (pc + 2) (.ref a :: st)) : VV Z kc ns ws lv pc (.int n :: st) := by
  intro H locs ls hP hD hS hl
  refine va_newa (atype := .int) (ty := .int) X.1 X.2.1 (X.2.2.2.2.1 _ hw) rfl X.2.2.2.2.2.1 hP hD hS X.2.2.2.2.2.2.1 (a0 := (N, .inl (fun _ => 0))) (fun cA => rfl) hn hN hb (by rw [X.2.2.2.2.2.2.2.2.1]; exact hk) (by rw [X.2.2.2.2.2.2.2.2.1]; exact hs) hd (fun a cA H1 hK1 hP1 hD1 hS1 => ?_)
  have e1 := (hK1.2 0 _ rfl).2
  have e2 := (hK1.2 1 _ rfl).2
  have e : cA = zI Z := Option.some.inj (e2.symm.trans e1)
  rw [e] at hP1 hD1
  exact h a H1 locs ls hP1 hD1 hS1 hl
theorem x_new (X : Cx Z own cc rm nL) {ci N idx : Nat} {C : String} {T : u_T} {fs : List Value} (hT : Tb ci C T N) (ty : Nat → FieldType) (hty : ∀ k, k < N → parseFieldDescriptor (T k).2.2.1 = some (ty k)) (h1 : Cond.classLink own idx C ∈ T0) (h2 : Cond.instantiable C N ∈ T0) (h3 : Cond.initialized C ∈ T0) (hfs : ∀ j, j < N → defaultValue (ty j) = vp_V fs j) (hk : kc + 1 ≤ rm.cells) (hs : ns + N ≤ rm.slots) (hd : decode cc pc = .ok (.new idx, 3)) (h : ∀ a : Nat, VV Z (kc + 1) (ns + N) (ws ++ [(a, .inr (ci, fs))]) lv (pc + 3) (.ref a :: st)) : VV Z kc ns ws lv pc st := by
  intro H locs ls hP hD hS hl
  exact va_new X.1 X.2.1 X.2.2.2.2.1 hT.2.1 ty hty X.2.2.2.1 (X.2.2.2.2.1 _ h1) (X.2.2.2.2.1 _ h2) (X.2.2.2.2.1 _ h3) X.2.2.2.2.2.1 hP hD hS X.2.2.2.2.2.2.1 hT.1 hfs (by rw [X.2.2.2.2.2.2.2.2.1]; exact hk) (by rw [X.2.2.2.2.2.2.2.2.1]; exact hs) hd (fun a H1 hP1 hD1 hS1 => h a H1 locs ls hP1 hD1 hS1 hl)
theorem x_putF (X : Cx Z own cc rm nL) {ci N idx a r : Nat} {C : String} {T : u_T} {fs : List Value} {ty : FieldType} {ws' : va_W} (hin : (zt Z).name = "<init>") (hT : Tb ci C T N) (q0 k : Nat) (hk : k < N) (hw : Cond.fieldLink own idx (T k).1 (T k).2.1 (T k).2.2.1 ∈ T0) (he : ws[q0]? = some (a, .inr (ci, fs))) (hf : (T k).2.2.2 = true) (ho : (T k).1 = own) (hy : parseFieldDescriptor (T k).2.2.1 = some ty) (hna : narrow ty (.ref r) = .ref r) (hfi : fits ty (.ref r) = true) (hlen : k < fs.length) (hset : ws.set q0 (a, .inr (ci, fs.set k (.ref r))) = ws') (hd : decode cc pc = .ok (.putfield idx, 3)) (h : VV Z kc ns ws' lv (pc + 3) st) : VV Z kc ns ws lv pc (.ref r :: .ref a :: st) := by
  obtain ⟨h1, h2, h3, ty0, h4⟩ := hT
  subst hset
  exact fun H locs ls hP hD hS hl => va_putF X.1 X.2.1 X.2.2.2.2.1 h2 ty0 h4 h3 X.2.2.2.1 X.2.2.2.2.2.1 hP hD hS q0 he h1 k hk (X.2.2.2.2.1 _ hw) (fun _ z => z) hf hin ho hy hna hfi hlen hd (fun H1 l1 a1 a2 a3 => h H1 l1 ls a1 a2 a3 hl)
theorem x_objInit (X : Cx Z own cc rm nL) {idx a : Nat} (h1 : Cond.methodLink own idx Lib.objectInit ∈ T0) (h2 : Cond.instanceMethod Lib.objectInit ∈ T0) (h3 : Cond.code Lib.objectInit ⟨#[0xb1]⟩ 1 none ∈ T0) (hf : 1 ≤ rm.frames) (hl9 : (st.map fun v => v.category).sum + 12 ≤ rm.locals) (hd : decode cc pc = .ok (.invokespecial idx, 3)) (h : VV Z kc ns ws lv (pc + 3) st) : VV Z kc ns ws lv pc (.ref a :: st) := fun H locs ls hP hD hS hl =>
  W.objInit X.1 X.2.1 X.2.2.2.1 (X.2.2.2.2.1 _ h1) (X.2.2.2.2.1 _ h2) (X.2.2.2.2.1 _ h3) rfl (hl.1.trans X.2.2.1.symm) rfl hd (by rw [X.2.2.2.2.2.2.2.2.1]; exact hf) (by rw [X.2.2.2.2.2.2.2.2.1]; show 2 * 0 + _ + 12 ≤ _; omega) (h H locs ls hP hD hS hl)
/-- the call of a constructor, of one's own or of a nest mate -/
def Mk (y : MethodName) (cc : ByteArray) (nL : Nat) : Prop := Cond.instanceMethod y ∈ T0 ∧ Cond.initialized y.cls ∈ T0 ∧ Cond.code y cc nL none ∈ T0 ∧ y.name = "<init>" ∧ y.cls ≠ "java/lang/invoke/MethodHandle" ∧ y.cls ≠ "java/lang/invoke/VarHandle" ∧ (parseMethodDescriptor y.desc).map (fun d => d.parameters.length) = some 0
theorem x_ck0 (X : Cx Z own cc rm nL) {y : MethodName} {cb : ByteArray} {nb b mc ms : Nat} {rmc : Room} {wr w0 : va_W} {Pw : va_W → Prop} (hM : CK (zl Z) (zD Z) (zI Z) y cb nb rmc [.ref b] w0 Pw mc ms)
    (hr : ∀ (H : Heap) (locs : List Loc) (ls : Array Slot), va_P (zD Z) classes (wr ++ w0) H → va_D (zA Z) (wr ++ w0) → lv_has ls (zn Z) lv → Met (zl Z) y (Cond.code y cb nb none :: T0) rmc (va_Pc [.ref b] (PcB (zD Z) (zI Z) w0 H.size)) (va_Qv Pw (fun w t => va_P (zD Z) classes w t.heap ∧ va_D (va_A w0 H.size) w) (va_A w0 H.size)) mc ms (va_A w0 H.size) → va_Run (zp Z) (zl Z) (ze Z) (zR Z) (zs Z) (zm Z) (za Z) (zw Z) (zt Z) (zc Z) H locs kc ns mc ms (F0 (zm Z) pc ls (.ref b :: st)) st (va_Qv Pw (fun w t => va_P (zD Z) classes w t.heap ∧ va_D (va_A w0 H.size) w) (va_A w0 H.size) [Value.ref b].toArray) (va_A w0 H.size))
    (kk : ∀ w : va_W, Pw w → VV Z (kc + mc) (ns + ms) (wr ++ w) lv (pc + 3) st) : VV Z kc ns (wr ++ w0) lv pc (.ref b :: st) := by
  intro H locs ls hP hD hS hl
  have hFc : ∀ q, va_A w0 H.size q → zA Z q := x_free X (w_Dc hD) hS
  refine va_callv (hr H locs ls hP hD hl (hM H.size)) hS (fun q _ h => hFc q h) hFc (fun u t H1 locs1 ht hvm hw hB hz1 hk1 hS1 => ?_)
  obtain ⟨hP1, hD1⟩ := hB
  rw [ht] at hP1
  obtain ⟨hP', hD'⟩ := w_join hP hD hFc hk1 hP1 hD1
  exact kk u hw H1 locs1 ls hP' hD' hS1 hl
theorem x_ck (X : Cx Z own cc rm nL) {y : MethodName} {cb : ByteArray} {nb b mc ms idx : Nat} {rmc : Room} {wr w0 : va_W} {Pw : va_W → Prop} (hM : CK (zl Z) (zD Z) (zI Z) y cb nb rmc [.ref b] w0 Pw mc ms) (hm : Mk y cb nb) (hlk : Cond.methodLink own idx y ∈ T0) (hd : decode cc pc = .ok (.invokespecial idx, 3)) (h8 : (st.map fun v => v.category).sum ≤ 8) (hR : rmc.frames + 1 ≤ rm.frames ∧ 8 + (nb + 11) + rmc.locals ≤ rm.locals) (hc0 : rmc.cells = mc ∧ rmc.slots = ms) (hk : kc + mc ≤ rm.cells ∧ ns + ms ≤ rm.slots)
    (kk : ∀ w : va_W, Pw w → VV Z (kc + mc) (ns + ms) (wr ++ w) lv (pc + 3) st) : VV Z kc ns (wr ++ w0) lv pc (.ref b :: st) := by
  obtain ⟨m1, m3, m4, m0, m5, m6, m7⟩ := hm
  refine x_ck0 X hM (fun H locs ls hP hD hl hMt => ?_) kk
  exact va_runI (As := []) (rest := st) ⟨X.1, X.2.1, X.2.2.1, X.2.2.2.1, X.2.2.2.2.1⟩ hMt (cwI 0 X.2.2.2.2.1 (T0_cons m4) rfl hc0.1 hc0.2 (X.2.2.2.2.1 _ m3) (X.2.2.2.2.1 _ hlk) (X.2.2.2.2.1 _ m1) m0 ⟨m5, m6, m7⟩ (by rw [X.2.2.2.2.2.2.2.2.1]; exact hR)) ⟨pc_blind, fun U hU hW => ⟨rfl, by rw [hU], by rw [hU]; exact w_Pc hP, va_K.moved hW.alike X.2.2.2.2.2.1, (w_Dc hD).weaken (fun _ _ _ _ => trivial), nw_warm hW X.2.2.2.2.2.2.2.1⟩⟩ rfl rfl hl.1 rfl (lv_room h8) hd (by rw [X.2.2.2.2.2.2.2.2.1]; exact hk)
theorem x_ckN (X : Cx Z own cc rm nL) {y : MethodName} {cb : ByteArray} {nb b mc ms idx : Nat} {host : String} {rmc : Room} {wr w0 : va_W} {Pw : va_W → Prop} (hM : CK (zl Z) (zD Z) (zI Z) y cb nb rmc [.ref b] w0 Pw mc ms) (hm : Mk y cb nb) (hlk : Cond.methodLinkNest own idx y host ∈ N0) (hd : decode cc pc = .ok (.invokespecial idx, 3)) (h8 : (st.map fun v => v.category).sum ≤ 8) (hR : rmc.frames + 1 ≤ rm.frames ∧ 8 + (nb + 11) + rmc.locals ≤ rm.locals) (hc0 : rmc.cells = mc ∧ rmc.slots = ms) (hk : kc + mc ≤ rm.cells ∧ ns + ms ≤ rm.slots)
    (kk : ∀ w : va_W, Pw w → VV Z (kc + mc) (ns + ms) (wr ++ w) lv (pc + 3) st) : VV Z kc ns (wr ++ w0) lv pc (.ref b :: st) := by
  obtain ⟨m1, m3, m4, m0, m5, m6, m7⟩ := hm
  refine x_ck0 X hM (fun H locs ls hP hD hl hMt => ?_) kk
  exact va_runIN (As := []) (rest := st) ⟨X.1, X.2.1, X.2.2.1, X.2.2.2.1, X.2.2.2.2.1⟩ hMt ⟨va_cnB 0 X.2.2.2.2.1 (T0_cons m4) rfl hc0.1 hc0.2 (X.2.2.2.2.2.2.2.1 _ hlk) (X.2.2.2.2.1 _ m3) ⟨m5, m6, m7⟩ (by rw [X.2.2.2.2.2.2.2.2.1]; exact hR), m0, X.2.2.2.2.1 _ m1⟩ ⟨pc_blind, fun U hU hW => ⟨rfl, by rw [hU], by rw [hU]; exact w_Pc hP, va_K.moved hW.alike X.2.2.2.2.2.1, (w_Dc hD).weaken (fun _ _ _ _ => trivial), nw_warm hW X.2.2.2.2.2.2.2.1⟩⟩ rfl rfl hl.1 rfl (lv_room h8) hd (by rw [X.2.2.2.2.2.2.2.2.1]; exact hk)
/-- the script -/
theorem x_sld (X : Cx Z own cc rm nL) {b L : Nat} {xs : Nat → Int32} (hX : va_X b L xs (zs Z) (zs Z).heap) (hbl : b < (zs Z).heap.size) (hbA : ¬ zA Z b) {i : Int32} (hin : vp_in i L) (hd : decode cc pc = .ok (.iaload, 1)) (h : VV Z kc ns ws lv (pc + 1) (.int (xs i.toNatClampNeg) :: st)) : VV Z kc ns ws lv pc (.int i :: .ref b :: st) := fun H locs ls hP hD hS hl => va_sld X.1 X.2.1 hX hbl hbA hS hin hd (h H locs ls hP hD hS hl)
theorem x_slen (X : Cx Z own cc rm nL) {b L : Nat} {xs : Nat → Int32} (hX : va_X b L xs (zs Z) (zs Z).heap) (hbl : b < (zs Z).heap.size) (hbA : ¬ zA Z b) (hd : decode cc pc = .ok (.arraylength, 1)) (h : VV Z kc ns ws lv (pc + 1) (.int (nI L) :: st)) : VV Z kc ns ws lv pc (.ref b :: st) := fun H locs ls hP hD hS hl => va_slen X.1 X.2.1 hX hbl hbA hS hd (h H locs ls hP hD hS hl)
end XK
end
section
theorem pI : parseFieldDescriptor "I" = some .int := by decide +kernel
theorem tw_W : ∀ w ∈ u_ws R_W F_W 3, w ∈ lw_tbl ∧ goodWord w = true := by decide +kernel
theorem tn_W : ∀ a, a < 3 → ∀ b, b < 3 → a ≠ b → (F_W a).2.1 ≠ (F_W b).2.1 := by decide +kernel
theorem tt_W : ∀ k, k < 3 → parseFieldDescriptor (F_W k).2.2.1 = some (ty_W k) := by decide +kernel
theorem tb_W : Tb 0 R_W F_W 3 := ⟨rfl, fun w h => T0_in (tw_W w h).1 (tw_W w h).2, tn_W, ty_W, tt_W⟩
theorem tw_G : ∀ w ∈ u_ws R_G F_G 4, w ∈ lw_tbl ∧ goodWord w = true := by decide +kernel
theorem tn_G : ∀ a, a < 4 → ∀ b, b < 4 → a ≠ b → (F_G a).2.1 ≠ (F_G b).2.1 := by decide +kernel
theorem tt_G : ∀ k, k < 4 → parseFieldDescriptor (F_G k).2.2.1 = some (ty_G k) := by decide +kernel
theorem tb_G : Tb 1 R_G F_G 4 := ⟨rfl, fun w h => T0_in (tw_G w h).1 (tw_G w h).2, tn_G, ty_G, tt_G⟩
theorem tw_T : ∀ w ∈ u_ws R_T F_T 12, w ∈ lw_tbl ∧ goodWord w = true := by decide +kernel
theorem tn_T : ∀ a, a < 12 → ∀ b, b < 12 → a ≠ b → (F_T a).2.1 ≠ (F_T b).2.1 := by decide +kernel
theorem tt_T : ∀ k, k < 12 → parseFieldDescriptor (F_T k).2.2.1 = some (ty_T k) := by decide +kernel
theorem tb_T : Tb 2 R_T F_T 12 := ⟨rfl, fun w h => T0_in (tw_T w h).1 (tw_T w h).2, tn_T, ty_T, tt_T⟩
theorem tw_M : ∀ w ∈ u_ws R_M F_M 17, w ∈ lw_tbl ∧ goodWord w = true := by decide +kernel
theorem tn_M : ∀ a, a < 17 → ∀ b, b < 17 → a ≠ b → (F_M a).2.1 ≠ (F_M b).2.1 := by decide +kernel
theorem tt_M : ∀ k, k < 17 → parseFieldDescriptor (F_M k).2.2.1 = some (ty_M k) := by decide +kernel
theorem tb_M : Tb 3 R_M F_M 17 := ⟨rfl, fun w h => T0_in (tw_M w h).1 (tw_M w h).2, tn_M, ty_M, tt_M⟩
theorem mw_0 : Cond.fieldLink "WayTable" 12 "WayTable" "graph" "LWayTable$Graph;" ∈ T0 := T0_in (List.mem_append_right _ (List.mem_of_getElem? (i := 91) (by decide +kernel))) (by decide +kernel)
theorem mw_1 : Cond.fieldLink "WayTable$Graph" 9 "WayTable$Graph" "nodeCount" "I" ∈ T0 := T0_in (List.mem_append_right _ (List.mem_of_getElem? (i := 23) (by decide +kernel))) (by decide +kernel)
theorem mw_2 : Cond.fieldLink "WayTable$Graph" 15 "WayTable$Graph" "letterCount" "I" ∈ T0 := T0_in (List.mem_append_right _ (List.mem_of_getElem? (i := 25) (by decide +kernel))) (by decide +kernel)
theorem mw_3 : Cond.fieldLink "WayTable$Graph" 18 "WayTable$Graph" "startNode" "I" ∈ T0 := T0_in (List.mem_append_right _ (List.mem_of_getElem? (i := 28) (by decide +kernel))) (by decide +kernel)
theorem mw_4 : Cond.fieldLink "WayTable$Graph" 21 "WayTable$Graph" "targets" "[I" ∈ T0 := T0_in (List.mem_append_right _ (List.mem_of_getElem? (i := 31) (by decide +kernel))) (by decide +kernel)
theorem mw_5 : Cond.methodLink "WayTable$Graph" 25 (⟨"java/util/Arrays", "fill", "([II)V"⟩ : MethodName) ∈ T0 := T0_in (List.mem_append_right _ (List.mem_of_getElem? (i := 109) (by decide +kernel))) (by decide +kernel)
theorem nw_6 : Cond.methodLinkNest "WayTable" 27 (⟨"WayTable$Graph", "clear", "(II)V"⟩ : MethodName) "WayTable" ∈ N0 := N0_in (List.mem_append_right _ (List.mem_of_getElem? (i := 105) (by decide +kernel))) rfl
theorem mw_7 : Cond.fieldLink "WayTableModel" 48 "WayTableModel" "thrown" "I" ∈ T0 := T0_in (List.mem_append_right _ (List.mem_of_getElem? (i := 344) (by decide +kernel))) (by decide +kernel)
theorem mw_8 : Cond.fieldLink "WayTableModel" 7 "WayTableModel" "nodes" "I" ∈ T0 := T0_in (List.mem_append_right _ (List.mem_of_getElem? (i := 345) (by decide +kernel))) (by decide +kernel)
theorem mw_9 : Cond.fieldLink "WayTableModel" 13 "WayTableModel" "letters" "I" ∈ T0 := T0_in (List.mem_append_right _ (List.mem_of_getElem? (i := 346) (by decide +kernel))) (by decide +kernel)
theorem mw_10 : Cond.fieldLink "WayTableModel" 51 "WayTableModel" "start" "I" ∈ T0 := T0_in (List.mem_append_right _ (List.mem_of_getElem? (i := 347) (by decide +kernel))) (by decide +kernel)
theorem mw_11 : Cond.fieldLink "WayTableModel" 16 "WayTableModel" "ways" "[I" ∈ T0 := T0_in (List.mem_append_right _ (List.mem_of_getElem? (i := 348) (by decide +kernel))) (by decide +kernel)
theorem mw_12 : Cond.methodLink "WayTable$Graph" 31 (⟨"WayTable$Graph", "hasNode", "(I)Z"⟩ : MethodName) ∈ T0 := T0_in (List.mem_append_right _ (List.mem_of_getElem? (i := 120) (by decide +kernel))) (by decide +kernel)
theorem mw_13 : Cond.methodLink "WayTable$Graph" 35 (⟨"WayTable$Graph", "hasLetter", "(I)Z"⟩ : MethodName) ∈ T0 := T0_in (List.mem_append_right _ (List.mem_of_getElem? (i := 124) (by decide +kernel))) (by decide +kernel)
theorem nw_14 : Cond.methodLinkNest "WayTable" 31 (⟨"WayTable$Graph", "canHold", "(III)Z"⟩ : MethodName) "WayTable" ∈ N0 := N0_in (List.mem_append_right _ (List.mem_of_getElem? (i := 116) (by decide +kernel))) rfl
theorem mw_15 : Cond.methodLink "WayTable$Graph" 38 (⟨"WayTable$Graph", "place", "(II)I"⟩ : MethodName) ∈ T0 := T0_in (List.mem_append_right _ (List.mem_of_getElem? (i := 132) (by decide +kernel))) (by decide +kernel)
theorem nw_16 : Cond.methodLinkNest "WayTable" 35 (⟨"WayTable$Graph", "holds", "(III)Z"⟩ : MethodName) "WayTable" ∈ N0 := N0_in (List.mem_append_right _ (List.mem_of_getElem? (i := 128) (by decide +kernel))) rfl
theorem nw_17 : Cond.methodLinkNest "WayTable" 38 (⟨"WayTable$Graph", "flip", "(III)V"⟩ : MethodName) "WayTable" ∈ N0 := N0_in (List.mem_append_right _ (List.mem_of_getElem? (i := 135) (by decide +kernel))) rfl
theorem mw_18 : Cond.methodLink "WayTableModel" 54 (⟨"WayTableModel", "isNode", "(I)Z"⟩ : MethodName) ∈ T0 := T0_in (List.mem_append_right _ (List.mem_of_getElem? (i := 404) (by decide +kernel))) (by decide +kernel)
theorem mw_19 : Cond.methodLink "WayTableModel" 58 (⟨"WayTableModel", "isLetter", "(I)Z"⟩ : MethodName) ∈ T0 := T0_in (List.mem_append_right _ (List.mem_of_getElem? (i := 408) (by decide +kernel))) (by decide +kernel)
theorem mw_20 : Cond.methodLink "WayTableModel" 61 (⟨"WayTableModel", "is", "(III)Z"⟩ : MethodName) ∈ T0 := T0_in (List.mem_append_right _ (List.mem_of_getElem? (i := 412) (by decide +kernel))) (by decide +kernel)
theorem nw_21 : Cond.methodLinkNest "WayTable" 42 (⟨"WayTable$Graph", "hasLetter", "(I)Z"⟩ : MethodName) "WayTable" ∈ N0 := N0_in (List.mem_append_right _ (List.mem_of_getElem? (i := 143) (by decide +kernel))) rfl
theorem nw_22 : Cond.methodLinkNest "WayTable" 46 (⟨"WayTable$Graph", "hasNode", "(I)Z"⟩ : MethodName) "WayTable" ∈ N0 := N0_in (List.mem_append_right _ (List.mem_of_getElem? (i := 144) (by decide +kernel))) rfl
theorem nw_23 : Cond.fieldLinkNest "WayTable" 49 "WayTable$Graph" "nodeCount" "I" "WayTable" ∈ N0 := N0_in (List.mem_append_right _ (List.mem_of_getElem? (i := 24) (by decide +kernel))) rfl
theorem mw_24 : Cond.methodLink "WayTableModel" 65 (⟨"WayTableModel", "way", "(IIIZ)Z"⟩ : MethodName) ∈ T0 := T0_in (List.mem_append_right _ (List.mem_of_getElem? (i := 420) (by decide +kernel))) (by decide +kernel)
theorem nw_25 : Cond.fieldLinkNest "WayTable" 52 "WayTable$Graph" "letterCount" "I" "WayTable" ∈ N0 := N0_in (List.mem_append_right _ (List.mem_of_getElem? (i := 26) (by decide +kernel))) rfl
theorem mw_26 : Cond.methodLink "WayTable$Graph" 42 (⟨"WayTable$Graph", "holds", "(III)Z"⟩ : MethodName) ∈ T0 := T0_in (List.mem_append_right _ (List.mem_of_getElem? (i := 153) (by decide +kernel))) (by decide +kernel)
theorem mw_27 : Cond.methodLink "WayTable$Graph" 46 (⟨"WayTable$Graph", "flip", "(III)V"⟩ : MethodName) ∈ T0 := T0_in (List.mem_append_right _ (List.mem_of_getElem? (i := 154) (by decide +kernel))) (by decide +kernel)
theorem nw_28 : Cond.methodLinkNest "WayTable" 55 (⟨"WayTable$Graph", "transpose", "(I)V"⟩ : MethodName) "WayTable" ∈ N0 := N0_in (List.mem_append_right _ (List.mem_of_getElem? (i := 149) (by decide +kernel))) rfl
theorem nw_29 : Cond.fieldLinkNest "WayTable" 59 "WayTable$Graph" "startNode" "I" "WayTable" ∈ N0 := N0_in (List.mem_append_right _ (List.mem_of_getElem? (i := 30) (by decide +kernel))) rfl
theorem mw_30 : Cond.fieldLink "WayTable" 19 "WayTable" "table" "LWayTable$Table;" ∈ T0 := T0_in (List.mem_append_right _ (List.mem_of_getElem? (i := 92) (by decide +kernel))) (by decide +kernel)
theorem mw_31 : Cond.fieldLink "WayTable$Table" 28 "WayTable$Table" "found" "[I" ∈ T0 := T0_in (List.mem_append_right _ (List.mem_of_getElem? (i := 58) (by decide +kernel))) (by decide +kernel)
theorem nw_32 : Cond.fieldLinkNest "WayTable$Table" 72 "WayTable$Graph" "startNode" "I" "WayTable" ∈ N0 := N0_in (List.mem_append_right _ (List.mem_of_getElem? (i := 29) (by decide +kernel))) rfl
theorem nw_33 : Cond.fieldLinkNest "WayTable$Table" 53 "WayTable$Graph" "letterCount" "I" "WayTable" ∈ N0 := N0_in (List.mem_append_right _ (List.mem_of_getElem? (i := 27) (by decide +kernel))) rfl
theorem nw_34 : Cond.methodLinkNest "WayTable$Table" 75 (⟨"WayTable$Graph", "reach", "(II)I"⟩ : MethodName) "WayTable" ∈ N0 := N0_in (List.mem_append_right _ (List.mem_of_getElem? (i := 171) (by decide +kernel))) rfl
theorem mw_35 : Cond.methodLink "WayTable$Table" 79 (⟨"WayTable$Table", "indexOf", "([III)I"⟩ : MethodName) ∈ T0 := T0_in (List.mem_append_right _ (List.mem_of_getElem? (i := 175) (by decide +kernel))) (by decide +kernel)
theorem mw_36 : Cond.methodLink "WayTable$Table" 49 (⟨"WayTable$Table", "findSets", "(LWayTable$Graph;)I"⟩ : MethodName) ∈ T0 := T0_in (List.mem_append_right _ (List.mem_of_getElem? (i := 167) (by decide +kernel))) (by decide +kernel)
theorem mw_37 : Cond.fieldLink "WayTable$Table" 9 "WayTable$Table" "letterCount" "I" ∈ T0 := T0_in (List.mem_append_right _ (List.mem_of_getElem? (i := 48) (by decide +kernel))) (by decide +kernel)
theorem mw_38 : Cond.fieldLink "WayTable$Table" 15 "WayTable$Table" "setCount" "I" ∈ T0 := T0_in (List.mem_append_right _ (List.mem_of_getElem? (i := 50) (by decide +kernel))) (by decide +kernel)
theorem mw_39 : Cond.fieldLink "WayTable$Table" 24 "WayTable$Table" "sets" "[I" ∈ T0 := T0_in (List.mem_append_right _ (List.mem_of_getElem? (i := 56) (by decide +kernel))) (by decide +kernel)
theorem mw_40 : Cond.methodLink "WayTable$Table" 56 (⟨"java/lang/System", "arraycopy", "(Ljava/lang/Object;ILjava/lang/Object;II)V"⟩ : MethodName) ∈ T0 := T0_in (List.mem_append_right _ (List.mem_of_getElem? (i := 178) (by decide +kernel))) (by decide +kernel)
theorem mw_41 : Cond.native (⟨"java/lang/System", "arraycopy", "(Ljava/lang/Object;ILjava/lang/Object;II)V"⟩ : MethodName) ∈ T0 := T0_in (List.mem_append_right _ (List.mem_of_getElem? (i := 180) (by decide +kernel))) (by decide +kernel)
theorem mw_42 : Cond.static (⟨"java/lang/System", "arraycopy", "(Ljava/lang/Object;ILjava/lang/Object;II)V"⟩ : MethodName) ∈ T0 := T0_in (List.mem_append_right _ (List.mem_of_getElem? (i := 179) (by decide +kernel))) (by decide +kernel)
theorem mw_43 : Cond.initialized "java/lang/System" ∈ T0 := T0_in (List.mem_append_right _ (List.mem_of_getElem? (i := 6) (by decide +kernel))) (by decide +kernel)
theorem mw_44 : Cond.fieldLink "WayTable$Table" 31 "WayTable$Table" "steps" "[I" ∈ T0 := T0_in (List.mem_append_right _ (List.mem_of_getElem? (i := 59) (by decide +kernel))) (by decide +kernel)
theorem mw_45 : Cond.methodLink "WayTable$Table" 62 (⟨"WayTable$Table", "laySteps", "(LWayTable$Graph;)V"⟩ : MethodName) ∈ T0 := T0_in (List.mem_append_right _ (List.mem_of_getElem? (i := 181) (by decide +kernel))) (by decide +kernel)
theorem mw_46 : Cond.fieldLink "WayTable$Table" 34 "WayTable$Table" "leaders" "[I" ∈ T0 := T0_in (List.mem_append_right _ (List.mem_of_getElem? (i := 60) (by decide +kernel))) (by decide +kernel)
theorem mw_47 : Cond.methodLink "java/util/Arrays" 13 (⟨"java/util/Arrays", "rangeCheck", "(III)V"⟩ : MethodName) ∈ T0 := T0_in (List.mem_append_right _ (List.mem_of_getElem? (i := 192) (by decide +kernel))) (by decide +kernel)
theorem mw_48 : Cond.methodLink "WayTable$Table" 83 (⟨"java/util/Arrays", "fill", "([IIII)V"⟩ : MethodName) ∈ T0 := T0_in (List.mem_append_right _ (List.mem_of_getElem? (i := 189) (by decide +kernel))) (by decide +kernel)
theorem mw_49 : Cond.fieldLink "WayTable$Table" 21 "WayTable$Table" "longestRow" "I" ∈ T0 := T0_in (List.mem_append_right _ (List.mem_of_getElem? (i := 54) (by decide +kernel))) (by decide +kernel)
theorem mw_50 : Cond.fieldLink "WayTable$Table" 37 "WayTable$Table" "leadersBefore" "[I" ∈ T0 := T0_in (List.mem_append_right _ (List.mem_of_getElem? (i := 61) (by decide +kernel))) (by decide +kernel)
theorem mw_51 : Cond.methodLink "WayTable$Table" 105 (⟨"WayTable$Table", "leaderAfter", "([III)I"⟩ : MethodName) ∈ T0 := T0_in (List.mem_append_right _ (List.mem_of_getElem? (i := 207) (by decide +kernel))) (by decide +kernel)
theorem mw_52 : Cond.methodLink "WayTable$Table" 101 (⟨"WayTable$Table", "goAlike", "(II)Z"⟩ : MethodName) ∈ T0 := T0_in (List.mem_append_right _ (List.mem_of_getElem? (i := 203) (by decide +kernel))) (by decide +kernel)
theorem mw_53 : Cond.methodLink "WayTable$Table" 93 (⟨"WayTable$Table", "findLeader", "(I)I"⟩ : MethodName) ∈ T0 := T0_in (List.mem_append_right _ (List.mem_of_getElem? (i := 199) (by decide +kernel))) (by decide +kernel)
theorem mw_54 : Cond.fieldLink "WayTable$Table" 46 "WayTable$Table" "rowLengths" "[I" ∈ T0 := T0_in (List.mem_append_right _ (List.mem_of_getElem? (i := 65) (by decide +kernel))) (by decide +kernel)
theorem mw_55 : Cond.methodLink "WayTable$Table" 111 (⟨"java/lang/Math", "max", "(II)I"⟩ : MethodName) ∈ T0 := T0_in (List.mem_append_right _ (List.mem_of_getElem? (i := 218) (by decide +kernel))) (by decide +kernel)
theorem mw_56 : Cond.static (⟨"java/lang/Math", "max", "(II)I"⟩ : MethodName) ∈ T0 := T0_in (List.mem_append_right _ (List.mem_of_getElem? (i := 219) (by decide +kernel))) (by decide +kernel)
theorem mw_57 : Cond.initialized "java/lang/Math" ∈ T0 := T0_in (List.mem_append_right _ (List.mem_of_getElem? (i := 7) (by decide +kernel))) (by decide +kernel)
theorem mw_58 : Cond.code (⟨"java/lang/Math", "max", "(II)I"⟩ : MethodName) prog_7_method_65_code 2 (Option.some Jvm.ClassFile.FieldType.int) ∈ T0 := T0_in (List.mem_append_right _ (List.mem_of_getElem? (i := 220) (by decide +kernel))) (by decide +kernel)
theorem mw_59 : Cond.methodLink "WayTable$Table" 116 (⟨"java/lang/Math", "min", "(II)I"⟩ : MethodName) ∈ T0 := T0_in (List.mem_append_right _ (List.mem_of_getElem? (i := 221) (by decide +kernel))) (by decide +kernel)
theorem mw_60 : Cond.static (⟨"java/lang/Math", "min", "(II)I"⟩ : MethodName) ∈ T0 := T0_in (List.mem_append_right _ (List.mem_of_getElem? (i := 222) (by decide +kernel))) (by decide +kernel)
theorem mw_61 : Cond.code (⟨"java/lang/Math", "min", "(II)I"⟩ : MethodName) prog_7_method_69_code 2 (Option.some Jvm.ClassFile.FieldType.int) ∈ T0 := T0_in (List.mem_append_right _ (List.mem_of_getElem? (i := 223) (by decide +kernel))) (by decide +kernel)
theorem mw_62 : Cond.methodLink "WayTable$Table" 108 (⟨"WayTable$Table", "pair", "(II)I"⟩ : MethodName) ∈ T0 := T0_in (List.mem_append_right _ (List.mem_of_getElem? (i := 215) (by decide +kernel))) (by decide +kernel)
theorem mw_63 : Cond.methodLink "WayTable$Table" 97 (⟨"WayTable$Table", "measure", "(II)V"⟩ : MethodName) ∈ T0 := T0_in (List.mem_append_right _ (List.mem_of_getElem? (i := 211) (by decide +kernel))) (by decide +kernel)
theorem mw_64 : Cond.methodLink "WayTable$Table" 89 (⟨"WayTable$Table", "partOnce", "(I)Z"⟩ : MethodName) ∈ T0 := T0_in (List.mem_append_right _ (List.mem_of_getElem? (i := 195) (by decide +kernel))) (by decide +kernel)
theorem mw_65 : Cond.methodLink "WayTable$Table" 66 (⟨"WayTable$Table", "partSets", "()V"⟩ : MethodName) ∈ T0 := T0_in (List.mem_append_right _ (List.mem_of_getElem? (i := 185) (by decide +kernel))) (by decide +kernel)
theorem mw_66 : Cond.fieldLink "WayTable$Table" 40 "WayTable$Table" "stateOf" "[I" ∈ T0 := T0_in (List.mem_append_right _ (List.mem_of_getElem? (i := 62) (by decide +kernel))) (by decide +kernel)
theorem mw_67 : Cond.fieldLink "WayTable$Table" 18 "WayTable$Table" "stateCount" "I" ∈ T0 := T0_in (List.mem_append_right _ (List.mem_of_getElem? (i := 52) (by decide +kernel))) (by decide +kernel)
theorem mw_68 : Cond.fieldLink "WayTable$Table" 43 "WayTable$Table" "leaderOfState" "[I" ∈ T0 := T0_in (List.mem_append_right _ (List.mem_of_getElem? (i := 64) (by decide +kernel))) (by decide +kernel)
theorem mw_69 : Cond.methodLink "WayTable$Table" 119 (⟨"WayTable$Table", "numberState", "(I)V"⟩ : MethodName) ∈ T0 := T0_in (List.mem_append_right _ (List.mem_of_getElem? (i := 228) (by decide +kernel))) (by decide +kernel)
theorem mw_70 : Cond.methodLink "WayTable$Table" 69 (⟨"WayTable$Table", "numberStates", "()V"⟩ : MethodName) ∈ T0 := T0_in (List.mem_append_right _ (List.mem_of_getElem? (i := 224) (by decide +kernel))) (by decide +kernel)
theorem nw_71 : Cond.methodLinkNest "WayTable" 62 (⟨"WayTable$Table", "build", "(LWayTable$Graph;)Z"⟩ : MethodName) "WayTable" ∈ N0 := N0_in (List.mem_append_right _ (List.mem_of_getElem? (i := 163) (by decide +kernel))) rfl
theorem mw_72 : Cond.fieldLink "WayTable" 23 "WayTable" "walk" "I" ∈ T0 := T0_in (List.mem_append_right _ (List.mem_of_getElem? (i := 93) (by decide +kernel))) (by decide +kernel)
theorem nw_73 : Cond.fieldLinkNest "WayTable" 66 "WayTable$Table" "stateCount" "I" "WayTable" ∈ N0 := N0_in (List.mem_append_right _ (List.mem_of_getElem? (i := 53) (by decide +kernel))) rfl
theorem mw_74 : Cond.fieldLink "WayTableModel" 38 "WayTableModel" "newSets" "[I" ∈ T0 := T0_in (List.mem_append_right _ (List.mem_of_getElem? (i := 359) (by decide +kernel))) (by decide +kernel)
theorem mw_75 : Cond.methodLink "WayTableModel" 69 (⟨"WayTableModel", "led", "(II)I"⟩ : MethodName) ∈ T0 := T0_in (List.mem_append_right _ (List.mem_of_getElem? (i := 332) (by decide +kernel))) (by decide +kernel)
theorem mw_76 : Cond.fieldLink "WayTableModel" 41 "WayTableModel" "newGoes" "[I" ∈ T0 := T0_in (List.mem_append_right _ (List.mem_of_getElem? (i := 360) (by decide +kernel))) (by decide +kernel)
theorem mw_77 : Cond.methodLink "WayTableModel" 79 (⟨"WayTableModel", "follow", "()I"⟩ : MethodName) ∈ T0 := T0_in (List.mem_append_right _ (List.mem_of_getElem? (i := 328) (by decide +kernel))) (by decide +kernel)
theorem mw_78 : Cond.fieldLink "WayTableModel" 73 "WayTableModel" "setMany" "I" ∈ T0 := T0_in (List.mem_append_right _ (List.mem_of_getElem? (i := 349) (by decide +kernel))) (by decide +kernel)
theorem mw_79 : Cond.fieldLink "WayTableModel" 76 "WayTableModel" "tableLetters" "I" ∈ T0 := T0_in (List.mem_append_right _ (List.mem_of_getElem? (i := 350) (by decide +kernel))) (by decide +kernel)
theorem mw_80 : Cond.fieldLink "WayTableModel" 26 "WayTableModel" "lengths" "[I" ∈ T0 := T0_in (List.mem_append_right _ (List.mem_of_getElem? (i := 353) (by decide +kernel))) (by decide +kernel)
theorem mw_81 : Cond.fieldLink "WayTableModel" 29 "WayTableModel" "firsts" "[I" ∈ T0 := T0_in (List.mem_append_right _ (List.mem_of_getElem? (i := 354) (by decide +kernel))) (by decide +kernel)
theorem mw_82 : Cond.fieldLink "WayTableModel" 23 "WayTableModel" "goes" "[I" ∈ T0 := T0_in (List.mem_append_right _ (List.mem_of_getElem? (i := 352) (by decide +kernel))) (by decide +kernel)
theorem mw_83 : Cond.methodLink "WayTableModel" 82 (⟨"WayTableModel", "tell", "(I)Z"⟩ : MethodName) ∈ T0 := T0_in (List.mem_append_right _ (List.mem_of_getElem? (i := 336) (by decide +kernel))) (by decide +kernel)
theorem mw_84 : Cond.fieldLink "WayTableModel" 32 "WayTableModel" "stateOf" "[I" ∈ T0 := T0_in (List.mem_append_right _ (List.mem_of_getElem? (i := 355) (by decide +kernel))) (by decide +kernel)
theorem mw_85 : Cond.fieldLink "WayTableModel" 35 "WayTableModel" "setOf" "[I" ∈ T0 := T0_in (List.mem_append_right _ (List.mem_of_getElem? (i := 356) (by decide +kernel))) (by decide +kernel)
theorem mw_86 : Cond.fieldLink "WayTableModel" 85 "WayTableModel" "states" "I" ∈ T0 := T0_in (List.mem_append_right _ (List.mem_of_getElem? (i := 357) (by decide +kernel))) (by decide +kernel)
theorem mw_87 : Cond.fieldLink "WayTableModel" 92 "WayTableModel" "walk" "I" ∈ T0 := T0_in (List.mem_append_right _ (List.mem_of_getElem? (i := 358) (by decide +kernel))) (by decide +kernel)
theorem mw_88 : Cond.methodLink "WayTableModel" 88 (⟨"WayTableModel", "leastLike", "(I)I"⟩ : MethodName) ∈ T0 := T0_in (List.mem_append_right _ (List.mem_of_getElem? (i := 340) (by decide +kernel))) (by decide +kernel)
theorem mw_89 : Cond.fieldLink "WayTableModel" 20 "WayTableModel" "sets" "[I" ∈ T0 := T0_in (List.mem_append_right _ (List.mem_of_getElem? (i := 351) (by decide +kernel))) (by decide +kernel)
theorem nw_90 : Cond.methodLinkNest "WayTable" 73 (⟨"WayTable$Table", "hasState", "(I)Z"⟩ : MethodName) "WayTable" ∈ N0 := N0_in (List.mem_append_right _ (List.mem_of_getElem? (i := 244) (by decide +kernel))) rfl
theorem nw_91 : Cond.methodLinkNest "WayTable" 76 (⟨"WayTable$Table", "hasLetter", "(I)Z"⟩ : MethodName) "WayTable" ∈ N0 := N0_in (List.mem_append_right _ (List.mem_of_getElem? (i := 248) (by decide +kernel))) rfl
theorem nw_92 : Cond.methodLinkNest "WayTable" 77 (⟨"WayTable$Table", "stateAfter", "(II)I"⟩ : MethodName) "WayTable" ∈ N0 := N0_in (List.mem_append_right _ (List.mem_of_getElem? (i := 252) (by decide +kernel))) rfl
theorem mw_93 : Cond.methodLink "WayTable" 69 (⟨"WayTable", "to", "(II)I"⟩ : MethodName) ∈ T0 := T0_in (List.mem_append_right _ (List.mem_of_getElem? (i := 240) (by decide +kernel))) (by decide +kernel)
theorem mw_94 : Cond.methodLink "WayTableModel" 95 (⟨"WayTableModel", "next", "(II)I"⟩ : MethodName) ∈ T0 := T0_in (List.mem_append_right _ (List.mem_of_getElem? (i := 439) (by decide +kernel))) (by decide +kernel)
theorem mw_95 : Cond.methodLink "WayTableModel" 98 (⟨"WayTableModel", "isState", "(I)Z"⟩ : MethodName) ∈ T0 := T0_in (List.mem_append_right _ (List.mem_of_getElem? (i := 447) (by decide +kernel))) (by decide +kernel)
theorem nw_96 : Cond.methodLinkNest "WayTable" 80 (⟨"WayTable$Table", "hasSet", "(I)Z"⟩ : MethodName) "WayTable" ∈ N0 := N0_in (List.mem_append_right _ (List.mem_of_getElem? (i := 261) (by decide +kernel))) rfl
theorem nw_97 : Cond.fieldLinkNest "WayTable" 83 "WayTable$Table" "sets" "[I" "WayTable" ∈ N0 := N0_in (List.mem_append_right _ (List.mem_of_getElem? (i := 57) (by decide +kernel))) rfl
theorem nw_98 : Cond.fieldLinkNest "WayTable" 87 "WayTable$Table" "stateOf" "[I" "WayTable" ∈ N0 := N0_in (List.mem_append_right _ (List.mem_of_getElem? (i := 63) (by decide +kernel))) rfl
theorem nw_99 : Cond.methodLinkNest "WayTable" 90 (⟨"WayTable$Table", "rowLength", "(II)I"⟩ : MethodName) "WayTable" ∈ N0 := N0_in (List.mem_append_right _ (List.mem_of_getElem? (i := 273) (by decide +kernel))) rfl
theorem mw_100 : Cond.methodLink "WayTable" 93 (⟨"WayTable", "apart", "(II)I"⟩ : MethodName) ∈ T0 := T0_in (List.mem_append_right _ (List.mem_of_getElem? (i := 281) (by decide +kernel))) (by decide +kernel)
theorem mw_101 : Cond.methodLink "WayTable$Table" 126 (⟨"WayTable$Table", "rowLength", "(II)I"⟩ : MethodName) ∈ T0 := T0_in (List.mem_append_right _ (List.mem_of_getElem? (i := 286) (by decide +kernel))) (by decide +kernel)
theorem mw_102 : Cond.methodLink "WayTable$Table" 133 (⟨"WayTable$Table", "lengthBehind", "(II)I"⟩ : MethodName) ∈ T0 := T0_in (List.mem_append_right _ (List.mem_of_getElem? (i := 291) (by decide +kernel))) (by decide +kernel)
theorem mw_103 : Cond.methodLink "WayTable$Table" 129 (⟨"WayTable$Table", "leastLetter", "(III)I"⟩ : MethodName) ∈ T0 := T0_in (List.mem_append_right _ (List.mem_of_getElem? (i := 287) (by decide +kernel))) (by decide +kernel)
theorem nw_104 : Cond.methodLinkNest "WayTable" 96 (⟨"WayTable$Table", "rowLetter", "(III)I"⟩ : MethodName) "WayTable" ∈ N0 := N0_in (List.mem_append_right _ (List.mem_of_getElem? (i := 282) (by decide +kernel))) rfl
theorem mw_105 : Cond.constant "java/lang/Integer" 265 1431655765 ∈ T0 := T0_in (List.mem_append_right _ (List.mem_of_getElem? (i := 310) (by decide +kernel))) (by decide +kernel)
theorem mw_106 : Cond.constant "java/lang/Integer" 266 858993459 ∈ T0 := T0_in (List.mem_append_right _ (List.mem_of_getElem? (i := 311) (by decide +kernel))) (by decide +kernel)
theorem mw_107 : Cond.constant "java/lang/Integer" 267 252645135 ∈ T0 := T0_in (List.mem_append_right _ (List.mem_of_getElem? (i := 312) (by decide +kernel))) (by decide +kernel)
theorem mw_108 : Cond.methodLink "WayTable$Graph" 50 (⟨"java/lang/Integer", "bitCount", "(I)I"⟩ : MethodName) ∈ T0 := T0_in (List.mem_append_right _ (List.mem_of_getElem? (i := 307) (by decide +kernel))) (by decide +kernel)
theorem nw_109 : Cond.methodLinkNest "WayTable" 100 (⟨"WayTable$Graph", "countWays", "()I"⟩ : MethodName) "WayTable" ∈ N0 := N0_in (List.mem_append_right _ (List.mem_of_getElem? (i := 303) (by decide +kernel))) rfl
theorem nw_110 : Cond.fieldLinkNest "WayTable" 104 "WayTable$Table" "setCount" "I" "WayTable" ∈ N0 := N0_in (List.mem_append_right _ (List.mem_of_getElem? (i := 51) (by decide +kernel))) rfl
theorem nw_111 : Cond.fieldLinkNest "WayTable" 107 "WayTable$Table" "letterCount" "I" "WayTable" ∈ N0 := N0_in (List.mem_append_right _ (List.mem_of_getElem? (i := 49) (by decide +kernel))) rfl
theorem mw_112 : Cond.methodLink "WayTable$Table" 123 (⟨"WayTable$Table", "stateAfter", "(II)I"⟩ : MethodName) ∈ T0 := T0_in (List.mem_append_right _ (List.mem_of_getElem? (i := 317) (by decide +kernel))) (by decide +kernel)
theorem nw_113 : Cond.methodLinkNest "WayTable" 108 (⟨"WayTable$Table", "countGoing", "()I"⟩ : MethodName) "WayTable" ∈ N0 := N0_in (List.mem_append_right _ (List.mem_of_getElem? (i := 313) (by decide +kernel))) rfl
theorem nw_114 : Cond.fieldLinkNest "WayTable" 111 "WayTable$Table" "longestRow" "I" "WayTable" ∈ N0 := N0_in (List.mem_append_right _ (List.mem_of_getElem? (i := 55) (by decide +kernel))) rfl
theorem mw_115 : Cond.methodLink "WayTableModel" 101 (⟨"WayTableModel", "wayMany", "()I"⟩ : MethodName) ∈ T0 := T0_in (List.mem_append_right _ (List.mem_of_getElem? (i := 471) (by decide +kernel))) (by decide +kernel)
theorem mw_116 : Cond.methodLink "WayTableModel" 104 (⟨"WayTableModel", "somewhere", "()I"⟩ : MethodName) ∈ T0 := T0_in (List.mem_append_right _ (List.mem_of_getElem? (i := 475) (by decide +kernel))) (by decide +kernel)
theorem mw_117 : Cond.methodLink "WayTableModel" 107 (⟨"WayTableModel", "longest", "()I"⟩ : MethodName) ∈ T0 := T0_in (List.mem_append_right _ (List.mem_of_getElem? (i := 479) (by decide +kernel))) (by decide +kernel)
theorem mw_118 : Cond.methodLink "WayTable$Graph" 3 (⟨"java/lang/Object", "<init>", "()V"⟩ : MethodName) ∈ T0 := T0_in (List.mem_append_right _ (List.mem_of_getElem? (i := 22) (by decide +kernel))) (by decide +kernel)
theorem mw_119 : Cond.instanceMethod (⟨"java/lang/Object", "<init>", "()V"⟩ : MethodName) ∈ T0 := T0_in (List.mem_append_right _ (List.mem_of_getElem? (i := 15) (by decide +kernel))) (by decide +kernel)
theorem mw_120 : Cond.code (⟨"java/lang/Object", "<init>", "()V"⟩ : MethodName) object_method_1_code 1 (Option.none : Option Jvm.ClassFile.FieldType) ∈ T0 := T0_in (List.mem_append_right _ (List.mem_of_getElem? (i := 16) (by decide +kernel))) (by decide +kernel)
theorem mw_121 : Cond.arrayClass Jvm.ClassFile.FieldType.int ∈ T0 := T0_in (List.mem_append_right _ (List.mem_of_getElem? (i := 41) (by decide +kernel))) (by decide +kernel)
theorem mw_122 : Cond.methodLink "WayTable$Table" 3 (⟨"java/lang/Object", "<init>", "()V"⟩ : MethodName) ∈ T0 := T0_in (List.mem_append_right _ (List.mem_of_getElem? (i := 47) (by decide +kernel))) (by decide +kernel)
theorem mw_123 : Cond.methodLink "WayTable" 3 (⟨"java/lang/Object", "<init>", "()V"⟩ : MethodName) ∈ T0 := T0_in (List.mem_append_right _ (List.mem_of_getElem? (i := 14) (by decide +kernel))) (by decide +kernel)
theorem mw_124 : Cond.classLink "WayTable" 9 "WayTable$Graph" ∈ T0 := T0_in (List.mem_append_right _ (List.mem_of_getElem? (i := 17) (by decide +kernel))) (by decide +kernel)
theorem mw_125 : Cond.instantiable "WayTable$Graph" 4 ∈ T0 := T0_in (List.mem_append_right _ (List.mem_of_getElem? (i := 18) (by decide +kernel))) (by decide +kernel)
theorem mw_126 : Cond.initialized "WayTable$Graph" ∈ T0 := T0_in (List.mem_append_right _ (List.mem_of_getElem? (i := 2) (by decide +kernel))) (by decide +kernel)
theorem nw_127 : Cond.methodLinkNest "WayTable" 11 (⟨"WayTable$Graph", "<init>", "()V"⟩ : MethodName) "WayTable" ∈ N0 := N0_in (List.mem_append_right _ (List.mem_of_getElem? (i := 19) (by decide +kernel))) rfl
theorem mw_128 : Cond.classLink "WayTable" 16 "WayTable$Table" ∈ T0 := T0_in (List.mem_append_right _ (List.mem_of_getElem? (i := 42) (by decide +kernel))) (by decide +kernel)
theorem mw_129 : Cond.instantiable "WayTable$Table" 12 ∈ T0 := T0_in (List.mem_append_right _ (List.mem_of_getElem? (i := 43) (by decide +kernel))) (by decide +kernel)
theorem mw_130 : Cond.initialized "WayTable$Table" ∈ T0 := T0_in (List.mem_append_right _ (List.mem_of_getElem? (i := 3) (by decide +kernel))) (by decide +kernel)
theorem nw_131 : Cond.methodLinkNest "WayTable" 18 (⟨"WayTable$Table", "<init>", "()V"⟩ : MethodName) "WayTable" ∈ N0 := N0_in (List.mem_append_right _ (List.mem_of_getElem? (i := 44) (by decide +kernel))) rfl
theorem mw_132 : Cond.methodLink "WayTableModel" 1 (⟨"java/lang/Object", "<init>", "()V"⟩ : MethodName) ∈ T0 := T0_in (List.mem_append_right _ (List.mem_of_getElem? (i := 323) (by decide +kernel))) (by decide +kernel)
theorem mw_133 : Cond.methodLink "WayTableModel" 44 (⟨"WayTableModel", "make", "()I"⟩ : MethodName) ∈ T0 := T0_in (List.mem_append_right _ (List.mem_of_getElem? (i := 324) (by decide +kernel))) (by decide +kernel)
theorem mw_134 : Cond.methodLink "WayTableLaw" 13 (⟨"WayTable", "begin", "(II)Z"⟩ : MethodName) ∈ T0 := T0_in (List.mem_append_right _ (List.mem_of_getElem? (i := 101) (by decide +kernel))) (by decide +kernel)
theorem mw_135 : Cond.methodLink "WayTableLaw" 17 (⟨"WayTableModel", "begin", "(II)Z"⟩ : MethodName) ∈ T0 := T0_in (List.mem_append_right _ (List.mem_of_getElem? (i := 396) (by decide +kernel))) (by decide +kernel)
theorem mw_136 : Cond.methodLink "WayTableLaw" 18 (⟨"WayTable", "way", "(IIIZ)Z"⟩ : MethodName) ∈ T0 := T0_in (List.mem_append_right _ (List.mem_of_getElem? (i := 112) (by decide +kernel))) (by decide +kernel)
theorem mw_137 : Cond.methodLink "WayTableLaw" 22 (⟨"WayTableModel", "way", "(IIIZ)Z"⟩ : MethodName) ∈ T0 := T0_in (List.mem_append_right _ (List.mem_of_getElem? (i := 400) (by decide +kernel))) (by decide +kernel)
theorem mw_138 : Cond.methodLink "WayTableLaw" 23 (⟨"WayTable", "fill", "(II)I"⟩ : MethodName) ∈ T0 := T0_in (List.mem_append_right _ (List.mem_of_getElem? (i := 139) (by decide +kernel))) (by decide +kernel)
theorem mw_139 : Cond.methodLink "WayTableLaw" 27 (⟨"WayTableModel", "fill", "(II)I"⟩ : MethodName) ∈ T0 := T0_in (List.mem_append_right _ (List.mem_of_getElem? (i := 416) (by decide +kernel))) (by decide +kernel)
theorem mw_140 : Cond.methodLink "WayTableLaw" 28 (⟨"WayTable", "turn", "()V"⟩ : MethodName) ∈ T0 := T0_in (List.mem_append_right _ (List.mem_of_getElem? (i := 145) (by decide +kernel))) (by decide +kernel)
theorem mw_141 : Cond.methodLink "WayTableLaw" 31 (⟨"WayTableModel", "turn", "()V"⟩ : MethodName) ∈ T0 := T0_in (List.mem_append_right _ (List.mem_of_getElem? (i := 421) (by decide +kernel))) (by decide +kernel)
theorem mw_142 : Cond.methodLink "WayTableLaw" 32 (⟨"WayTable", "start", "(I)Z"⟩ : MethodName) ∈ T0 := T0_in (List.mem_append_right _ (List.mem_of_getElem? (i := 155) (by decide +kernel))) (by decide +kernel)
theorem mw_143 : Cond.methodLink "WayTableLaw" 36 (⟨"WayTableModel", "start", "(I)Z"⟩ : MethodName) ∈ T0 := T0_in (List.mem_append_right _ (List.mem_of_getElem? (i := 425) (by decide +kernel))) (by decide +kernel)
theorem mw_144 : Cond.methodLink "WayTableLaw" 37 (⟨"WayTable", "make", "()I"⟩ : MethodName) ∈ T0 := T0_in (List.mem_append_right _ (List.mem_of_getElem? (i := 159) (by decide +kernel))) (by decide +kernel)
theorem mw_145 : Cond.methodLink "WayTableLaw" 41 (⟨"WayTableModel", "make", "()I"⟩ : MethodName) ∈ T0 := T0_in (List.mem_append_right _ (List.mem_of_getElem? (i := 430) (by decide +kernel))) (by decide +kernel)
theorem mw_146 : Cond.methodLink "WayTableLaw" 42 (⟨"WayTable", "home", "()V"⟩ : MethodName) ∈ T0 := T0_in (List.mem_append_right _ (List.mem_of_getElem? (i := 232) (by decide +kernel))) (by decide +kernel)
theorem mw_147 : Cond.methodLink "WayTableLaw" 45 (⟨"WayTableModel", "home", "()V"⟩ : MethodName) ∈ T0 := T0_in (List.mem_append_right _ (List.mem_of_getElem? (i := 431) (by decide +kernel))) (by decide +kernel)
theorem mw_148 : Cond.methodLink "WayTableLaw" 46 (⟨"WayTable", "go", "(I)I"⟩ : MethodName) ∈ T0 := T0_in (List.mem_append_right _ (List.mem_of_getElem? (i := 236) (by decide +kernel))) (by decide +kernel)
theorem mw_149 : Cond.methodLink "WayTableLaw" 50 (⟨"WayTableModel", "go", "(I)I"⟩ : MethodName) ∈ T0 := T0_in (List.mem_append_right _ (List.mem_of_getElem? (i := 435) (by decide +kernel))) (by decide +kernel)
theorem mw_150 : Cond.methodLink "WayTableLaw" 51 (⟨"WayTable", "to", "(II)I"⟩ : MethodName) ∈ T0 := T0_in (List.mem_append_right _ (List.mem_of_getElem? (i := 256) (by decide +kernel))) (by decide +kernel)
theorem mw_151 : Cond.methodLink "WayTableLaw" 54 (⟨"WayTableModel", "to", "(II)I"⟩ : MethodName) ∈ T0 := T0_in (List.mem_append_right _ (List.mem_of_getElem? (i := 443) (by decide +kernel))) (by decide +kernel)
theorem mw_152 : Cond.methodLink "WayTableLaw" 55 (⟨"WayTable", "nodes", "(I)I"⟩ : MethodName) ∈ T0 := T0_in (List.mem_append_right _ (List.mem_of_getElem? (i := 257) (by decide +kernel))) (by decide +kernel)
theorem mw_153 : Cond.methodLink "WayTableLaw" 58 (⟨"WayTableModel", "nodes", "(I)I"⟩ : MethodName) ∈ T0 := T0_in (List.mem_append_right _ (List.mem_of_getElem? (i := 451) (by decide +kernel))) (by decide +kernel)
theorem mw_154 : Cond.methodLink "WayTableLaw" 59 (⟨"WayTable", "state", "(I)I"⟩ : MethodName) ∈ T0 := T0_in (List.mem_append_right _ (List.mem_of_getElem? (i := 265) (by decide +kernel))) (by decide +kernel)
theorem mw_155 : Cond.methodLink "WayTableLaw" 62 (⟨"WayTableModel", "state", "(I)I"⟩ : MethodName) ∈ T0 := T0_in (List.mem_append_right _ (List.mem_of_getElem? (i := 455) (by decide +kernel))) (by decide +kernel)
theorem mw_156 : Cond.methodLink "WayTableLaw" 63 (⟨"WayTable", "apart", "(II)I"⟩ : MethodName) ∈ T0 := T0_in (List.mem_append_right _ (List.mem_of_getElem? (i := 269) (by decide +kernel))) (by decide +kernel)
theorem mw_157 : Cond.methodLink "WayTableLaw" 66 (⟨"WayTableModel", "apart", "(II)I"⟩ : MethodName) ∈ T0 := T0_in (List.mem_append_right _ (List.mem_of_getElem? (i := 459) (by decide +kernel))) (by decide +kernel)
theorem mw_158 : Cond.methodLink "WayTableLaw" 67 (⟨"WayTable", "apartBy", "(III)I"⟩ : MethodName) ∈ T0 := T0_in (List.mem_append_right _ (List.mem_of_getElem? (i := 277) (by decide +kernel))) (by decide +kernel)
theorem mw_159 : Cond.methodLink "WayTableLaw" 71 (⟨"WayTableModel", "apartBy", "(III)I"⟩ : MethodName) ∈ T0 := T0_in (List.mem_append_right _ (List.mem_of_getElem? (i := 463) (by decide +kernel))) (by decide +kernel)
theorem mw_160 : Cond.methodLink "WayTableLaw" 72 (⟨"WayTable", "is", "(III)Z"⟩ : MethodName) ∈ T0 := T0_in (List.mem_append_right _ (List.mem_of_getElem? (i := 295) (by decide +kernel))) (by decide +kernel)
theorem mw_161 : Cond.methodLink "WayTableLaw" 76 (⟨"WayTableModel", "is", "(III)Z"⟩ : MethodName) ∈ T0 := T0_in (List.mem_append_right _ (List.mem_of_getElem? (i := 429) (by decide +kernel))) (by decide +kernel)
theorem mw_162 : Cond.methodLink "WayTableLaw" 77 (⟨"WayTable", "look", "(I)I"⟩ : MethodName) ∈ T0 := T0_in (List.mem_append_right _ (List.mem_of_getElem? (i := 299) (by decide +kernel))) (by decide +kernel)
theorem mw_163 : Cond.methodLink "WayTableLaw" 80 (⟨"WayTableModel", "look", "(I)I"⟩ : MethodName) ∈ T0 := T0_in (List.mem_append_right _ (List.mem_of_getElem? (i := 467) (by decide +kernel))) (by decide +kernel)
theorem mw_164 : Cond.instantiable "WayTable" 3 ∈ T0 := T0_in (List.mem_append_right _ (List.mem_of_getElem? (i := 10) (by decide +kernel))) (by decide +kernel)
theorem mw_165 : Cond.instantiable "WayTableModel" 17 ∈ T0 := T0_in (List.mem_append_right _ (List.mem_of_getElem? (i := 319) (by decide +kernel))) (by decide +kernel)
theorem mw_166 : Cond.classLink "WayTableLaw" 7 "WayTable" ∈ T0 := T0_in (List.mem_append_right _ (List.mem_of_getElem? (i := 9) (by decide +kernel))) (by decide +kernel)
theorem mw_167 : Cond.initialized "WayTable" ∈ T0 := T0_in (List.mem_append_right _ (List.mem_of_getElem? (i := 1) (by decide +kernel))) (by decide +kernel)
theorem mw_168 : Cond.methodLink "WayTableLaw" 9 (⟨"WayTable", "<init>", "()V"⟩ : MethodName) ∈ T0 := T0_in (List.mem_append_right _ (List.mem_of_getElem? (i := 11) (by decide +kernel))) (by decide +kernel)
theorem mw_169 : Cond.classLink "WayTableLaw" 10 "WayTableModel" ∈ T0 := T0_in (List.mem_append_right _ (List.mem_of_getElem? (i := 318) (by decide +kernel))) (by decide +kernel)
theorem mw_170 : Cond.initialized "WayTableModel" ∈ T0 := T0_in (List.mem_append_right _ (List.mem_of_getElem? (i := 4) (by decide +kernel))) (by decide +kernel)
theorem mw_171 : Cond.methodLink "WayTableLaw" 12 (⟨"WayTableModel", "<init>", "()V"⟩ : MethodName) ∈ T0 := T0_in (List.mem_append_right _ (List.mem_of_getElem? (i := 320) (by decide +kernel))) (by decide +kernel)
theorem mw_172 : Cond.code (⟨"java/util/Arrays", "fill", "([II)V"⟩ : MethodName) prog_9_method_103_code 4 (Option.none : Option Jvm.ClassFile.FieldType) ∈ T0 := T0_in (List.mem_append_right _ (List.mem_of_getElem? (i := 111) (by decide +kernel))) (by decide +kernel)
theorem mw_173 : Cond.initialized "java/util/Arrays" ∈ T0 := T0_in (List.mem_append_right _ (List.mem_of_getElem? (i := 5) (by decide +kernel))) (by decide +kernel)
theorem mw_174 : Cond.static (⟨"java/util/Arrays", "fill", "([II)V"⟩ : MethodName) ∈ T0 := T0_in (List.mem_append_right _ (List.mem_of_getElem? (i := 110) (by decide +kernel))) (by decide +kernel)
theorem mw_175 : Cond.code (⟨"WayTable$Graph", "clear", "(II)V"⟩ : MethodName) prog_2_method_3_code 3 (Option.none : Option Jvm.ClassFile.FieldType) ∈ T0 := T0_in (List.mem_append_right _ (List.mem_of_getElem? (i := 108) (by decide +kernel))) (by decide +kernel)
theorem mw_176 : Cond.instanceMethod (⟨"WayTable$Graph", "clear", "(II)V"⟩ : MethodName) ∈ T0 := T0_in (List.mem_append_right _ (List.mem_of_getElem? (i := 107) (by decide +kernel))) (by decide +kernel)
theorem mw_177 : Cond.selects "WayTable$Graph" (⟨"WayTable$Graph", "clear", "(II)V"⟩ : MethodName) (⟨"WayTable$Graph", "clear", "(II)V"⟩ : MethodName) ∈ T0 := T0_in (by decide +kernel) (by decide +kernel)
theorem mw_178 : Cond.code (⟨"WayTable", "begin", "(II)Z"⟩ : MethodName) prog_1_method_2_code 3 (Option.some Jvm.ClassFile.FieldType.boolean) ∈ T0 := T0_in (List.mem_append_right _ (List.mem_of_getElem? (i := 104) (by decide +kernel))) (by decide +kernel)
theorem mw_179 : Cond.instanceMethod (⟨"WayTable", "begin", "(II)Z"⟩ : MethodName) ∈ T0 := T0_in (List.mem_append_right _ (List.mem_of_getElem? (i := 102) (by decide +kernel))) (by decide +kernel)
theorem mw_180 : Cond.selects "WayTable" (⟨"WayTable", "begin", "(II)Z"⟩ : MethodName) (⟨"WayTable", "begin", "(II)Z"⟩ : MethodName) ∈ T0 := T0_in (List.mem_append_right _ (List.mem_of_getElem? (i := 103) (by decide +kernel))) (by decide +kernel)
theorem mw_181 : Cond.code (⟨"WayTableModel", "begin", "(II)Z"⟩ : MethodName) prog_5_method_5_code 4 (Option.some Jvm.ClassFile.FieldType.boolean) ∈ T0 := T0_in (List.mem_append_right _ (List.mem_of_getElem? (i := 399) (by decide +kernel))) (by decide +kernel)
theorem mw_182 : Cond.instanceMethod (⟨"WayTableModel", "begin", "(II)Z"⟩ : MethodName) ∈ T0 := T0_in (List.mem_append_right _ (List.mem_of_getElem? (i := 397) (by decide +kernel))) (by decide +kernel)
theorem mw_183 : Cond.selects "WayTableModel" (⟨"WayTableModel", "begin", "(II)Z"⟩ : MethodName) (⟨"WayTableModel", "begin", "(II)Z"⟩ : MethodName) ∈ T0 := T0_in (List.mem_append_right _ (List.mem_of_getElem? (i := 398) (by decide +kernel))) (by decide +kernel)
theorem mw_184 : Cond.code (⟨"WayTable$Graph", "hasNode", "(I)Z"⟩ : MethodName) prog_2_method_4_code 2 (Option.some Jvm.ClassFile.FieldType.boolean) ∈ T0 := T0_in (List.mem_append_right _ (List.mem_of_getElem? (i := 123) (by decide +kernel))) (by decide +kernel)
theorem mw_185 : Cond.instanceMethod (⟨"WayTable$Graph", "hasNode", "(I)Z"⟩ : MethodName) ∈ T0 := T0_in (List.mem_append_right _ (List.mem_of_getElem? (i := 122) (by decide +kernel))) (by decide +kernel)
theorem mw_186 : Cond.selects "WayTable$Graph" (⟨"WayTable$Graph", "hasNode", "(I)Z"⟩ : MethodName) (⟨"WayTable$Graph", "hasNode", "(I)Z"⟩ : MethodName) ∈ T0 := T0_in (by decide +kernel) (by decide +kernel)
theorem mw_187 : Cond.code (⟨"WayTable$Graph", "hasLetter", "(I)Z"⟩ : MethodName) prog_2_method_5_code 2 (Option.some Jvm.ClassFile.FieldType.boolean) ∈ T0 := T0_in (List.mem_append_right _ (List.mem_of_getElem? (i := 127) (by decide +kernel))) (by decide +kernel)
theorem mw_188 : Cond.instanceMethod (⟨"WayTable$Graph", "hasLetter", "(I)Z"⟩ : MethodName) ∈ T0 := T0_in (List.mem_append_right _ (List.mem_of_getElem? (i := 126) (by decide +kernel))) (by decide +kernel)
theorem mw_189 : Cond.selects "WayTable$Graph" (⟨"WayTable$Graph", "hasLetter", "(I)Z"⟩ : MethodName) (⟨"WayTable$Graph", "hasLetter", "(I)Z"⟩ : MethodName) ∈ T0 := T0_in (by decide +kernel) (by decide +kernel)
theorem mw_190 : Cond.code (⟨"WayTable$Graph", "canHold", "(III)Z"⟩ : MethodName) prog_2_method_6_code 4 (Option.some Jvm.ClassFile.FieldType.boolean) ∈ T0 := T0_in (List.mem_append_right _ (List.mem_of_getElem? (i := 119) (by decide +kernel))) (by decide +kernel)
theorem mw_191 : Cond.instanceMethod (⟨"WayTable$Graph", "canHold", "(III)Z"⟩ : MethodName) ∈ T0 := T0_in (List.mem_append_right _ (List.mem_of_getElem? (i := 118) (by decide +kernel))) (by decide +kernel)
theorem mw_192 : Cond.selects "WayTable$Graph" (⟨"WayTable$Graph", "canHold", "(III)Z"⟩ : MethodName) (⟨"WayTable$Graph", "canHold", "(III)Z"⟩ : MethodName) ∈ T0 := T0_in (by decide +kernel) (by decide +kernel)
theorem mw_193 : Cond.code (⟨"WayTable$Graph", "place", "(II)I"⟩ : MethodName) prog_2_method_2_code 2 (Option.some Jvm.ClassFile.FieldType.int) ∈ T0 := T0_in (List.mem_append_right _ (List.mem_of_getElem? (i := 134) (by decide +kernel))) (by decide +kernel)
theorem mw_194 : Cond.static (⟨"WayTable$Graph", "place", "(II)I"⟩ : MethodName) ∈ T0 := T0_in (List.mem_append_right _ (List.mem_of_getElem? (i := 133) (by decide +kernel))) (by decide +kernel)
theorem mw_195 : Cond.code (⟨"WayTable$Graph", "holds", "(III)Z"⟩ : MethodName) prog_2_method_7_code 4 (Option.some Jvm.ClassFile.FieldType.boolean) ∈ T0 := T0_in (List.mem_append_right _ (List.mem_of_getElem? (i := 131) (by decide +kernel))) (by decide +kernel)
theorem mw_196 : Cond.instanceMethod (⟨"WayTable$Graph", "holds", "(III)Z"⟩ : MethodName) ∈ T0 := T0_in (List.mem_append_right _ (List.mem_of_getElem? (i := 130) (by decide +kernel))) (by decide +kernel)
theorem mw_197 : Cond.selects "WayTable$Graph" (⟨"WayTable$Graph", "holds", "(III)Z"⟩ : MethodName) (⟨"WayTable$Graph", "holds", "(III)Z"⟩ : MethodName) ∈ T0 := T0_in (by decide +kernel) (by decide +kernel)
theorem mw_198 : Cond.code (⟨"WayTable$Graph", "flip", "(III)V"⟩ : MethodName) prog_2_method_8_code 4 (Option.none : Option Jvm.ClassFile.FieldType) ∈ T0 := T0_in (List.mem_append_right _ (List.mem_of_getElem? (i := 138) (by decide +kernel))) (by decide +kernel)
theorem mw_199 : Cond.instanceMethod (⟨"WayTable$Graph", "flip", "(III)V"⟩ : MethodName) ∈ T0 := T0_in (List.mem_append_right _ (List.mem_of_getElem? (i := 137) (by decide +kernel))) (by decide +kernel)
theorem mw_200 : Cond.selects "WayTable$Graph" (⟨"WayTable$Graph", "flip", "(III)V"⟩ : MethodName) (⟨"WayTable$Graph", "flip", "(III)V"⟩ : MethodName) ∈ T0 := T0_in (by decide +kernel) (by decide +kernel)
theorem mw_201 : Cond.code (⟨"WayTable", "way", "(IIIZ)Z"⟩ : MethodName) prog_1_method_3_code 5 (Option.some Jvm.ClassFile.FieldType.boolean) ∈ T0 := T0_in (List.mem_append_right _ (List.mem_of_getElem? (i := 115) (by decide +kernel))) (by decide +kernel)
theorem mw_202 : Cond.instanceMethod (⟨"WayTable", "way", "(IIIZ)Z"⟩ : MethodName) ∈ T0 := T0_in (List.mem_append_right _ (List.mem_of_getElem? (i := 113) (by decide +kernel))) (by decide +kernel)
theorem mw_203 : Cond.selects "WayTable" (⟨"WayTable", "way", "(IIIZ)Z"⟩ : MethodName) (⟨"WayTable", "way", "(IIIZ)Z"⟩ : MethodName) ∈ T0 := T0_in (List.mem_append_right _ (List.mem_of_getElem? (i := 114) (by decide +kernel))) (by decide +kernel)
theorem mw_204 : Cond.code (⟨"WayTableModel", "isNode", "(I)Z"⟩ : MethodName) prog_5_method_3_code 2 (Option.some Jvm.ClassFile.FieldType.boolean) ∈ T0 := T0_in (List.mem_append_right _ (List.mem_of_getElem? (i := 407) (by decide +kernel))) (by decide +kernel)
theorem mw_205 : Cond.instanceMethod (⟨"WayTableModel", "isNode", "(I)Z"⟩ : MethodName) ∈ T0 := T0_in (List.mem_append_right _ (List.mem_of_getElem? (i := 406) (by decide +kernel))) (by decide +kernel)
theorem mw_206 : Cond.selects "WayTableModel" (⟨"WayTableModel", "isNode", "(I)Z"⟩ : MethodName) (⟨"WayTableModel", "isNode", "(I)Z"⟩ : MethodName) ∈ T0 := T0_in (by decide +kernel) (by decide +kernel)
theorem mw_207 : Cond.code (⟨"WayTableModel", "isLetter", "(I)Z"⟩ : MethodName) prog_5_method_4_code 2 (Option.some Jvm.ClassFile.FieldType.boolean) ∈ T0 := T0_in (List.mem_append_right _ (List.mem_of_getElem? (i := 411) (by decide +kernel))) (by decide +kernel)
theorem mw_208 : Cond.instanceMethod (⟨"WayTableModel", "isLetter", "(I)Z"⟩ : MethodName) ∈ T0 := T0_in (List.mem_append_right _ (List.mem_of_getElem? (i := 410) (by decide +kernel))) (by decide +kernel)
theorem mw_209 : Cond.selects "WayTableModel" (⟨"WayTableModel", "isLetter", "(I)Z"⟩ : MethodName) (⟨"WayTableModel", "isLetter", "(I)Z"⟩ : MethodName) ∈ T0 := T0_in (by decide +kernel) (by decide +kernel)
theorem mw_210 : Cond.code (⟨"WayTableModel", "is", "(III)Z"⟩ : MethodName) prog_5_method_10_code 4 (Option.some Jvm.ClassFile.FieldType.boolean) ∈ T0 := T0_in (List.mem_append_right _ (List.mem_of_getElem? (i := 415) (by decide +kernel))) (by decide +kernel)
theorem mw_211 : Cond.instanceMethod (⟨"WayTableModel", "is", "(III)Z"⟩ : MethodName) ∈ T0 := T0_in (List.mem_append_right _ (List.mem_of_getElem? (i := 413) (by decide +kernel))) (by decide +kernel)
theorem mw_212 : Cond.selects "WayTableModel" (⟨"WayTableModel", "is", "(III)Z"⟩ : MethodName) (⟨"WayTableModel", "is", "(III)Z"⟩ : MethodName) ∈ T0 := T0_in (List.mem_append_right _ (List.mem_of_getElem? (i := 414) (by decide +kernel))) (by decide +kernel)
theorem mw_213 : Cond.code (⟨"WayTableModel", "way", "(IIIZ)Z"⟩ : MethodName) prog_5_method_6_code 5 (Option.some Jvm.ClassFile.FieldType.boolean) ∈ T0 := T0_in (List.mem_append_right _ (List.mem_of_getElem? (i := 403) (by decide +kernel))) (by decide +kernel)
theorem mw_214 : Cond.instanceMethod (⟨"WayTableModel", "way", "(IIIZ)Z"⟩ : MethodName) ∈ T0 := T0_in (List.mem_append_right _ (List.mem_of_getElem? (i := 401) (by decide +kernel))) (by decide +kernel)
theorem mw_215 : Cond.selects "WayTableModel" (⟨"WayTableModel", "way", "(IIIZ)Z"⟩ : MethodName) (⟨"WayTableModel", "way", "(IIIZ)Z"⟩ : MethodName) ∈ T0 := T0_in (List.mem_append_right _ (List.mem_of_getElem? (i := 402) (by decide +kernel))) (by decide +kernel)
theorem mw_216 : Cond.code (⟨"WayTable", "fill", "(II)I"⟩ : MethodName) prog_1_method_4_code 5 (Option.some Jvm.ClassFile.FieldType.int) ∈ T0 := T0_in (List.mem_append_right _ (List.mem_of_getElem? (i := 142) (by decide +kernel))) (by decide +kernel)
theorem mw_217 : Cond.instanceMethod (⟨"WayTable", "fill", "(II)I"⟩ : MethodName) ∈ T0 := T0_in (List.mem_append_right _ (List.mem_of_getElem? (i := 140) (by decide +kernel))) (by decide +kernel)
theorem mw_218 : Cond.selects "WayTable" (⟨"WayTable", "fill", "(II)I"⟩ : MethodName) (⟨"WayTable", "fill", "(II)I"⟩ : MethodName) ∈ T0 := T0_in (List.mem_append_right _ (List.mem_of_getElem? (i := 141) (by decide +kernel))) (by decide +kernel)
theorem mw_219 : Cond.code (⟨"WayTableModel", "fill", "(II)I"⟩ : MethodName) prog_5_method_7_code 5 (Option.some Jvm.ClassFile.FieldType.int) ∈ T0 := T0_in (List.mem_append_right _ (List.mem_of_getElem? (i := 419) (by decide +kernel))) (by decide +kernel)
theorem mw_220 : Cond.instanceMethod (⟨"WayTableModel", "fill", "(II)I"⟩ : MethodName) ∈ T0 := T0_in (List.mem_append_right _ (List.mem_of_getElem? (i := 417) (by decide +kernel))) (by decide +kernel)
theorem mw_221 : Cond.selects "WayTableModel" (⟨"WayTableModel", "fill", "(II)I"⟩ : MethodName) (⟨"WayTableModel", "fill", "(II)I"⟩ : MethodName) ∈ T0 := T0_in (List.mem_append_right _ (List.mem_of_getElem? (i := 418) (by decide +kernel))) (by decide +kernel)
theorem mw_222 : Cond.code (⟨"WayTable$Graph", "transpose", "(I)V"⟩ : MethodName) prog_2_method_9_code 4 (Option.none : Option Jvm.ClassFile.FieldType) ∈ T0 := T0_in (List.mem_append_right _ (List.mem_of_getElem? (i := 152) (by decide +kernel))) (by decide +kernel)
theorem mw_223 : Cond.instanceMethod (⟨"WayTable$Graph", "transpose", "(I)V"⟩ : MethodName) ∈ T0 := T0_in (List.mem_append_right _ (List.mem_of_getElem? (i := 151) (by decide +kernel))) (by decide +kernel)
theorem mw_224 : Cond.selects "WayTable$Graph" (⟨"WayTable$Graph", "transpose", "(I)V"⟩ : MethodName) (⟨"WayTable$Graph", "transpose", "(I)V"⟩ : MethodName) ∈ T0 := T0_in (by decide +kernel) (by decide +kernel)
theorem mw_225 : Cond.code (⟨"WayTable", "turn", "()V"⟩ : MethodName) prog_1_method_5_code 2 (Option.none : Option Jvm.ClassFile.FieldType) ∈ T0 := T0_in (List.mem_append_right _ (List.mem_of_getElem? (i := 148) (by decide +kernel))) (by decide +kernel)
theorem mw_226 : Cond.instanceMethod (⟨"WayTable", "turn", "()V"⟩ : MethodName) ∈ T0 := T0_in (List.mem_append_right _ (List.mem_of_getElem? (i := 146) (by decide +kernel))) (by decide +kernel)
theorem mw_227 : Cond.selects "WayTable" (⟨"WayTable", "turn", "()V"⟩ : MethodName) (⟨"WayTable", "turn", "()V"⟩ : MethodName) ∈ T0 := T0_in (List.mem_append_right _ (List.mem_of_getElem? (i := 147) (by decide +kernel))) (by decide +kernel)
theorem mw_228 : Cond.code (⟨"WayTableModel", "turn", "()V"⟩ : MethodName) prog_5_method_8_code 6 (Option.none : Option Jvm.ClassFile.FieldType) ∈ T0 := T0_in (List.mem_append_right _ (List.mem_of_getElem? (i := 424) (by decide +kernel))) (by decide +kernel)
theorem mw_229 : Cond.instanceMethod (⟨"WayTableModel", "turn", "()V"⟩ : MethodName) ∈ T0 := T0_in (List.mem_append_right _ (List.mem_of_getElem? (i := 422) (by decide +kernel))) (by decide +kernel)
theorem mw_230 : Cond.selects "WayTableModel" (⟨"WayTableModel", "turn", "()V"⟩ : MethodName) (⟨"WayTableModel", "turn", "()V"⟩ : MethodName) ∈ T0 := T0_in (List.mem_append_right _ (List.mem_of_getElem? (i := 423) (by decide +kernel))) (by decide +kernel)
theorem mw_231 : Cond.code (⟨"WayTable", "start", "(I)Z"⟩ : MethodName) prog_1_method_6_code 2 (Option.some Jvm.ClassFile.FieldType.boolean) ∈ T0 := T0_in (List.mem_append_right _ (List.mem_of_getElem? (i := 158) (by decide +kernel))) (by decide +kernel)
theorem mw_232 : Cond.instanceMethod (⟨"WayTable", "start", "(I)Z"⟩ : MethodName) ∈ T0 := T0_in (List.mem_append_right _ (List.mem_of_getElem? (i := 156) (by decide +kernel))) (by decide +kernel)
theorem mw_233 : Cond.selects "WayTable" (⟨"WayTable", "start", "(I)Z"⟩ : MethodName) (⟨"WayTable", "start", "(I)Z"⟩ : MethodName) ∈ T0 := T0_in (List.mem_append_right _ (List.mem_of_getElem? (i := 157) (by decide +kernel))) (by decide +kernel)
theorem mw_234 : Cond.code (⟨"WayTableModel", "start", "(I)Z"⟩ : MethodName) prog_5_method_9_code 2 (Option.some Jvm.ClassFile.FieldType.boolean) ∈ T0 := T0_in (List.mem_append_right _ (List.mem_of_getElem? (i := 428) (by decide +kernel))) (by decide +kernel)
theorem mw_235 : Cond.instanceMethod (⟨"WayTableModel", "start", "(I)Z"⟩ : MethodName) ∈ T0 := T0_in (List.mem_append_right _ (List.mem_of_getElem? (i := 426) (by decide +kernel))) (by decide +kernel)
theorem mw_236 : Cond.selects "WayTableModel" (⟨"WayTableModel", "start", "(I)Z"⟩ : MethodName) (⟨"WayTableModel", "start", "(I)Z"⟩ : MethodName) ∈ T0 := T0_in (List.mem_append_right _ (List.mem_of_getElem? (i := 427) (by decide +kernel))) (by decide +kernel)
theorem mw_237 : Cond.code (⟨"WayTable$Graph", "reach", "(II)I"⟩ : MethodName) prog_2_method_11_code 5 (Option.some Jvm.ClassFile.FieldType.int) ∈ T0 := T0_in (List.mem_append_right _ (List.mem_of_getElem? (i := 174) (by decide +kernel))) (by decide +kernel)
theorem mw_238 : Cond.instanceMethod (⟨"WayTable$Graph", "reach", "(II)I"⟩ : MethodName) ∈ T0 := T0_in (List.mem_append_right _ (List.mem_of_getElem? (i := 173) (by decide +kernel))) (by decide +kernel)
theorem mw_239 : Cond.selects "WayTable$Graph" (⟨"WayTable$Graph", "reach", "(II)I"⟩ : MethodName) (⟨"WayTable$Graph", "reach", "(II)I"⟩ : MethodName) ∈ T0 := T0_in (by decide +kernel) (by decide +kernel)
theorem mw_240 : Cond.code (⟨"WayTable$Table", "indexOf", "([III)I"⟩ : MethodName) prog_3_method_7_code 4 (Option.some Jvm.ClassFile.FieldType.int) ∈ T0 := T0_in (List.mem_append_right _ (List.mem_of_getElem? (i := 177) (by decide +kernel))) (by decide +kernel)
theorem mw_241 : Cond.static (⟨"WayTable$Table", "indexOf", "([III)I"⟩ : MethodName) ∈ T0 := T0_in (List.mem_append_right _ (List.mem_of_getElem? (i := 176) (by decide +kernel))) (by decide +kernel)
theorem mw_242 : Cond.code (⟨"WayTable$Table", "findSets", "(LWayTable$Graph;)I"⟩ : MethodName) prog_3_method_6_code 6 (Option.some Jvm.ClassFile.FieldType.int) ∈ T0 := T0_in (List.mem_append_right _ (List.mem_of_getElem? (i := 170) (by decide +kernel))) (by decide +kernel)
theorem mw_243 : Cond.instanceMethod (⟨"WayTable$Table", "findSets", "(LWayTable$Graph;)I"⟩ : MethodName) ∈ T0 := T0_in (List.mem_append_right _ (List.mem_of_getElem? (i := 169) (by decide +kernel))) (by decide +kernel)
theorem mw_244 : Cond.selects "WayTable$Table" (⟨"WayTable$Table", "findSets", "(LWayTable$Graph;)I"⟩ : MethodName) (⟨"WayTable$Table", "findSets", "(LWayTable$Graph;)I"⟩ : MethodName) ∈ T0 := T0_in (by decide +kernel) (by decide +kernel)
theorem mw_245 : Cond.code (⟨"WayTable$Table", "laySteps", "(LWayTable$Graph;)V"⟩ : MethodName) prog_3_method_8_code 5 (Option.none : Option Jvm.ClassFile.FieldType) ∈ T0 := T0_in (List.mem_append_right _ (List.mem_of_getElem? (i := 184) (by decide +kernel))) (by decide +kernel)
theorem mw_246 : Cond.instanceMethod (⟨"WayTable$Table", "laySteps", "(LWayTable$Graph;)V"⟩ : MethodName) ∈ T0 := T0_in (List.mem_append_right _ (List.mem_of_getElem? (i := 183) (by decide +kernel))) (by decide +kernel)
theorem mw_247 : Cond.selects "WayTable$Table" (⟨"WayTable$Table", "laySteps", "(LWayTable$Graph;)V"⟩ : MethodName) (⟨"WayTable$Table", "laySteps", "(LWayTable$Graph;)V"⟩ : MethodName) ∈ T0 := T0_in (by decide +kernel) (by decide +kernel)
theorem mw_248 : Cond.code (⟨"java/util/Arrays", "rangeCheck", "(III)V"⟩ : MethodName) prog_9_method_30_code 3 (Option.none : Option Jvm.ClassFile.FieldType) ∈ T0 := T0_in (List.mem_append_right _ (List.mem_of_getElem? (i := 194) (by decide +kernel))) (by decide +kernel)
theorem mw_249 : Cond.static (⟨"java/util/Arrays", "rangeCheck", "(III)V"⟩ : MethodName) ∈ T0 := T0_in (List.mem_append_right _ (List.mem_of_getElem? (i := 193) (by decide +kernel))) (by decide +kernel)
theorem mw_250 : Cond.code (⟨"java/util/Arrays", "fill", "([IIII)V"⟩ : MethodName) prog_9_method_104_code 5 (Option.none : Option Jvm.ClassFile.FieldType) ∈ T0 := T0_in (List.mem_append_right _ (List.mem_of_getElem? (i := 191) (by decide +kernel))) (by decide +kernel)
theorem mw_251 : Cond.static (⟨"java/util/Arrays", "fill", "([IIII)V"⟩ : MethodName) ∈ T0 := T0_in (List.mem_append_right _ (List.mem_of_getElem? (i := 190) (by decide +kernel))) (by decide +kernel)
theorem mw_252 : Cond.code (⟨"WayTable$Table", "leaderAfter", "([III)I"⟩ : MethodName) prog_3_method_13_code 5 (Option.some Jvm.ClassFile.FieldType.int) ∈ T0 := T0_in (List.mem_append_right _ (List.mem_of_getElem? (i := 210) (by decide +kernel))) (by decide +kernel)
theorem mw_253 : Cond.instanceMethod (⟨"WayTable$Table", "leaderAfter", "([III)I"⟩ : MethodName) ∈ T0 := T0_in (List.mem_append_right _ (List.mem_of_getElem? (i := 209) (by decide +kernel))) (by decide +kernel)
theorem mw_254 : Cond.selects "WayTable$Table" (⟨"WayTable$Table", "leaderAfter", "([III)I"⟩ : MethodName) (⟨"WayTable$Table", "leaderAfter", "([III)I"⟩ : MethodName) ∈ T0 := T0_in (by decide +kernel) (by decide +kernel)
theorem mw_255 : Cond.code (⟨"WayTable$Table", "goAlike", "(II)Z"⟩ : MethodName) prog_3_method_12_code 4 (Option.some Jvm.ClassFile.FieldType.boolean) ∈ T0 := T0_in (List.mem_append_right _ (List.mem_of_getElem? (i := 206) (by decide +kernel))) (by decide +kernel)
theorem mw_256 : Cond.instanceMethod (⟨"WayTable$Table", "goAlike", "(II)Z"⟩ : MethodName) ∈ T0 := T0_in (List.mem_append_right _ (List.mem_of_getElem? (i := 205) (by decide +kernel))) (by decide +kernel)
theorem mw_257 : Cond.selects "WayTable$Table" (⟨"WayTable$Table", "goAlike", "(II)Z"⟩ : MethodName) (⟨"WayTable$Table", "goAlike", "(II)Z"⟩ : MethodName) ∈ T0 := T0_in (by decide +kernel) (by decide +kernel)
theorem mw_258 : Cond.code (⟨"WayTable$Table", "findLeader", "(I)I"⟩ : MethodName) prog_3_method_11_code 4 (Option.some Jvm.ClassFile.FieldType.int) ∈ T0 := T0_in (List.mem_append_right _ (List.mem_of_getElem? (i := 202) (by decide +kernel))) (by decide +kernel)
theorem mw_259 : Cond.instanceMethod (⟨"WayTable$Table", "findLeader", "(I)I"⟩ : MethodName) ∈ T0 := T0_in (List.mem_append_right _ (List.mem_of_getElem? (i := 201) (by decide +kernel))) (by decide +kernel)
theorem mw_260 : Cond.selects "WayTable$Table" (⟨"WayTable$Table", "findLeader", "(I)I"⟩ : MethodName) (⟨"WayTable$Table", "findLeader", "(I)I"⟩ : MethodName) ∈ T0 := T0_in (by decide +kernel) (by decide +kernel)
theorem mw_261 : Cond.code (⟨"WayTable$Table", "pair", "(II)I"⟩ : MethodName) prog_3_method_15_code 3 (Option.some Jvm.ClassFile.FieldType.int) ∈ T0 := T0_in (List.mem_append_right _ (List.mem_of_getElem? (i := 217) (by decide +kernel))) (by decide +kernel)
theorem mw_262 : Cond.static (⟨"WayTable$Table", "pair", "(II)I"⟩ : MethodName) ∈ T0 := T0_in (List.mem_append_right _ (List.mem_of_getElem? (i := 216) (by decide +kernel))) (by decide +kernel)
theorem mw_263 : Cond.code (⟨"WayTable$Table", "measure", "(II)V"⟩ : MethodName) prog_3_method_14_code 5 (Option.none : Option Jvm.ClassFile.FieldType) ∈ T0 := T0_in (List.mem_append_right _ (List.mem_of_getElem? (i := 214) (by decide +kernel))) (by decide +kernel)
theorem mw_264 : Cond.instanceMethod (⟨"WayTable$Table", "measure", "(II)V"⟩ : MethodName) ∈ T0 := T0_in (List.mem_append_right _ (List.mem_of_getElem? (i := 213) (by decide +kernel))) (by decide +kernel)
theorem mw_265 : Cond.selects "WayTable$Table" (⟨"WayTable$Table", "measure", "(II)V"⟩ : MethodName) (⟨"WayTable$Table", "measure", "(II)V"⟩ : MethodName) ∈ T0 := T0_in (by decide +kernel) (by decide +kernel)
theorem mw_266 : Cond.code (⟨"WayTable$Table", "partOnce", "(I)Z"⟩ : MethodName) prog_3_method_10_code 4 (Option.some Jvm.ClassFile.FieldType.boolean) ∈ T0 := T0_in (List.mem_append_right _ (List.mem_of_getElem? (i := 198) (by decide +kernel))) (by decide +kernel)
theorem mw_267 : Cond.instanceMethod (⟨"WayTable$Table", "partOnce", "(I)Z"⟩ : MethodName) ∈ T0 := T0_in (List.mem_append_right _ (List.mem_of_getElem? (i := 197) (by decide +kernel))) (by decide +kernel)
theorem mw_268 : Cond.selects "WayTable$Table" (⟨"WayTable$Table", "partOnce", "(I)Z"⟩ : MethodName) (⟨"WayTable$Table", "partOnce", "(I)Z"⟩ : MethodName) ∈ T0 := T0_in (by decide +kernel) (by decide +kernel)
theorem mw_269 : Cond.code (⟨"WayTable$Table", "partSets", "()V"⟩ : MethodName) prog_3_method_9_code 2 (Option.none : Option Jvm.ClassFile.FieldType) ∈ T0 := T0_in (List.mem_append_right _ (List.mem_of_getElem? (i := 188) (by decide +kernel))) (by decide +kernel)
theorem mw_270 : Cond.instanceMethod (⟨"WayTable$Table", "partSets", "()V"⟩ : MethodName) ∈ T0 := T0_in (List.mem_append_right _ (List.mem_of_getElem? (i := 187) (by decide +kernel))) (by decide +kernel)
theorem mw_271 : Cond.selects "WayTable$Table" (⟨"WayTable$Table", "partSets", "()V"⟩ : MethodName) (⟨"WayTable$Table", "partSets", "()V"⟩ : MethodName) ∈ T0 := T0_in (by decide +kernel) (by decide +kernel)
theorem mw_272 : Cond.code (⟨"WayTable$Table", "numberState", "(I)V"⟩ : MethodName) prog_3_method_17_code 2 (Option.none : Option Jvm.ClassFile.FieldType) ∈ T0 := T0_in (List.mem_append_right _ (List.mem_of_getElem? (i := 231) (by decide +kernel))) (by decide +kernel)
theorem mw_273 : Cond.instanceMethod (⟨"WayTable$Table", "numberState", "(I)V"⟩ : MethodName) ∈ T0 := T0_in (List.mem_append_right _ (List.mem_of_getElem? (i := 230) (by decide +kernel))) (by decide +kernel)
theorem mw_274 : Cond.selects "WayTable$Table" (⟨"WayTable$Table", "numberState", "(I)V"⟩ : MethodName) (⟨"WayTable$Table", "numberState", "(I)V"⟩ : MethodName) ∈ T0 := T0_in (by decide +kernel) (by decide +kernel)
theorem mw_275 : Cond.code (⟨"WayTable$Table", "numberStates", "()V"⟩ : MethodName) prog_3_method_16_code 4 (Option.none : Option Jvm.ClassFile.FieldType) ∈ T0 := T0_in (List.mem_append_right _ (List.mem_of_getElem? (i := 227) (by decide +kernel))) (by decide +kernel)
theorem mw_276 : Cond.instanceMethod (⟨"WayTable$Table", "numberStates", "()V"⟩ : MethodName) ∈ T0 := T0_in (List.mem_append_right _ (List.mem_of_getElem? (i := 226) (by decide +kernel))) (by decide +kernel)
theorem mw_277 : Cond.selects "WayTable$Table" (⟨"WayTable$Table", "numberStates", "()V"⟩ : MethodName) (⟨"WayTable$Table", "numberStates", "()V"⟩ : MethodName) ∈ T0 := T0_in (by decide +kernel) (by decide +kernel)
theorem mw_278 : Cond.code (⟨"WayTable$Table", "build", "(LWayTable$Graph;)Z"⟩ : MethodName) prog_3_method_5_code 3 (Option.some Jvm.ClassFile.FieldType.boolean) ∈ T0 := T0_in (List.mem_append_right _ (List.mem_of_getElem? (i := 166) (by decide +kernel))) (by decide +kernel)
theorem mw_279 : Cond.instanceMethod (⟨"WayTable$Table", "build", "(LWayTable$Graph;)Z"⟩ : MethodName) ∈ T0 := T0_in (List.mem_append_right _ (List.mem_of_getElem? (i := 165) (by decide +kernel))) (by decide +kernel)
theorem mw_280 : Cond.selects "WayTable$Table" (⟨"WayTable$Table", "build", "(LWayTable$Graph;)Z"⟩ : MethodName) (⟨"WayTable$Table", "build", "(LWayTable$Graph;)Z"⟩ : MethodName) ∈ T0 := T0_in (by decide +kernel) (by decide +kernel)
theorem mw_281 : Cond.code (⟨"WayTable", "make", "()I"⟩ : MethodName) prog_1_method_7_code 1 (Option.some Jvm.ClassFile.FieldType.int) ∈ T0 := T0_in (List.mem_append_right _ (List.mem_of_getElem? (i := 162) (by decide +kernel))) (by decide +kernel)
theorem mw_282 : Cond.instanceMethod (⟨"WayTable", "make", "()I"⟩ : MethodName) ∈ T0 := T0_in (List.mem_append_right _ (List.mem_of_getElem? (i := 160) (by decide +kernel))) (by decide +kernel)
theorem mw_283 : Cond.selects "WayTable" (⟨"WayTable", "make", "()I"⟩ : MethodName) (⟨"WayTable", "make", "()I"⟩ : MethodName) ∈ T0 := T0_in (List.mem_append_right _ (List.mem_of_getElem? (i := 161) (by decide +kernel))) (by decide +kernel)
theorem mw_284 : Cond.code (⟨"WayTableModel", "led", "(II)I"⟩ : MethodName) prog_5_method_11_code 5 (Option.some Jvm.ClassFile.FieldType.int) ∈ T0 := T0_in (List.mem_append_right _ (List.mem_of_getElem? (i := 335) (by decide +kernel))) (by decide +kernel)
theorem mw_285 : Cond.instanceMethod (⟨"WayTableModel", "led", "(II)I"⟩ : MethodName) ∈ T0 := T0_in (List.mem_append_right _ (List.mem_of_getElem? (i := 334) (by decide +kernel))) (by decide +kernel)
theorem mw_286 : Cond.selects "WayTableModel" (⟨"WayTableModel", "led", "(II)I"⟩ : MethodName) (⟨"WayTableModel", "led", "(II)I"⟩ : MethodName) ∈ T0 := T0_in (by decide +kernel) (by decide +kernel)
theorem mw_287 : Cond.code (⟨"WayTableModel", "follow", "()I"⟩ : MethodName) prog_5_method_12_code 6 (Option.some Jvm.ClassFile.FieldType.int) ∈ T0 := T0_in (List.mem_append_right _ (List.mem_of_getElem? (i := 331) (by decide +kernel))) (by decide +kernel)
theorem mw_288 : Cond.instanceMethod (⟨"WayTableModel", "follow", "()I"⟩ : MethodName) ∈ T0 := T0_in (List.mem_append_right _ (List.mem_of_getElem? (i := 330) (by decide +kernel))) (by decide +kernel)
theorem mw_289 : Cond.selects "WayTableModel" (⟨"WayTableModel", "follow", "()I"⟩ : MethodName) (⟨"WayTableModel", "follow", "()I"⟩ : MethodName) ∈ T0 := T0_in (by decide +kernel) (by decide +kernel)
theorem mw_290 : Cond.code (⟨"WayTableModel", "tell", "(I)Z"⟩ : MethodName) prog_5_method_13_code 9 (Option.some Jvm.ClassFile.FieldType.boolean) ∈ T0 := T0_in (List.mem_append_right _ (List.mem_of_getElem? (i := 339) (by decide +kernel))) (by decide +kernel)
theorem mw_291 : Cond.instanceMethod (⟨"WayTableModel", "tell", "(I)Z"⟩ : MethodName) ∈ T0 := T0_in (List.mem_append_right _ (List.mem_of_getElem? (i := 338) (by decide +kernel))) (by decide +kernel)
theorem mw_292 : Cond.selects "WayTableModel" (⟨"WayTableModel", "tell", "(I)Z"⟩ : MethodName) (⟨"WayTableModel", "tell", "(I)Z"⟩ : MethodName) ∈ T0 := T0_in (by decide +kernel) (by decide +kernel)
theorem mw_293 : Cond.code (⟨"WayTableModel", "leastLike", "(I)I"⟩ : MethodName) prog_5_method_14_code 3 (Option.some Jvm.ClassFile.FieldType.int) ∈ T0 := T0_in (List.mem_append_right _ (List.mem_of_getElem? (i := 343) (by decide +kernel))) (by decide +kernel)
theorem mw_294 : Cond.instanceMethod (⟨"WayTableModel", "leastLike", "(I)I"⟩ : MethodName) ∈ T0 := T0_in (List.mem_append_right _ (List.mem_of_getElem? (i := 342) (by decide +kernel))) (by decide +kernel)
theorem mw_295 : Cond.selects "WayTableModel" (⟨"WayTableModel", "leastLike", "(I)I"⟩ : MethodName) (⟨"WayTableModel", "leastLike", "(I)I"⟩ : MethodName) ∈ T0 := T0_in (by decide +kernel) (by decide +kernel)
theorem mw_296 : Cond.code (⟨"WayTableModel", "make", "()I"⟩ : MethodName) prog_5_method_15_code 7 (Option.some Jvm.ClassFile.FieldType.int) ∈ T0 := T0_in (List.mem_append_right _ (List.mem_of_getElem? (i := 327) (by decide +kernel))) (by decide +kernel)
theorem mw_297 : Cond.instanceMethod (⟨"WayTableModel", "make", "()I"⟩ : MethodName) ∈ T0 := T0_in (List.mem_append_right _ (List.mem_of_getElem? (i := 325) (by decide +kernel))) (by decide +kernel)
theorem mw_298 : Cond.selects "WayTableModel" (⟨"WayTableModel", "make", "()I"⟩ : MethodName) (⟨"WayTableModel", "make", "()I"⟩ : MethodName) ∈ T0 := T0_in (List.mem_append_right _ (List.mem_of_getElem? (i := 326) (by decide +kernel))) (by decide +kernel)
theorem mw_299 : Cond.code (⟨"WayTable", "home", "()V"⟩ : MethodName) prog_1_method_8_code 1 (Option.none : Option Jvm.ClassFile.FieldType) ∈ T0 := T0_in (List.mem_append_right _ (List.mem_of_getElem? (i := 235) (by decide +kernel))) (by decide +kernel)
theorem mw_300 : Cond.instanceMethod (⟨"WayTable", "home", "()V"⟩ : MethodName) ∈ T0 := T0_in (List.mem_append_right _ (List.mem_of_getElem? (i := 233) (by decide +kernel))) (by decide +kernel)
theorem mw_301 : Cond.selects "WayTable" (⟨"WayTable", "home", "()V"⟩ : MethodName) (⟨"WayTable", "home", "()V"⟩ : MethodName) ∈ T0 := T0_in (List.mem_append_right _ (List.mem_of_getElem? (i := 234) (by decide +kernel))) (by decide +kernel)
theorem mw_302 : Cond.code (⟨"WayTableModel", "home", "()V"⟩ : MethodName) prog_5_method_16_code 1 (Option.none : Option Jvm.ClassFile.FieldType) ∈ T0 := T0_in (List.mem_append_right _ (List.mem_of_getElem? (i := 434) (by decide +kernel))) (by decide +kernel)
theorem mw_303 : Cond.instanceMethod (⟨"WayTableModel", "home", "()V"⟩ : MethodName) ∈ T0 := T0_in (List.mem_append_right _ (List.mem_of_getElem? (i := 432) (by decide +kernel))) (by decide +kernel)
theorem mw_304 : Cond.selects "WayTableModel" (⟨"WayTableModel", "home", "()V"⟩ : MethodName) (⟨"WayTableModel", "home", "()V"⟩ : MethodName) ∈ T0 := T0_in (List.mem_append_right _ (List.mem_of_getElem? (i := 433) (by decide +kernel))) (by decide +kernel)
theorem mw_305 : Cond.code (⟨"WayTable$Table", "hasState", "(I)Z"⟩ : MethodName) prog_3_method_4_code 2 (Option.some Jvm.ClassFile.FieldType.boolean) ∈ T0 := T0_in (List.mem_append_right _ (List.mem_of_getElem? (i := 247) (by decide +kernel))) (by decide +kernel)
theorem mw_306 : Cond.instanceMethod (⟨"WayTable$Table", "hasState", "(I)Z"⟩ : MethodName) ∈ T0 := T0_in (List.mem_append_right _ (List.mem_of_getElem? (i := 246) (by decide +kernel))) (by decide +kernel)
theorem mw_307 : Cond.selects "WayTable$Table" (⟨"WayTable$Table", "hasState", "(I)Z"⟩ : MethodName) (⟨"WayTable$Table", "hasState", "(I)Z"⟩ : MethodName) ∈ T0 := T0_in (by decide +kernel) (by decide +kernel)
theorem mw_308 : Cond.code (⟨"WayTable$Table", "hasLetter", "(I)Z"⟩ : MethodName) prog_3_method_2_code 2 (Option.some Jvm.ClassFile.FieldType.boolean) ∈ T0 := T0_in (List.mem_append_right _ (List.mem_of_getElem? (i := 251) (by decide +kernel))) (by decide +kernel)
theorem mw_309 : Cond.instanceMethod (⟨"WayTable$Table", "hasLetter", "(I)Z"⟩ : MethodName) ∈ T0 := T0_in (List.mem_append_right _ (List.mem_of_getElem? (i := 250) (by decide +kernel))) (by decide +kernel)
theorem mw_310 : Cond.selects "WayTable$Table" (⟨"WayTable$Table", "hasLetter", "(I)Z"⟩ : MethodName) (⟨"WayTable$Table", "hasLetter", "(I)Z"⟩ : MethodName) ∈ T0 := T0_in (by decide +kernel) (by decide +kernel)
theorem mw_311 : Cond.code (⟨"WayTable$Table", "stateAfter", "(II)I"⟩ : MethodName) prog_3_method_18_code 4 (Option.some Jvm.ClassFile.FieldType.int) ∈ T0 := T0_in (List.mem_append_right _ (List.mem_of_getElem? (i := 255) (by decide +kernel))) (by decide +kernel)
theorem mw_312 : Cond.instanceMethod (⟨"WayTable$Table", "stateAfter", "(II)I"⟩ : MethodName) ∈ T0 := T0_in (List.mem_append_right _ (List.mem_of_getElem? (i := 254) (by decide +kernel))) (by decide +kernel)
theorem mw_313 : Cond.selects "WayTable$Table" (⟨"WayTable$Table", "stateAfter", "(II)I"⟩ : MethodName) (⟨"WayTable$Table", "stateAfter", "(II)I"⟩ : MethodName) ∈ T0 := T0_in (by decide +kernel) (by decide +kernel)
theorem mw_314 : Cond.code (⟨"WayTable", "to", "(II)I"⟩ : MethodName) prog_1_method_10_code 3 (Option.some Jvm.ClassFile.FieldType.int) ∈ T0 := T0_in (List.mem_append_right _ (List.mem_of_getElem? (i := 243) (by decide +kernel))) (by decide +kernel)
theorem mw_315 : Cond.instanceMethod (⟨"WayTable", "to", "(II)I"⟩ : MethodName) ∈ T0 := T0_in (List.mem_append_right _ (List.mem_of_getElem? (i := 241) (by decide +kernel))) (by decide +kernel)
theorem mw_316 : Cond.selects "WayTable" (⟨"WayTable", "to", "(II)I"⟩ : MethodName) (⟨"WayTable", "to", "(II)I"⟩ : MethodName) ∈ T0 := T0_in (List.mem_append_right _ (List.mem_of_getElem? (i := 242) (by decide +kernel))) (by decide +kernel)
theorem mw_317 : Cond.code (⟨"WayTable", "go", "(I)I"⟩ : MethodName) prog_1_method_9_code 3 (Option.some Jvm.ClassFile.FieldType.int) ∈ T0 := T0_in (List.mem_append_right _ (List.mem_of_getElem? (i := 239) (by decide +kernel))) (by decide +kernel)
theorem mw_318 : Cond.instanceMethod (⟨"WayTable", "go", "(I)I"⟩ : MethodName) ∈ T0 := T0_in (List.mem_append_right _ (List.mem_of_getElem? (i := 237) (by decide +kernel))) (by decide +kernel)
theorem mw_319 : Cond.selects "WayTable" (⟨"WayTable", "go", "(I)I"⟩ : MethodName) (⟨"WayTable", "go", "(I)I"⟩ : MethodName) ∈ T0 := T0_in (List.mem_append_right _ (List.mem_of_getElem? (i := 238) (by decide +kernel))) (by decide +kernel)
theorem mw_320 : Cond.code (⟨"WayTableModel", "next", "(II)I"⟩ : MethodName) prog_5_method_17_code 4 (Option.some Jvm.ClassFile.FieldType.int) ∈ T0 := T0_in (List.mem_append_right _ (List.mem_of_getElem? (i := 442) (by decide +kernel))) (by decide +kernel)
theorem mw_321 : Cond.instanceMethod (⟨"WayTableModel", "next", "(II)I"⟩ : MethodName) ∈ T0 := T0_in (List.mem_append_right _ (List.mem_of_getElem? (i := 441) (by decide +kernel))) (by decide +kernel)
theorem mw_322 : Cond.selects "WayTableModel" (⟨"WayTableModel", "next", "(II)I"⟩ : MethodName) (⟨"WayTableModel", "next", "(II)I"⟩ : MethodName) ∈ T0 := T0_in (by decide +kernel) (by decide +kernel)
theorem mw_323 : Cond.code (⟨"WayTableModel", "go", "(I)I"⟩ : MethodName) prog_5_method_18_code 3 (Option.some Jvm.ClassFile.FieldType.int) ∈ T0 := T0_in (List.mem_append_right _ (List.mem_of_getElem? (i := 438) (by decide +kernel))) (by decide +kernel)
theorem mw_324 : Cond.instanceMethod (⟨"WayTableModel", "go", "(I)I"⟩ : MethodName) ∈ T0 := T0_in (List.mem_append_right _ (List.mem_of_getElem? (i := 436) (by decide +kernel))) (by decide +kernel)
theorem mw_325 : Cond.selects "WayTableModel" (⟨"WayTableModel", "go", "(I)I"⟩ : MethodName) (⟨"WayTableModel", "go", "(I)I"⟩ : MethodName) ∈ T0 := T0_in (List.mem_append_right _ (List.mem_of_getElem? (i := 437) (by decide +kernel))) (by decide +kernel)
theorem mw_326 : Cond.code (⟨"WayTableModel", "isState", "(I)Z"⟩ : MethodName) prog_5_method_19_code 2 (Option.some Jvm.ClassFile.FieldType.boolean) ∈ T0 := T0_in (List.mem_append_right _ (List.mem_of_getElem? (i := 450) (by decide +kernel))) (by decide +kernel)
theorem mw_327 : Cond.instanceMethod (⟨"WayTableModel", "isState", "(I)Z"⟩ : MethodName) ∈ T0 := T0_in (List.mem_append_right _ (List.mem_of_getElem? (i := 449) (by decide +kernel))) (by decide +kernel)
theorem mw_328 : Cond.selects "WayTableModel" (⟨"WayTableModel", "isState", "(I)Z"⟩ : MethodName) (⟨"WayTableModel", "isState", "(I)Z"⟩ : MethodName) ∈ T0 := T0_in (by decide +kernel) (by decide +kernel)
theorem mw_329 : Cond.code (⟨"WayTableModel", "to", "(II)I"⟩ : MethodName) prog_5_method_20_code 3 (Option.some Jvm.ClassFile.FieldType.int) ∈ T0 := T0_in (List.mem_append_right _ (List.mem_of_getElem? (i := 446) (by decide +kernel))) (by decide +kernel)
theorem mw_330 : Cond.instanceMethod (⟨"WayTableModel", "to", "(II)I"⟩ : MethodName) ∈ T0 := T0_in (List.mem_append_right _ (List.mem_of_getElem? (i := 444) (by decide +kernel))) (by decide +kernel)
theorem mw_331 : Cond.selects "WayTableModel" (⟨"WayTableModel", "to", "(II)I"⟩ : MethodName) (⟨"WayTableModel", "to", "(II)I"⟩ : MethodName) ∈ T0 := T0_in (List.mem_append_right _ (List.mem_of_getElem? (i := 445) (by decide +kernel))) (by decide +kernel)
theorem mw_332 : Cond.code (⟨"WayTable$Table", "hasSet", "(I)Z"⟩ : MethodName) prog_3_method_3_code 2 (Option.some Jvm.ClassFile.FieldType.boolean) ∈ T0 := T0_in (List.mem_append_right _ (List.mem_of_getElem? (i := 264) (by decide +kernel))) (by decide +kernel)
theorem mw_333 : Cond.instanceMethod (⟨"WayTable$Table", "hasSet", "(I)Z"⟩ : MethodName) ∈ T0 := T0_in (List.mem_append_right _ (List.mem_of_getElem? (i := 263) (by decide +kernel))) (by decide +kernel)
theorem mw_334 : Cond.selects "WayTable$Table" (⟨"WayTable$Table", "hasSet", "(I)Z"⟩ : MethodName) (⟨"WayTable$Table", "hasSet", "(I)Z"⟩ : MethodName) ∈ T0 := T0_in (by decide +kernel) (by decide +kernel)
theorem mw_335 : Cond.code (⟨"WayTable", "nodes", "(I)I"⟩ : MethodName) prog_1_method_11_code 2 (Option.some Jvm.ClassFile.FieldType.int) ∈ T0 := T0_in (List.mem_append_right _ (List.mem_of_getElem? (i := 260) (by decide +kernel))) (by decide +kernel)
theorem mw_336 : Cond.instanceMethod (⟨"WayTable", "nodes", "(I)I"⟩ : MethodName) ∈ T0 := T0_in (List.mem_append_right _ (List.mem_of_getElem? (i := 258) (by decide +kernel))) (by decide +kernel)
theorem mw_337 : Cond.selects "WayTable" (⟨"WayTable", "nodes", "(I)I"⟩ : MethodName) (⟨"WayTable", "nodes", "(I)I"⟩ : MethodName) ∈ T0 := T0_in (List.mem_append_right _ (List.mem_of_getElem? (i := 259) (by decide +kernel))) (by decide +kernel)
theorem mw_338 : Cond.code (⟨"WayTableModel", "nodes", "(I)I"⟩ : MethodName) prog_5_method_21_code 2 (Option.some Jvm.ClassFile.FieldType.int) ∈ T0 := T0_in (List.mem_append_right _ (List.mem_of_getElem? (i := 454) (by decide +kernel))) (by decide +kernel)
theorem mw_339 : Cond.instanceMethod (⟨"WayTableModel", "nodes", "(I)I"⟩ : MethodName) ∈ T0 := T0_in (List.mem_append_right _ (List.mem_of_getElem? (i := 452) (by decide +kernel))) (by decide +kernel)
theorem mw_340 : Cond.selects "WayTableModel" (⟨"WayTableModel", "nodes", "(I)I"⟩ : MethodName) (⟨"WayTableModel", "nodes", "(I)I"⟩ : MethodName) ∈ T0 := T0_in (List.mem_append_right _ (List.mem_of_getElem? (i := 453) (by decide +kernel))) (by decide +kernel)
theorem mw_341 : Cond.code (⟨"WayTable", "state", "(I)I"⟩ : MethodName) prog_1_method_12_code 2 (Option.some Jvm.ClassFile.FieldType.int) ∈ T0 := T0_in (List.mem_append_right _ (List.mem_of_getElem? (i := 268) (by decide +kernel))) (by decide +kernel)
theorem mw_342 : Cond.instanceMethod (⟨"WayTable", "state", "(I)I"⟩ : MethodName) ∈ T0 := T0_in (List.mem_append_right _ (List.mem_of_getElem? (i := 266) (by decide +kernel))) (by decide +kernel)
theorem mw_343 : Cond.selects "WayTable" (⟨"WayTable", "state", "(I)I"⟩ : MethodName) (⟨"WayTable", "state", "(I)I"⟩ : MethodName) ∈ T0 := T0_in (List.mem_append_right _ (List.mem_of_getElem? (i := 267) (by decide +kernel))) (by decide +kernel)
theorem mw_344 : Cond.code (⟨"WayTableModel", "state", "(I)I"⟩ : MethodName) prog_5_method_22_code 2 (Option.some Jvm.ClassFile.FieldType.int) ∈ T0 := T0_in (List.mem_append_right _ (List.mem_of_getElem? (i := 458) (by decide +kernel))) (by decide +kernel)
theorem mw_345 : Cond.instanceMethod (⟨"WayTableModel", "state", "(I)I"⟩ : MethodName) ∈ T0 := T0_in (List.mem_append_right _ (List.mem_of_getElem? (i := 456) (by decide +kernel))) (by decide +kernel)
theorem mw_346 : Cond.selects "WayTableModel" (⟨"WayTableModel", "state", "(I)I"⟩ : MethodName) (⟨"WayTableModel", "state", "(I)I"⟩ : MethodName) ∈ T0 := T0_in (List.mem_append_right _ (List.mem_of_getElem? (i := 457) (by decide +kernel))) (by decide +kernel)
theorem mw_347 : Cond.code (⟨"WayTable$Table", "rowLength", "(II)I"⟩ : MethodName) prog_3_method_20_code 3 (Option.some Jvm.ClassFile.FieldType.int) ∈ T0 := T0_in (List.mem_append_right _ (List.mem_of_getElem? (i := 276) (by decide +kernel))) (by decide +kernel)
theorem mw_348 : Cond.instanceMethod (⟨"WayTable$Table", "rowLength", "(II)I"⟩ : MethodName) ∈ T0 := T0_in (List.mem_append_right _ (List.mem_of_getElem? (i := 275) (by decide +kernel))) (by decide +kernel)
theorem mw_349 : Cond.selects "WayTable$Table" (⟨"WayTable$Table", "rowLength", "(II)I"⟩ : MethodName) (⟨"WayTable$Table", "rowLength", "(II)I"⟩ : MethodName) ∈ T0 := T0_in (by decide +kernel) (by decide +kernel)
theorem mw_350 : Cond.code (⟨"WayTable", "apart", "(II)I"⟩ : MethodName) prog_1_method_13_code 3 (Option.some Jvm.ClassFile.FieldType.int) ∈ T0 := T0_in (List.mem_append_right _ (List.mem_of_getElem? (i := 272) (by decide +kernel))) (by decide +kernel)
theorem mw_351 : Cond.instanceMethod (⟨"WayTable", "apart", "(II)I"⟩ : MethodName) ∈ T0 := T0_in (List.mem_append_right _ (List.mem_of_getElem? (i := 270) (by decide +kernel))) (by decide +kernel)
theorem mw_352 : Cond.selects "WayTable" (⟨"WayTable", "apart", "(II)I"⟩ : MethodName) (⟨"WayTable", "apart", "(II)I"⟩ : MethodName) ∈ T0 := T0_in (List.mem_append_right _ (List.mem_of_getElem? (i := 271) (by decide +kernel))) (by decide +kernel)
theorem mw_353 : Cond.code (⟨"WayTableModel", "apart", "(II)I"⟩ : MethodName) prog_5_method_23_code 3 (Option.some Jvm.ClassFile.FieldType.int) ∈ T0 := T0_in (List.mem_append_right _ (List.mem_of_getElem? (i := 462) (by decide +kernel))) (by decide +kernel)
theorem mw_354 : Cond.instanceMethod (⟨"WayTableModel", "apart", "(II)I"⟩ : MethodName) ∈ T0 := T0_in (List.mem_append_right _ (List.mem_of_getElem? (i := 460) (by decide +kernel))) (by decide +kernel)
theorem mw_355 : Cond.selects "WayTableModel" (⟨"WayTableModel", "apart", "(II)I"⟩ : MethodName) (⟨"WayTableModel", "apart", "(II)I"⟩ : MethodName) ∈ T0 := T0_in (List.mem_append_right _ (List.mem_of_getElem? (i := 461) (by decide +kernel))) (by decide +kernel)
theorem mw_356 : Cond.code (⟨"WayTable$Table", "lengthBehind", "(II)I"⟩ : MethodName) prog_3_method_23_code 3 (Option.some Jvm.ClassFile.FieldType.int) ∈ T0 := T0_in (List.mem_append_right _ (List.mem_of_getElem? (i := 294) (by decide +kernel))) (by decide +kernel)
theorem mw_357 : Cond.instanceMethod (⟨"WayTable$Table", "lengthBehind", "(II)I"⟩ : MethodName) ∈ T0 := T0_in (List.mem_append_right _ (List.mem_of_getElem? (i := 293) (by decide +kernel))) (by decide +kernel)
theorem mw_358 : Cond.selects "WayTable$Table" (⟨"WayTable$Table", "lengthBehind", "(II)I"⟩ : MethodName) (⟨"WayTable$Table", "lengthBehind", "(II)I"⟩ : MethodName) ∈ T0 := T0_in (by decide +kernel) (by decide +kernel)
theorem mw_359 : Cond.code (⟨"WayTable$Table", "leastLetter", "(III)I"⟩ : MethodName) prog_3_method_22_code 7 (Option.some Jvm.ClassFile.FieldType.int) ∈ T0 := T0_in (List.mem_append_right _ (List.mem_of_getElem? (i := 290) (by decide +kernel))) (by decide +kernel)
theorem mw_360 : Cond.instanceMethod (⟨"WayTable$Table", "leastLetter", "(III)I"⟩ : MethodName) ∈ T0 := T0_in (List.mem_append_right _ (List.mem_of_getElem? (i := 289) (by decide +kernel))) (by decide +kernel)
theorem mw_361 : Cond.selects "WayTable$Table" (⟨"WayTable$Table", "leastLetter", "(III)I"⟩ : MethodName) (⟨"WayTable$Table", "leastLetter", "(III)I"⟩ : MethodName) ∈ T0 := T0_in (by decide +kernel) (by decide +kernel)
theorem mw_362 : Cond.code (⟨"WayTable$Table", "rowLetter", "(III)I"⟩ : MethodName) prog_3_method_21_code 9 (Option.some Jvm.ClassFile.FieldType.int) ∈ T0 := T0_in (List.mem_append_right _ (List.mem_of_getElem? (i := 285) (by decide +kernel))) (by decide +kernel)
theorem mw_363 : Cond.instanceMethod (⟨"WayTable$Table", "rowLetter", "(III)I"⟩ : MethodName) ∈ T0 := T0_in (List.mem_append_right _ (List.mem_of_getElem? (i := 284) (by decide +kernel))) (by decide +kernel)
theorem mw_364 : Cond.selects "WayTable$Table" (⟨"WayTable$Table", "rowLetter", "(III)I"⟩ : MethodName) (⟨"WayTable$Table", "rowLetter", "(III)I"⟩ : MethodName) ∈ T0 := T0_in (by decide +kernel) (by decide +kernel)
theorem mw_365 : Cond.code (⟨"WayTable", "apartBy", "(III)I"⟩ : MethodName) prog_1_method_14_code 4 (Option.some Jvm.ClassFile.FieldType.int) ∈ T0 := T0_in (List.mem_append_right _ (List.mem_of_getElem? (i := 280) (by decide +kernel))) (by decide +kernel)
theorem mw_366 : Cond.instanceMethod (⟨"WayTable", "apartBy", "(III)I"⟩ : MethodName) ∈ T0 := T0_in (List.mem_append_right _ (List.mem_of_getElem? (i := 278) (by decide +kernel))) (by decide +kernel)
theorem mw_367 : Cond.selects "WayTable" (⟨"WayTable", "apartBy", "(III)I"⟩ : MethodName) (⟨"WayTable", "apartBy", "(III)I"⟩ : MethodName) ∈ T0 := T0_in (List.mem_append_right _ (List.mem_of_getElem? (i := 279) (by decide +kernel))) (by decide +kernel)
theorem mw_368 : Cond.code (⟨"WayTableModel", "apartBy", "(III)I"⟩ : MethodName) prog_5_method_24_code 8 (Option.some Jvm.ClassFile.FieldType.int) ∈ T0 := T0_in (List.mem_append_right _ (List.mem_of_getElem? (i := 466) (by decide +kernel))) (by decide +kernel)
theorem mw_369 : Cond.instanceMethod (⟨"WayTableModel", "apartBy", "(III)I"⟩ : MethodName) ∈ T0 := T0_in (List.mem_append_right _ (List.mem_of_getElem? (i := 464) (by decide +kernel))) (by decide +kernel)
theorem mw_370 : Cond.selects "WayTableModel" (⟨"WayTableModel", "apartBy", "(III)I"⟩ : MethodName) (⟨"WayTableModel", "apartBy", "(III)I"⟩ : MethodName) ∈ T0 := T0_in (List.mem_append_right _ (List.mem_of_getElem? (i := 465) (by decide +kernel))) (by decide +kernel)
theorem mw_371 : Cond.code (⟨"WayTable", "is", "(III)Z"⟩ : MethodName) prog_1_method_15_code 4 (Option.some Jvm.ClassFile.FieldType.boolean) ∈ T0 := T0_in (List.mem_append_right _ (List.mem_of_getElem? (i := 298) (by decide +kernel))) (by decide +kernel)
theorem mw_372 : Cond.instanceMethod (⟨"WayTable", "is", "(III)Z"⟩ : MethodName) ∈ T0 := T0_in (List.mem_append_right _ (List.mem_of_getElem? (i := 296) (by decide +kernel))) (by decide +kernel)
theorem mw_373 : Cond.selects "WayTable" (⟨"WayTable", "is", "(III)Z"⟩ : MethodName) (⟨"WayTable", "is", "(III)Z"⟩ : MethodName) ∈ T0 := T0_in (List.mem_append_right _ (List.mem_of_getElem? (i := 297) (by decide +kernel))) (by decide +kernel)
theorem mw_374 : Cond.code (⟨"java/lang/Integer", "bitCount", "(I)I"⟩ : MethodName) prog_6_method_49_code 1 (Option.some Jvm.ClassFile.FieldType.int) ∈ T0 := T0_in (List.mem_append_right _ (List.mem_of_getElem? (i := 309) (by decide +kernel))) (by decide +kernel)
theorem mw_375 : Cond.initialized "java/lang/Integer" ∈ T0 := T0_in (List.mem_append_right _ (List.mem_of_getElem? (i := 8) (by decide +kernel))) (by decide +kernel)
theorem mw_376 : Cond.static (⟨"java/lang/Integer", "bitCount", "(I)I"⟩ : MethodName) ∈ T0 := T0_in (List.mem_append_right _ (List.mem_of_getElem? (i := 308) (by decide +kernel))) (by decide +kernel)
theorem mw_377 : Cond.code (⟨"WayTable$Graph", "countWays", "()I"⟩ : MethodName) prog_2_method_10_code 3 (Option.some Jvm.ClassFile.FieldType.int) ∈ T0 := T0_in (List.mem_append_right _ (List.mem_of_getElem? (i := 306) (by decide +kernel))) (by decide +kernel)
theorem mw_378 : Cond.instanceMethod (⟨"WayTable$Graph", "countWays", "()I"⟩ : MethodName) ∈ T0 := T0_in (List.mem_append_right _ (List.mem_of_getElem? (i := 305) (by decide +kernel))) (by decide +kernel)
theorem mw_379 : Cond.selects "WayTable$Graph" (⟨"WayTable$Graph", "countWays", "()I"⟩ : MethodName) (⟨"WayTable$Graph", "countWays", "()I"⟩ : MethodName) ∈ T0 := T0_in (by decide +kernel) (by decide +kernel)
theorem mw_380 : Cond.code (⟨"WayTable$Table", "countGoing", "()I"⟩ : MethodName) prog_3_method_19_code 4 (Option.some Jvm.ClassFile.FieldType.int) ∈ T0 := T0_in (List.mem_append_right _ (List.mem_of_getElem? (i := 316) (by decide +kernel))) (by decide +kernel)
theorem mw_381 : Cond.instanceMethod (⟨"WayTable$Table", "countGoing", "()I"⟩ : MethodName) ∈ T0 := T0_in (List.mem_append_right _ (List.mem_of_getElem? (i := 315) (by decide +kernel))) (by decide +kernel)
theorem mw_382 : Cond.selects "WayTable$Table" (⟨"WayTable$Table", "countGoing", "()I"⟩ : MethodName) (⟨"WayTable$Table", "countGoing", "()I"⟩ : MethodName) ∈ T0 := T0_in (by decide +kernel) (by decide +kernel)
theorem mw_383 : Cond.code (⟨"WayTable", "look", "(I)I"⟩ : MethodName) prog_1_method_16_code 2 (Option.some Jvm.ClassFile.FieldType.int) ∈ T0 := T0_in (List.mem_append_right _ (List.mem_of_getElem? (i := 302) (by decide +kernel))) (by decide +kernel)
theorem mw_384 : Cond.instanceMethod (⟨"WayTable", "look", "(I)I"⟩ : MethodName) ∈ T0 := T0_in (List.mem_append_right _ (List.mem_of_getElem? (i := 300) (by decide +kernel))) (by decide +kernel)
theorem mw_385 : Cond.selects "WayTable" (⟨"WayTable", "look", "(I)I"⟩ : MethodName) (⟨"WayTable", "look", "(I)I"⟩ : MethodName) ∈ T0 := T0_in (List.mem_append_right _ (List.mem_of_getElem? (i := 301) (by decide +kernel))) (by decide +kernel)
theorem mw_386 : Cond.code (⟨"WayTableModel", "wayMany", "()I"⟩ : MethodName) prog_5_method_27_code 4 (Option.some Jvm.ClassFile.FieldType.int) ∈ T0 := T0_in (List.mem_append_right _ (List.mem_of_getElem? (i := 474) (by decide +kernel))) (by decide +kernel)
theorem mw_387 : Cond.instanceMethod (⟨"WayTableModel", "wayMany", "()I"⟩ : MethodName) ∈ T0 := T0_in (List.mem_append_right _ (List.mem_of_getElem? (i := 473) (by decide +kernel))) (by decide +kernel)
theorem mw_388 : Cond.selects "WayTableModel" (⟨"WayTableModel", "wayMany", "()I"⟩ : MethodName) (⟨"WayTableModel", "wayMany", "()I"⟩ : MethodName) ∈ T0 := T0_in (by decide +kernel) (by decide +kernel)
theorem mw_389 : Cond.code (⟨"WayTableModel", "somewhere", "()I"⟩ : MethodName) prog_5_method_25_code 4 (Option.some Jvm.ClassFile.FieldType.int) ∈ T0 := T0_in (List.mem_append_right _ (List.mem_of_getElem? (i := 478) (by decide +kernel))) (by decide +kernel)
theorem mw_390 : Cond.instanceMethod (⟨"WayTableModel", "somewhere", "()I"⟩ : MethodName) ∈ T0 := T0_in (List.mem_append_right _ (List.mem_of_getElem? (i := 477) (by decide +kernel))) (by decide +kernel)
theorem mw_391 : Cond.selects "WayTableModel" (⟨"WayTableModel", "somewhere", "()I"⟩ : MethodName) (⟨"WayTableModel", "somewhere", "()I"⟩ : MethodName) ∈ T0 := T0_in (by decide +kernel) (by decide +kernel)
theorem mw_392 : Cond.code (⟨"WayTableModel", "longest", "()I"⟩ : MethodName) prog_5_method_26_code 5 (Option.some Jvm.ClassFile.FieldType.int) ∈ T0 := T0_in (List.mem_append_right _ (List.mem_of_getElem? (i := 482) (by decide +kernel))) (by decide +kernel)
theorem mw_393 : Cond.instanceMethod (⟨"WayTableModel", "longest", "()I"⟩ : MethodName) ∈ T0 := T0_in (List.mem_append_right _ (List.mem_of_getElem? (i := 481) (by decide +kernel))) (by decide +kernel)
theorem mw_394 : Cond.selects "WayTableModel" (⟨"WayTableModel", "longest", "()I"⟩ : MethodName) (⟨"WayTableModel", "longest", "()I"⟩ : MethodName) ∈ T0 := T0_in (by decide +kernel) (by decide +kernel)
theorem mw_395 : Cond.code (⟨"WayTableModel", "look", "(I)I"⟩ : MethodName) prog_5_method_28_code 2 (Option.some Jvm.ClassFile.FieldType.int) ∈ T0 := T0_in (List.mem_append_right _ (List.mem_of_getElem? (i := 470) (by decide +kernel))) (by decide +kernel)
theorem mw_396 : Cond.instanceMethod (⟨"WayTableModel", "look", "(I)I"⟩ : MethodName) ∈ T0 := T0_in (List.mem_append_right _ (List.mem_of_getElem? (i := 468) (by decide +kernel))) (by decide +kernel)
theorem mw_397 : Cond.selects "WayTableModel" (⟨"WayTableModel", "look", "(I)I"⟩ : MethodName) (⟨"WayTableModel", "look", "(I)I"⟩ : MethodName) ∈ T0 := T0_in (List.mem_append_right _ (List.mem_of_getElem? (i := 469) (by decide +kernel))) (by decide +kernel)
theorem mw_398 : Cond.instanceMethod (⟨"WayTable$Graph", "<init>", "()V"⟩ : MethodName) ∈ T0 := T0_in (List.mem_append_right _ (List.mem_of_getElem? (i := 20) (by decide +kernel))) (by decide +kernel)
theorem mw_399 : Cond.code (⟨"WayTable$Graph", "<init>", "()V"⟩ : MethodName) prog_2_method_1_code 1 (Option.none : Option Jvm.ClassFile.FieldType) ∈ T0 := T0_in (List.mem_append_right _ (List.mem_of_getElem? (i := 21) (by decide +kernel))) (by decide +kernel)
theorem mw_400 : Cond.instanceMethod (⟨"WayTable$Table", "<init>", "()V"⟩ : MethodName) ∈ T0 := T0_in (List.mem_append_right _ (List.mem_of_getElem? (i := 45) (by decide +kernel))) (by decide +kernel)
theorem mw_401 : Cond.code (⟨"WayTable$Table", "<init>", "()V"⟩ : MethodName) prog_3_method_1_code 1 (Option.none : Option Jvm.ClassFile.FieldType) ∈ T0 := T0_in (List.mem_append_right _ (List.mem_of_getElem? (i := 46) (by decide +kernel))) (by decide +kernel)
theorem mw_402 : Cond.instanceMethod (⟨"WayTable", "<init>", "()V"⟩ : MethodName) ∈ T0 := T0_in (List.mem_append_right _ (List.mem_of_getElem? (i := 12) (by decide +kernel))) (by decide +kernel)
theorem mw_403 : Cond.code (⟨"WayTable", "<init>", "()V"⟩ : MethodName) prog_1_method_1_code 1 (Option.none : Option Jvm.ClassFile.FieldType) ∈ T0 := T0_in (List.mem_append_right _ (List.mem_of_getElem? (i := 13) (by decide +kernel))) (by decide +kernel)
theorem mw_404 : Cond.instanceMethod (⟨"WayTableModel", "<init>", "()V"⟩ : MethodName) ∈ T0 := T0_in (List.mem_append_right _ (List.mem_of_getElem? (i := 321) (by decide +kernel))) (by decide +kernel)
theorem mw_405 : Cond.code (⟨"WayTableModel", "<init>", "()V"⟩ : MethodName) prog_5_method_1_code 2 (Option.none : Option Jvm.ClassFile.FieldType) ∈ T0 := T0_in (List.mem_append_right _ (List.mem_of_getElem? (i := 322) (by decide +kernel))) (by decide +kernel)
theorem atC_0 (I : ClassId) (q : Nat → Nat) (σ : St) : (wC I q σ)[0]? = some (q 0, .inr (0, [.ref (q 1), .ref (q 3), .int (σ.1 0)])) := rfl
theorem ptC_0 (I : ClassId) (q : Nat → Nat) (σ : St) (x : Int32) : (wC I q σ).set 0 (q 0, .inr (0, ([.ref (q 1), .ref (q 3), .int (σ.1 0)] : List Value).set 2 (.int x))) = wC I q (us σ 0 x) := rfl
theorem atC_1 (I : ClassId) (q : Nat → Nat) (σ : St) : (wC I q σ)[1]? = some (q 1, .inr (1, [.int (σ.1 1), .int (σ.1 2), .int (σ.1 3), .ref (q 2)])) := rfl
theorem ptC_1 (I : ClassId) (q : Nat → Nat) (σ : St) (x : Int32) : (wC I q σ).set 1 (q 1, .inr (1, ([.int (σ.1 1), .int (σ.1 2), .int (σ.1 3), .ref (q 2)] : List Value).set 0 (.int x))) = wC I q (us σ 1 x) := rfl
theorem ptC_2 (I : ClassId) (q : Nat → Nat) (σ : St) (x : Int32) : (wC I q σ).set 1 (q 1, .inr (1, ([.int (σ.1 1), .int (σ.1 2), .int (σ.1 3), .ref (q 2)] : List Value).set 1 (.int x))) = wC I q (us σ 2 x) := rfl
theorem ptC_3 (I : ClassId) (q : Nat → Nat) (σ : St) (x : Int32) : (wC I q σ).set 1 (q 1, .inr (1, ([.int (σ.1 1), .int (σ.1 2), .int (σ.1 3), .ref (q 2)] : List Value).set 2 (.int x))) = wC I q (us σ 3 x) := rfl
theorem atC_3 (I : ClassId) (q : Nat → Nat) (σ : St) : (wC I q σ)[3]? = some (q 3, .inr (2, [.int (σ.1 4), .int (σ.1 5), .int (σ.1 6), .int (σ.1 7), .ref (q 4), .ref (q 5), .ref (q 6), .ref (q 7), .ref (q 8), .ref (q 9), .ref (q 10), .ref (q 11)])) := rfl
theorem ptC_4 (I : ClassId) (q : Nat → Nat) (σ : St) (x : Int32) : (wC I q σ).set 3 (q 3, .inr (2, ([.int (σ.1 4), .int (σ.1 5), .int (σ.1 6), .int (σ.1 7), .ref (q 4), .ref (q 5), .ref (q 6), .ref (q 7), .ref (q 8), .ref (q 9), .ref (q 10), .ref (q 11)] : List Value).set 0 (.int x))) = wC I q (us σ 4 x) := rfl
theorem ptC_5 (I : ClassId) (q : Nat → Nat) (σ : St) (x : Int32) : (wC I q σ).set 3 (q 3, .inr (2, ([.int (σ.1 4), .int (σ.1 5), .int (σ.1 6), .int (σ.1 7), .ref (q 4), .ref (q 5), .ref (q 6), .ref (q 7), .ref (q 8), .ref (q 9), .ref (q 10), .ref (q 11)] : List Value).set 1 (.int x))) = wC I q (us σ 5 x) := rfl
theorem ptC_6 (I : ClassId) (q : Nat → Nat) (σ : St) (x : Int32) : (wC I q σ).set 3 (q 3, .inr (2, ([.int (σ.1 4), .int (σ.1 5), .int (σ.1 6), .int (σ.1 7), .ref (q 4), .ref (q 5), .ref (q 6), .ref (q 7), .ref (q 8), .ref (q 9), .ref (q 10), .ref (q 11)] : List Value).set 2 (.int x))) = wC I q (us σ 6 x) := rfl
theorem ptC_7 (I : ClassId) (q : Nat → Nat) (σ : St) (x : Int32) : (wC I q σ).set 3 (q 3, .inr (2, ([.int (σ.1 4), .int (σ.1 5), .int (σ.1 6), .int (σ.1 7), .ref (q 4), .ref (q 5), .ref (q 6), .ref (q 7), .ref (q 8), .ref (q 9), .ref (q 10), .ref (q 11)] : List Value).set 3 (.int x))) = wC I q (us σ 7 x) := rfl
theorem atC_2 (I : ClassId) (q : Nat → Nat) (σ : St) : (wC I q σ)[2]? = some (q 2, .inl (I, 960, .inl (σ.2 0))) := rfl
theorem stC_2 (I : ClassId) (q : Nat → Nat) (σ : St) (g : Nat → Int32) : (wC I q σ).set 2 (q 2, .inl (I, 960, .inl g)) = wC I q (uA σ 0 g) := rfl
theorem atC_4 (I : ClassId) (q : Nat → Nat) (σ : St) : (wC I q σ)[4]? = some (q 4, .inl (I, 120, .inl (σ.2 1))) := rfl
theorem stC_4 (I : ClassId) (q : Nat → Nat) (σ : St) (g : Nat → Int32) : (wC I q σ).set 4 (q 4, .inl (I, 120, .inl g)) = wC I q (uA σ 1 g) := rfl
theorem atC_5 (I : ClassId) (q : Nat → Nat) (σ : St) : (wC I q σ)[5]? = some (q 5, .inl (I, 120, .inl (σ.2 2))) := rfl
theorem stC_5 (I : ClassId) (q : Nat → Nat) (σ : St) (g : Nat → Int32) : (wC I q σ).set 5 (q 5, .inl (I, 120, .inl g)) = wC I q (uA σ 2 g) := rfl
theorem atC_6 (I : ClassId) (q : Nat → Nat) (σ : St) : (wC I q σ)[6]? = some (q 6, .inl (I, 4800, .inl (σ.2 3))) := rfl
theorem stC_6 (I : ClassId) (q : Nat → Nat) (σ : St) (g : Nat → Int32) : (wC I q σ).set 6 (q 6, .inl (I, 4800, .inl g)) = wC I q (uA σ 3 g) := rfl
theorem atC_7 (I : ClassId) (q : Nat → Nat) (σ : St) : (wC I q σ)[7]? = some (q 7, .inl (I, 120, .inl (σ.2 4))) := rfl
theorem stC_7 (I : ClassId) (q : Nat → Nat) (σ : St) (g : Nat → Int32) : (wC I q σ).set 7 (q 7, .inl (I, 120, .inl g)) = wC I q (uA σ 4 g) := rfl
theorem atC_8 (I : ClassId) (q : Nat → Nat) (σ : St) : (wC I q σ)[8]? = some (q 8, .inl (I, 120, .inl (σ.2 5))) := rfl
theorem stC_8 (I : ClassId) (q : Nat → Nat) (σ : St) (g : Nat → Int32) : (wC I q σ).set 8 (q 8, .inl (I, 120, .inl g)) = wC I q (uA σ 5 g) := rfl
theorem atC_9 (I : ClassId) (q : Nat → Nat) (σ : St) : (wC I q σ)[9]? = some (q 9, .inl (I, 120, .inl (σ.2 6))) := rfl
theorem stC_9 (I : ClassId) (q : Nat → Nat) (σ : St) (g : Nat → Int32) : (wC I q σ).set 9 (q 9, .inl (I, 120, .inl g)) = wC I q (uA σ 6 g) := rfl
theorem atC_10 (I : ClassId) (q : Nat → Nat) (σ : St) : (wC I q σ)[10]? = some (q 10, .inl (I, 120, .inl (σ.2 7))) := rfl
theorem stC_10 (I : ClassId) (q : Nat → Nat) (σ : St) (g : Nat → Int32) : (wC I q σ).set 10 (q 10, .inl (I, 120, .inl g)) = wC I q (uA σ 7 g) := rfl
theorem atC_11 (I : ClassId) (q : Nat → Nat) (σ : St) : (wC I q σ)[11]? = some (q 11, .inl (I, 7140, .inl (σ.2 8))) := rfl
theorem stC_11 (I : ClassId) (q : Nat → Nat) (σ : St) (g : Nat → Int32) : (wC I q σ).set 11 (q 11, .inl (I, 7140, .inl g)) = wC I q (uA σ 8 g) := rfl
theorem atM_0 (I : ClassId) (q : Nat → Nat) (σ : St) : (wM I q σ)[0]? = some (q 0, .inr (3, [.int (σ.1 0), .int (σ.1 1), .int (σ.1 2), .int (σ.1 3), .ref (q 1), .int (σ.1 4), .int (σ.1 5), .ref (q 2), .ref (q 3), .ref (q 4), .ref (q 5), .ref (q 6), .ref (q 7), .int (σ.1 6), .int (σ.1 7), .ref (q 8), .ref (q 9)])) := rfl
theorem ptM_0 (I : ClassId) (q : Nat → Nat) (σ : St) (x : Int32) : (wM I q σ).set 0 (q 0, .inr (3, ([.int (σ.1 0), .int (σ.1 1), .int (σ.1 2), .int (σ.1 3), .ref (q 1), .int (σ.1 4), .int (σ.1 5), .ref (q 2), .ref (q 3), .ref (q 4), .ref (q 5), .ref (q 6), .ref (q 7), .int (σ.1 6), .int (σ.1 7), .ref (q 8), .ref (q 9)] : List Value).set 0 (.int x))) = wM I q (us σ 0 x) := rfl
theorem ptM_1 (I : ClassId) (q : Nat → Nat) (σ : St) (x : Int32) : (wM I q σ).set 0 (q 0, .inr (3, ([.int (σ.1 0), .int (σ.1 1), .int (σ.1 2), .int (σ.1 3), .ref (q 1), .int (σ.1 4), .int (σ.1 5), .ref (q 2), .ref (q 3), .ref (q 4), .ref (q 5), .ref (q 6), .ref (q 7), .int (σ.1 6), .int (σ.1 7), .ref (q 8), .ref (q 9)] : List Value).set 1 (.int x))) = wM I q (us σ 1 x) := rfl
theorem ptM_2 (I : ClassId) (q : Nat → Nat) (σ : St) (x : Int32) : (wM I q σ).set 0 (q 0, .inr (3, ([.int (σ.1 0), .int (σ.1 1), .int (σ.1 2), .int (σ.1 3), .ref (q 1), .int (σ.1 4), .int (σ.1 5), .ref (q 2), .ref (q 3), .ref (q 4), .ref (q 5), .ref (q 6), .ref (q 7), .int (σ.1 6), .int (σ.1 7), .ref (q 8), .ref (q 9)] : List Value).set 2 (.int x))) = wM I q (us σ 2 x) := rfl
theorem ptM_3 (I : ClassId) (q : Nat → Nat) (σ : St) (x : Int32) : (wM I q σ).set 0 (q 0, .inr (3, ([.int (σ.1 0), .int (σ.1 1), .int (σ.1 2), .int (σ.1 3), .ref (q 1), .int (σ.1 4), .int (σ.1 5), .ref (q 2), .ref (q 3), .ref (q 4), .ref (q 5), .ref (q 6), .ref (q 7), .int (σ.1 6), .int (σ.1 7), .ref (q 8), .ref (q 9)] : List Value).set 3 (.int x))) = wM I q (us σ 3 x) := rfl
theorem ptM_4 (I : ClassId) (q : Nat → Nat) (σ : St) (x : Int32) : (wM I q σ).set 0 (q 0, .inr (3, ([.int (σ.1 0), .int (σ.1 1), .int (σ.1 2), .int (σ.1 3), .ref (q 1), .int (σ.1 4), .int (σ.1 5), .ref (q 2), .ref (q 3), .ref (q 4), .ref (q 5), .ref (q 6), .ref (q 7), .int (σ.1 6), .int (σ.1 7), .ref (q 8), .ref (q 9)] : List Value).set 5 (.int x))) = wM I q (us σ 4 x) := rfl
theorem ptM_5 (I : ClassId) (q : Nat → Nat) (σ : St) (x : Int32) : (wM I q σ).set 0 (q 0, .inr (3, ([.int (σ.1 0), .int (σ.1 1), .int (σ.1 2), .int (σ.1 3), .ref (q 1), .int (σ.1 4), .int (σ.1 5), .ref (q 2), .ref (q 3), .ref (q 4), .ref (q 5), .ref (q 6), .ref (q 7), .int (σ.1 6), .int (σ.1 7), .ref (q 8), .ref (q 9)] : List Value).set 6 (.int x))) = wM I q (us σ 5 x) := rfl
theorem ptM_6 (I : ClassId) (q : Nat → Nat) (σ : St) (x : Int32) : (wM I q σ).set 0 (q 0, .inr (3, ([.int (σ.1 0), .int (σ.1 1), .int (σ.1 2), .int (σ.1 3), .ref (q 1), .int (σ.1 4), .int (σ.1 5), .ref (q 2), .ref (q 3), .ref (q 4), .ref (q 5), .ref (q 6), .ref (q 7), .int (σ.1 6), .int (σ.1 7), .ref (q 8), .ref (q 9)] : List Value).set 13 (.int x))) = wM I q (us σ 6 x) := rfl
theorem ptM_7 (I : ClassId) (q : Nat → Nat) (σ : St) (x : Int32) : (wM I q σ).set 0 (q 0, .inr (3, ([.int (σ.1 0), .int (σ.1 1), .int (σ.1 2), .int (σ.1 3), .ref (q 1), .int (σ.1 4), .int (σ.1 5), .ref (q 2), .ref (q 3), .ref (q 4), .ref (q 5), .ref (q 6), .ref (q 7), .int (σ.1 6), .int (σ.1 7), .ref (q 8), .ref (q 9)] : List Value).set 14 (.int x))) = wM I q (us σ 7 x) := rfl
theorem atM_1 (I : ClassId) (q : Nat → Nat) (σ : St) : (wM I q σ)[1]? = some (q 1, .inl (I, 960, .inl (σ.2 0))) := rfl
theorem stM_1 (I : ClassId) (q : Nat → Nat) (σ : St) (g : Nat → Int32) : (wM I q σ).set 1 (q 1, .inl (I, 960, .inl g)) = wM I q (uA σ 0 g) := rfl
theorem atM_2 (I : ClassId) (q : Nat → Nat) (σ : St) : (wM I q σ)[2]? = some (q 2, .inl (I, 120, .inl (σ.2 1))) := rfl
theorem stM_2 (I : ClassId) (q : Nat → Nat) (σ : St) (g : Nat → Int32) : (wM I q σ).set 2 (q 2, .inl (I, 120, .inl g)) = wM I q (uA σ 1 g) := rfl
theorem atM_3 (I : ClassId) (q : Nat → Nat) (σ : St) : (wM I q σ)[3]? = some (q 3, .inl (I, 4800, .inl (σ.2 2))) := rfl
theorem stM_3 (I : ClassId) (q : Nat → Nat) (σ : St) (g : Nat → Int32) : (wM I q σ).set 3 (q 3, .inl (I, 4800, .inl g)) = wM I q (uA σ 2 g) := rfl
theorem atM_4 (I : ClassId) (q : Nat → Nat) (σ : St) : (wM I q σ)[4]? = some (q 4, .inl (I, 14400, .inl (σ.2 3))) := rfl
theorem stM_4 (I : ClassId) (q : Nat → Nat) (σ : St) (g : Nat → Int32) : (wM I q σ).set 4 (q 4, .inl (I, 14400, .inl g)) = wM I q (uA σ 3 g) := rfl
theorem atM_5 (I : ClassId) (q : Nat → Nat) (σ : St) : (wM I q σ)[5]? = some (q 5, .inl (I, 14400, .inl (σ.2 4))) := rfl
theorem stM_5 (I : ClassId) (q : Nat → Nat) (σ : St) (g : Nat → Int32) : (wM I q σ).set 5 (q 5, .inl (I, 14400, .inl g)) = wM I q (uA σ 4 g) := rfl
theorem atM_6 (I : ClassId) (q : Nat → Nat) (σ : St) : (wM I q σ)[6]? = some (q 6, .inl (I, 120, .inl (σ.2 5))) := rfl
theorem stM_6 (I : ClassId) (q : Nat → Nat) (σ : St) (g : Nat → Int32) : (wM I q σ).set 6 (q 6, .inl (I, 120, .inl g)) = wM I q (uA σ 5 g) := rfl
theorem atM_7 (I : ClassId) (q : Nat → Nat) (σ : St) : (wM I q σ)[7]? = some (q 7, .inl (I, 120, .inl (σ.2 6))) := rfl
theorem stM_7 (I : ClassId) (q : Nat → Nat) (σ : St) (g : Nat → Int32) : (wM I q σ).set 7 (q 7, .inl (I, 120, .inl g)) = wM I q (uA σ 6 g) := rfl
theorem atM_8 (I : ClassId) (q : Nat → Nat) (σ : St) : (wM I q σ)[8]? = some (q 8, .inl (I, 121, .inl (σ.2 7))) := rfl
theorem stM_8 (I : ClassId) (q : Nat → Nat) (σ : St) (g : Nat → Int32) : (wM I q σ).set 8 (q 8, .inl (I, 121, .inl g)) = wM I q (uA σ 7 g) := rfl
theorem atM_9 (I : ClassId) (q : Nat → Nat) (σ : St) : (wM I q σ)[9]? = some (q 9, .inl (I, 4800, .inl (σ.2 8))) := rfl
theorem stM_9 (I : ClassId) (q : Nat → Nat) (σ : St) (g : Nat → Int32) : (wM I q σ).set 9 (q 9, .inl (I, 4800, .inl g)) = wM I q (uA σ 8 g) := rfl
theorem ms_A_fill2 : Ms y_A_fill2 b_A_fill2 4 none 2 := ⟨mw_174, mw_173, mw_172, by decide, by decide, by decide +kernel⟩
theorem mv_G_clear : Mv y_G_clear b_G_clear 3 none 2 := ⟨mw_176, mw_177, mw_126, mw_175, by decide, by decide, by decide +kernel⟩
theorem mv_W_begin : Mv y_W_begin b_W_begin 3 (some .boolean) 2 := ⟨mw_179, mw_180, mw_167, mw_178, by decide, by decide, by decide +kernel⟩
theorem mv_M_begin : Mv y_M_begin b_M_begin 4 (some .boolean) 2 := ⟨mw_182, mw_183, mw_170, mw_181, by decide, by decide, by decide +kernel⟩
theorem mv_G_hasNode : Mv y_G_hasNode b_G_hasNode 2 (some .boolean) 1 := ⟨mw_185, mw_186, mw_126, mw_184, by decide, by decide, by decide +kernel⟩
theorem mv_G_hasLetter : Mv y_G_hasLetter b_G_hasLetter 2 (some .boolean) 1 := ⟨mw_188, mw_189, mw_126, mw_187, by decide, by decide, by decide +kernel⟩
theorem mv_G_canHold : Mv y_G_canHold b_G_canHold 4 (some .boolean) 3 := ⟨mw_191, mw_192, mw_126, mw_190, by decide, by decide, by decide +kernel⟩
theorem ms_G_place : Ms y_G_place b_G_place 2 (some .int) 2 := ⟨mw_194, mw_126, mw_193, by decide, by decide, by decide +kernel⟩
theorem mv_G_holds : Mv y_G_holds b_G_holds 4 (some .boolean) 3 := ⟨mw_196, mw_197, mw_126, mw_195, by decide, by decide, by decide +kernel⟩
theorem mv_G_flip : Mv y_G_flip b_G_flip 4 none 3 := ⟨mw_199, mw_200, mw_126, mw_198, by decide, by decide, by decide +kernel⟩
theorem mv_W_way : Mv y_W_way b_W_way 5 (some .boolean) 4 := ⟨mw_202, mw_203, mw_167, mw_201, by decide, by decide, by decide +kernel⟩
theorem mv_M_isNode : Mv y_M_isNode b_M_isNode 2 (some .boolean) 1 := ⟨mw_205, mw_206, mw_170, mw_204, by decide, by decide, by decide +kernel⟩
theorem mv_M_isLetter : Mv y_M_isLetter b_M_isLetter 2 (some .boolean) 1 := ⟨mw_208, mw_209, mw_170, mw_207, by decide, by decide, by decide +kernel⟩
theorem mv_M_is : Mv y_M_is b_M_is 4 (some .boolean) 3 := ⟨mw_211, mw_212, mw_170, mw_210, by decide, by decide, by decide +kernel⟩
theorem mv_M_way : Mv y_M_way b_M_way 5 (some .boolean) 4 := ⟨mw_214, mw_215, mw_170, mw_213, by decide, by decide, by decide +kernel⟩
theorem mv_W_fill : Mv y_W_fill b_W_fill 5 (some .int) 2 := ⟨mw_217, mw_218, mw_167, mw_216, by decide, by decide, by decide +kernel⟩
theorem mv_M_fill : Mv y_M_fill b_M_fill 5 (some .int) 2 := ⟨mw_220, mw_221, mw_170, mw_219, by decide, by decide, by decide +kernel⟩
theorem mv_G_transpose : Mv y_G_transpose b_G_transpose 4 none 1 := ⟨mw_223, mw_224, mw_126, mw_222, by decide, by decide, by decide +kernel⟩
theorem mv_W_turn : Mv y_W_turn b_W_turn 2 none 0 := ⟨mw_226, mw_227, mw_167, mw_225, by decide, by decide, by decide +kernel⟩
theorem mv_M_turn : Mv y_M_turn b_M_turn 6 none 0 := ⟨mw_229, mw_230, mw_170, mw_228, by decide, by decide, by decide +kernel⟩
theorem mv_W_start : Mv y_W_start b_W_start 2 (some .boolean) 1 := ⟨mw_232, mw_233, mw_167, mw_231, by decide, by decide, by decide +kernel⟩
theorem mv_M_start : Mv y_M_start b_M_start 2 (some .boolean) 1 := ⟨mw_235, mw_236, mw_170, mw_234, by decide, by decide, by decide +kernel⟩
theorem mv_G_reach : Mv y_G_reach b_G_reach 5 (some .int) 2 := ⟨mw_238, mw_239, mw_126, mw_237, by decide, by decide, by decide +kernel⟩
theorem ms_T_indexOf : Ms y_T_indexOf b_T_indexOf 4 (some .int) 3 := ⟨mw_241, mw_130, mw_240, by decide, by decide, by decide +kernel⟩
theorem mv_T_findSets : Mv y_T_findSets b_T_findSets 6 (some .int) 1 := ⟨mw_243, mw_244, mw_130, mw_242, by decide, by decide, by decide +kernel⟩
theorem mv_T_laySteps : Mv y_T_laySteps b_T_laySteps 5 none 1 := ⟨mw_246, mw_247, mw_130, mw_245, by decide, by decide, by decide +kernel⟩
theorem ms_A_rangeCheck3 : Ms y_A_rangeCheck3 b_A_rangeCheck3 3 none 3 := ⟨mw_249, mw_173, mw_248, by decide, by decide, by decide +kernel⟩
theorem ms_A_fill4 : Ms y_A_fill4 b_A_fill4 5 none 4 := ⟨mw_251, mw_173, mw_250, by decide, by decide, by decide +kernel⟩
theorem mv_T_leaderAfter : Mv y_T_leaderAfter b_T_leaderAfter 5 (some .int) 3 := ⟨mw_253, mw_254, mw_130, mw_252, by decide, by decide, by decide +kernel⟩
theorem mv_T_goAlike : Mv y_T_goAlike b_T_goAlike 4 (some .boolean) 2 := ⟨mw_256, mw_257, mw_130, mw_255, by decide, by decide, by decide +kernel⟩
theorem mv_T_findLeader : Mv y_T_findLeader b_T_findLeader 4 (some .int) 1 := ⟨mw_259, mw_260, mw_130, mw_258, by decide, by decide, by decide +kernel⟩
theorem ms_T_pair : Ms y_T_pair b_T_pair 3 (some .int) 2 := ⟨mw_262, mw_130, mw_261, by decide, by decide, by decide +kernel⟩
theorem mv_T_measure : Mv y_T_measure b_T_measure 5 none 2 := ⟨mw_264, mw_265, mw_130, mw_263, by decide, by decide, by decide +kernel⟩
theorem mv_T_partOnce : Mv y_T_partOnce b_T_partOnce 4 (some .boolean) 1 := ⟨mw_267, mw_268, mw_130, mw_266, by decide, by decide, by decide +kernel⟩
theorem mv_T_partSets : Mv y_T_partSets b_T_partSets 2 none 0 := ⟨mw_270, mw_271, mw_130, mw_269, by decide, by decide, by decide +kernel⟩
theorem mv_T_numberState : Mv y_T_numberState b_T_numberState 2 none 1 := ⟨mw_273, mw_274, mw_130, mw_272, by decide, by decide, by decide +kernel⟩
theorem mv_T_numberStates : Mv y_T_numberStates b_T_numberStates 4 none 0 := ⟨mw_276, mw_277, mw_130, mw_275, by decide, by decide, by decide +kernel⟩
theorem mv_T_build : Mv y_T_build b_T_build 3 (some .boolean) 1 := ⟨mw_279, mw_280, mw_130, mw_278, by decide, by decide, by decide +kernel⟩
theorem mv_W_make : Mv y_W_make b_W_make 1 (some .int) 0 := ⟨mw_282, mw_283, mw_167, mw_281, by decide, by decide, by decide +kernel⟩
theorem mv_M_led : Mv y_M_led b_M_led 5 (some .int) 2 := ⟨mw_285, mw_286, mw_170, mw_284, by decide, by decide, by decide +kernel⟩
theorem mv_M_follow : Mv y_M_follow b_M_follow 6 (some .int) 0 := ⟨mw_288, mw_289, mw_170, mw_287, by decide, by decide, by decide +kernel⟩
theorem mv_M_tell : Mv y_M_tell b_M_tell 9 (some .boolean) 1 := ⟨mw_291, mw_292, mw_170, mw_290, by decide, by decide, by decide +kernel⟩
theorem mv_M_leastLike : Mv y_M_leastLike b_M_leastLike 3 (some .int) 1 := ⟨mw_294, mw_295, mw_170, mw_293, by decide, by decide, by decide +kernel⟩
theorem mv_M_make : Mv y_M_make b_M_make 7 (some .int) 0 := ⟨mw_297, mw_298, mw_170, mw_296, by decide, by decide, by decide +kernel⟩
theorem mv_W_home : Mv y_W_home b_W_home 1 none 0 := ⟨mw_300, mw_301, mw_167, mw_299, by decide, by decide, by decide +kernel⟩
theorem mv_M_home : Mv y_M_home b_M_home 1 none 0 := ⟨mw_303, mw_304, mw_170, mw_302, by decide, by decide, by decide +kernel⟩
theorem mv_T_hasState : Mv y_T_hasState b_T_hasState 2 (some .boolean) 1 := ⟨mw_306, mw_307, mw_130, mw_305, by decide, by decide, by decide +kernel⟩
theorem mv_T_hasLetter : Mv y_T_hasLetter b_T_hasLetter 2 (some .boolean) 1 := ⟨mw_309, mw_310, mw_130, mw_308, by decide, by decide, by decide +kernel⟩
theorem mv_T_stateAfter : Mv y_T_stateAfter b_T_stateAfter 4 (some .int) 2 := ⟨mw_312, mw_313, mw_130, mw_311, by decide, by decide, by decide +kernel⟩
theorem mv_W_to : Mv y_W_to b_W_to 3 (some .int) 2 := ⟨mw_315, mw_316, mw_167, mw_314, by decide, by decide, by decide +kernel⟩
theorem mv_W_go : Mv y_W_go b_W_go 3 (some .int) 1 := ⟨mw_318, mw_319, mw_167, mw_317, by decide, by decide, by decide +kernel⟩
theorem mv_M_next : Mv y_M_next b_M_next 4 (some .int) 2 := ⟨mw_321, mw_322, mw_170, mw_320, by decide, by decide, by decide +kernel⟩
theorem mv_M_go : Mv y_M_go b_M_go 3 (some .int) 1 := ⟨mw_324, mw_325, mw_170, mw_323, by decide, by decide, by decide +kernel⟩
theorem mv_M_isState : Mv y_M_isState b_M_isState 2 (some .boolean) 1 := ⟨mw_327, mw_328, mw_170, mw_326, by decide, by decide, by decide +kernel⟩
theorem mv_M_to : Mv y_M_to b_M_to 3 (some .int) 2 := ⟨mw_330, mw_331, mw_170, mw_329, by decide, by decide, by decide +kernel⟩
theorem mv_T_hasSet : Mv y_T_hasSet b_T_hasSet 2 (some .boolean) 1 := ⟨mw_333, mw_334, mw_130, mw_332, by decide, by decide, by decide +kernel⟩
theorem mv_W_nodes : Mv y_W_nodes b_W_nodes 2 (some .int) 1 := ⟨mw_336, mw_337, mw_167, mw_335, by decide, by decide, by decide +kernel⟩
theorem mv_M_nodes : Mv y_M_nodes b_M_nodes 2 (some .int) 1 := ⟨mw_339, mw_340, mw_170, mw_338, by decide, by decide, by decide +kernel⟩
theorem mv_W_state : Mv y_W_state b_W_state 2 (some .int) 1 := ⟨mw_342, mw_343, mw_167, mw_341, by decide, by decide, by decide +kernel⟩
theorem mv_M_state : Mv y_M_state b_M_state 2 (some .int) 1 := ⟨mw_345, mw_346, mw_170, mw_344, by decide, by decide, by decide +kernel⟩
theorem mv_T_rowLength : Mv y_T_rowLength b_T_rowLength 3 (some .int) 2 := ⟨mw_348, mw_349, mw_130, mw_347, by decide, by decide, by decide +kernel⟩
theorem mv_W_apart : Mv y_W_apart b_W_apart 3 (some .int) 2 := ⟨mw_351, mw_352, mw_167, mw_350, by decide, by decide, by decide +kernel⟩
theorem mv_M_apart : Mv y_M_apart b_M_apart 3 (some .int) 2 := ⟨mw_354, mw_355, mw_170, mw_353, by decide, by decide, by decide +kernel⟩
theorem mv_T_lengthBehind : Mv y_T_lengthBehind b_T_lengthBehind 3 (some .int) 2 := ⟨mw_357, mw_358, mw_130, mw_356, by decide, by decide, by decide +kernel⟩
theorem mv_T_leastLetter : Mv y_T_leastLetter b_T_leastLetter 7 (some .int) 3 := ⟨mw_360, mw_361, mw_130, mw_359, by decide, by decide, by decide +kernel⟩
theorem mv_T_rowLetter : Mv y_T_rowLetter b_T_rowLetter 9 (some .int) 3 := ⟨mw_363, mw_364, mw_130, mw_362, by decide, by decide, by decide +kernel⟩
theorem mv_W_apartBy : Mv y_W_apartBy b_W_apartBy 4 (some .int) 3 := ⟨mw_366, mw_367, mw_167, mw_365, by decide, by decide, by decide +kernel⟩
theorem mv_M_apartBy : Mv y_M_apartBy b_M_apartBy 8 (some .int) 3 := ⟨mw_369, mw_370, mw_170, mw_368, by decide, by decide, by decide +kernel⟩
theorem mv_W_is : Mv y_W_is b_W_is 4 (some .boolean) 3 := ⟨mw_372, mw_373, mw_167, mw_371, by decide, by decide, by decide +kernel⟩
theorem ms_I_bitCount1 : Ms y_I_bitCount1 b_I_bitCount1 1 (some .int) 1 := ⟨mw_376, mw_375, mw_374, by decide, by decide, by decide +kernel⟩
theorem mv_G_countWays : Mv y_G_countWays b_G_countWays 3 (some .int) 0 := ⟨mw_378, mw_379, mw_126, mw_377, by decide, by decide, by decide +kernel⟩
theorem mv_T_countGoing : Mv y_T_countGoing b_T_countGoing 4 (some .int) 0 := ⟨mw_381, mw_382, mw_130, mw_380, by decide, by decide, by decide +kernel⟩
theorem mv_W_look : Mv y_W_look b_W_look 2 (some .int) 1 := ⟨mw_384, mw_385, mw_167, mw_383, by decide, by decide, by decide +kernel⟩
theorem mv_M_wayMany : Mv y_M_wayMany b_M_wayMany 4 (some .int) 0 := ⟨mw_387, mw_388, mw_170, mw_386, by decide, by decide, by decide +kernel⟩
theorem mv_M_somewhere : Mv y_M_somewhere b_M_somewhere 4 (some .int) 0 := ⟨mw_390, mw_391, mw_170, mw_389, by decide, by decide, by decide +kernel⟩
theorem mv_M_longest : Mv y_M_longest b_M_longest 5 (some .int) 0 := ⟨mw_393, mw_394, mw_170, mw_392, by decide, by decide, by decide +kernel⟩
theorem mv_M_look : Mv y_M_look b_M_look 2 (some .int) 1 := ⟨mw_396, mw_397, mw_170, mw_395, by decide, by decide, by decide +kernel⟩
theorem mk_G_init : Mk y_G_init b_G_init 1 := ⟨mw_398, mw_126, mw_399, rfl, by decide, by decide, by decide +kernel⟩
theorem mk_T_init : Mk y_T_init b_T_init 1 := ⟨mw_400, mw_130, mw_401, rfl, by decide, by decide, by decide +kernel⟩
theorem mk_W_init : Mk y_W_init b_W_init 1 := ⟨mw_402, mw_167, mw_403, rfl, by decide, by decide, by decide +kernel⟩
theorem mk_M_init : Mk y_M_init b_M_init 2 := ⟨mw_404, mw_170, mw_405, rfl, by decide, by decide, by decide +kernel⟩
end
section
theorem d_W_begin_0 : decode b_W_begin 0 = .ok (.iload_n 1, 1) := by decide +kernel
theorem d_W_begin_1 : decode b_W_begin 1 = .ok (.iconst 1, 1) := by decide +kernel
theorem d_W_begin_2 : decode b_W_begin 2 = .ok (.if_icmp .lt 20, 3) := by decide +kernel
theorem d_W_begin_5 : decode b_W_begin 5 = .ok (.iload_n 1, 1) := by decide +kernel
theorem d_W_begin_6 : decode b_W_begin 6 = .ok (.bipush 24, 2) := by decide +kernel
theorem d_W_begin_8 : decode b_W_begin 8 = .ok (.if_icmp .gt 14, 3) := by decide +kernel
theorem d_W_begin_11 : decode b_W_begin 11 = .ok (.iload_n 2, 1) := by decide +kernel
theorem d_W_begin_12 : decode b_W_begin 12 = .ok (.iconst 1, 1) := by decide +kernel
theorem d_W_begin_13 : decode b_W_begin 13 = .ok (.if_icmp .lt 9, 3) := by decide +kernel
theorem d_W_begin_16 : decode b_W_begin 16 = .ok (.iload_n 2, 1) := by decide +kernel
theorem d_W_begin_17 : decode b_W_begin 17 = .ok (.bipush 40, 2) := by decide +kernel
theorem d_W_begin_19 : decode b_W_begin 19 = .ok (.if_icmp .le 5, 3) := by decide +kernel
theorem d_W_begin_22 : decode b_W_begin 22 = .ok (.iconst 0, 1) := by decide +kernel
theorem d_W_begin_23 : decode b_W_begin 23 = .ok (.ireturn, 1) := by decide +kernel
theorem d_W_begin_24 : decode b_W_begin 24 = .ok (.aload_n 0, 1) := by decide +kernel
theorem d_W_begin_25 : decode b_W_begin 25 = .ok (.getfield 12, 3) := by decide +kernel
theorem d_W_begin_28 : decode b_W_begin 28 = .ok (.iload_n 1, 1) := by decide +kernel
theorem d_W_begin_29 : decode b_W_begin 29 = .ok (.iload_n 2, 1) := by decide +kernel
theorem d_W_begin_30 : decode b_W_begin 30 = .ok (.invokevirtual 27, 3) := by decide +kernel
theorem d_W_begin_33 : decode b_W_begin 33 = .ok (.iconst 1, 1) := by decide +kernel
theorem d_W_begin_34 : decode b_W_begin 34 = .ok (.ireturn, 1) := by decide +kernel
theorem d_G_clear_0 : decode b_G_clear 0 = .ok (.aload_n 0, 1) := by decide +kernel
theorem d_G_clear_1 : decode b_G_clear 1 = .ok (.iload_n 1, 1) := by decide +kernel
theorem d_G_clear_2 : decode b_G_clear 2 = .ok (.putfield 9, 3) := by decide +kernel
theorem d_G_clear_5 : decode b_G_clear 5 = .ok (.aload_n 0, 1) := by decide +kernel
theorem d_G_clear_6 : decode b_G_clear 6 = .ok (.iload_n 2, 1) := by decide +kernel
theorem d_G_clear_7 : decode b_G_clear 7 = .ok (.putfield 15, 3) := by decide +kernel
theorem d_G_clear_10 : decode b_G_clear 10 = .ok (.aload_n 0, 1) := by decide +kernel
theorem d_G_clear_11 : decode b_G_clear 11 = .ok (.iconst 0, 1) := by decide +kernel
theorem d_G_clear_12 : decode b_G_clear 12 = .ok (.putfield 18, 3) := by decide +kernel
theorem d_G_clear_15 : decode b_G_clear 15 = .ok (.aload_n 0, 1) := by decide +kernel
theorem d_G_clear_16 : decode b_G_clear 16 = .ok (.getfield 21, 3) := by decide +kernel
theorem d_G_clear_19 : decode b_G_clear 19 = .ok (.iconst 0, 1) := by decide +kernel
theorem d_G_clear_20 : decode b_G_clear 20 = .ok (.invokestatic 25, 3) := by decide +kernel
theorem d_G_clear_23 : decode b_G_clear 23 = .ok (.return_, 1) := by decide +kernel
theorem d_A_fill2_0 : decode b_A_fill2 0 = .ok (.iconst 0, 1) := by decide +kernel
theorem d_A_fill2_1 : decode b_A_fill2 1 = .ok (.istore_n 2, 1) := by decide +kernel
theorem d_A_fill2_2 : decode b_A_fill2 2 = .ok (.aload_n 0, 1) := by decide +kernel
theorem d_A_fill2_3 : decode b_A_fill2 3 = .ok (.arraylength, 1) := by decide +kernel
theorem d_A_fill2_4 : decode b_A_fill2 4 = .ok (.istore_n 3, 1) := by decide +kernel
theorem d_A_fill2_5 : decode b_A_fill2 5 = .ok (.iload_n 2, 1) := by decide +kernel
theorem d_A_fill2_6 : decode b_A_fill2 6 = .ok (.iload_n 3, 1) := by decide +kernel
theorem d_A_fill2_7 : decode b_A_fill2 7 = .ok (.if_icmp .ge 13, 3) := by decide +kernel
theorem d_A_fill2_10 : decode b_A_fill2 10 = .ok (.aload_n 0, 1) := by decide +kernel
theorem d_A_fill2_11 : decode b_A_fill2 11 = .ok (.iload_n 2, 1) := by decide +kernel
theorem d_A_fill2_12 : decode b_A_fill2 12 = .ok (.iload_n 1, 1) := by decide +kernel
theorem d_A_fill2_13 : decode b_A_fill2 13 = .ok (.iastore, 1) := by decide +kernel
theorem d_A_fill2_14 : decode b_A_fill2 14 = .ok (.iinc 2 1, 3) := by decide +kernel
theorem d_A_fill2_17 : decode b_A_fill2 17 = .ok (.goto (-12), 3) := by decide +kernel
theorem d_A_fill2_20 : decode b_A_fill2 20 = .ok (.return_, 1) := by decide +kernel
theorem d_M_begin_0 : decode b_M_begin 0 = .ok (.aload_n 0, 1) := by decide +kernel
theorem d_M_begin_1 : decode b_M_begin 1 = .ok (.iconst 0, 1) := by decide +kernel
theorem d_M_begin_2 : decode b_M_begin 2 = .ok (.putfield 48, 3) := by decide +kernel
theorem d_M_begin_5 : decode b_M_begin 5 = .ok (.iload_n 1, 1) := by decide +kernel
theorem d_M_begin_6 : decode b_M_begin 6 = .ok (.iconst 1, 1) := by decide +kernel
theorem d_M_begin_7 : decode b_M_begin 7 = .ok (.if_icmp .lt 20, 3) := by decide +kernel
theorem d_M_begin_10 : decode b_M_begin 10 = .ok (.iload_n 1, 1) := by decide +kernel
theorem d_M_begin_11 : decode b_M_begin 11 = .ok (.bipush 24, 2) := by decide +kernel
theorem d_M_begin_13 : decode b_M_begin 13 = .ok (.if_icmp .gt 14, 3) := by decide +kernel
theorem d_M_begin_16 : decode b_M_begin 16 = .ok (.iload_n 2, 1) := by decide +kernel
theorem d_M_begin_17 : decode b_M_begin 17 = .ok (.iconst 1, 1) := by decide +kernel
theorem d_M_begin_18 : decode b_M_begin 18 = .ok (.if_icmp .lt 9, 3) := by decide +kernel
theorem d_M_begin_21 : decode b_M_begin 21 = .ok (.iload_n 2, 1) := by decide +kernel
theorem d_M_begin_22 : decode b_M_begin 22 = .ok (.bipush 40, 2) := by decide +kernel
theorem d_M_begin_24 : decode b_M_begin 24 = .ok (.if_icmp .le 5, 3) := by decide +kernel
theorem d_M_begin_27 : decode b_M_begin 27 = .ok (.iconst 0, 1) := by decide +kernel
theorem d_M_begin_28 : decode b_M_begin 28 = .ok (.ireturn, 1) := by decide +kernel
theorem d_M_begin_29 : decode b_M_begin 29 = .ok (.aload_n 0, 1) := by decide +kernel
theorem d_M_begin_30 : decode b_M_begin 30 = .ok (.iload_n 1, 1) := by decide +kernel
theorem d_M_begin_31 : decode b_M_begin 31 = .ok (.putfield 7, 3) := by decide +kernel
theorem d_M_begin_34 : decode b_M_begin 34 = .ok (.aload_n 0, 1) := by decide +kernel
theorem d_M_begin_35 : decode b_M_begin 35 = .ok (.iload_n 2, 1) := by decide +kernel
theorem d_M_begin_36 : decode b_M_begin 36 = .ok (.putfield 13, 3) := by decide +kernel
theorem d_M_begin_39 : decode b_M_begin 39 = .ok (.aload_n 0, 1) := by decide +kernel
theorem d_M_begin_40 : decode b_M_begin 40 = .ok (.iconst 0, 1) := by decide +kernel
theorem d_M_begin_41 : decode b_M_begin 41 = .ok (.putfield 51, 3) := by decide +kernel
theorem d_M_begin_44 : decode b_M_begin 44 = .ok (.iconst 0, 1) := by decide +kernel
theorem d_M_begin_45 : decode b_M_begin 45 = .ok (.istore_n 3, 1) := by decide +kernel
theorem d_M_begin_46 : decode b_M_begin 46 = .ok (.iload_n 3, 1) := by decide +kernel
theorem d_M_begin_47 : decode b_M_begin 47 = .ok (.sipush 960, 3) := by decide +kernel
theorem d_M_begin_50 : decode b_M_begin 50 = .ok (.if_icmp .ge 16, 3) := by decide +kernel
theorem d_M_begin_53 : decode b_M_begin 53 = .ok (.aload_n 0, 1) := by decide +kernel
theorem d_M_begin_54 : decode b_M_begin 54 = .ok (.getfield 16, 3) := by decide +kernel
theorem d_M_begin_57 : decode b_M_begin 57 = .ok (.iload_n 3, 1) := by decide +kernel
theorem d_M_begin_58 : decode b_M_begin 58 = .ok (.iconst 0, 1) := by decide +kernel
theorem d_M_begin_59 : decode b_M_begin 59 = .ok (.iastore, 1) := by decide +kernel
theorem d_M_begin_60 : decode b_M_begin 60 = .ok (.iinc 3 1, 3) := by decide +kernel
theorem d_M_begin_63 : decode b_M_begin 63 = .ok (.goto (-17), 3) := by decide +kernel
theorem d_M_begin_66 : decode b_M_begin 66 = .ok (.iconst 1, 1) := by decide +kernel
theorem d_M_begin_67 : decode b_M_begin 67 = .ok (.ireturn, 1) := by decide +kernel
theorem d_W_way_0 : decode b_W_way 0 = .ok (.aload_n 0, 1) := by decide +kernel
theorem d_W_way_1 : decode b_W_way 1 = .ok (.getfield 12, 3) := by decide +kernel
theorem d_W_way_4 : decode b_W_way 4 = .ok (.iload_n 1, 1) := by decide +kernel
theorem d_W_way_5 : decode b_W_way 5 = .ok (.iload_n 2, 1) := by decide +kernel
theorem d_W_way_6 : decode b_W_way 6 = .ok (.iload_n 3, 1) := by decide +kernel
theorem d_W_way_7 : decode b_W_way 7 = .ok (.invokevirtual 31, 3) := by decide +kernel
theorem d_W_way_10 : decode b_W_way 10 = .ok (.ifCond .eq 18, 3) := by decide +kernel
theorem d_W_way_13 : decode b_W_way 13 = .ok (.aload_n 0, 1) := by decide +kernel
theorem d_W_way_14 : decode b_W_way 14 = .ok (.getfield 12, 3) := by decide +kernel
theorem d_W_way_17 : decode b_W_way 17 = .ok (.iload_n 1, 1) := by decide +kernel
theorem d_W_way_18 : decode b_W_way 18 = .ok (.iload_n 2, 1) := by decide +kernel
theorem d_W_way_19 : decode b_W_way 19 = .ok (.iload_n 3, 1) := by decide +kernel
theorem d_W_way_20 : decode b_W_way 20 = .ok (.invokevirtual 35, 3) := by decide +kernel
theorem d_W_way_23 : decode b_W_way 23 = .ok (.iload 4, 2) := by decide +kernel
theorem d_W_way_25 : decode b_W_way 25 = .ok (.if_icmp .ne 5, 3) := by decide +kernel
theorem d_W_way_28 : decode b_W_way 28 = .ok (.iconst 0, 1) := by decide +kernel
theorem d_W_way_29 : decode b_W_way 29 = .ok (.ireturn, 1) := by decide +kernel
theorem d_W_way_30 : decode b_W_way 30 = .ok (.aload_n 0, 1) := by decide +kernel
theorem d_W_way_31 : decode b_W_way 31 = .ok (.getfield 12, 3) := by decide +kernel
theorem d_W_way_34 : decode b_W_way 34 = .ok (.iload_n 1, 1) := by decide +kernel
theorem d_W_way_35 : decode b_W_way 35 = .ok (.iload_n 2, 1) := by decide +kernel
theorem d_W_way_36 : decode b_W_way 36 = .ok (.iload_n 3, 1) := by decide +kernel
theorem d_W_way_37 : decode b_W_way 37 = .ok (.invokevirtual 38, 3) := by decide +kernel
theorem d_W_way_40 : decode b_W_way 40 = .ok (.iconst 1, 1) := by decide +kernel
theorem d_W_way_41 : decode b_W_way 41 = .ok (.ireturn, 1) := by decide +kernel
theorem d_G_canHold_0 : decode b_G_canHold 0 = .ok (.aload_n 0, 1) := by decide +kernel
theorem d_G_canHold_1 : decode b_G_canHold 1 = .ok (.iload_n 1, 1) := by decide +kernel
theorem d_G_canHold_2 : decode b_G_canHold 2 = .ok (.invokevirtual 31, 3) := by decide +kernel
theorem d_G_canHold_5 : decode b_G_canHold 5 = .ok (.ifCond .eq 23, 3) := by decide +kernel
theorem d_G_canHold_8 : decode b_G_canHold 8 = .ok (.aload_n 0, 1) := by decide +kernel
theorem d_G_canHold_9 : decode b_G_canHold 9 = .ok (.iload_n 2, 1) := by decide +kernel
theorem d_G_canHold_10 : decode b_G_canHold 10 = .ok (.invokevirtual 35, 3) := by decide +kernel
theorem d_G_canHold_13 : decode b_G_canHold 13 = .ok (.ifCond .eq 15, 3) := by decide +kernel
theorem d_G_canHold_16 : decode b_G_canHold 16 = .ok (.aload_n 0, 1) := by decide +kernel
theorem d_G_canHold_17 : decode b_G_canHold 17 = .ok (.iload_n 3, 1) := by decide +kernel
theorem d_G_canHold_18 : decode b_G_canHold 18 = .ok (.invokevirtual 31, 3) := by decide +kernel
theorem d_G_canHold_21 : decode b_G_canHold 21 = .ok (.ifCond .eq 7, 3) := by decide +kernel
theorem d_G_canHold_24 : decode b_G_canHold 24 = .ok (.iconst 1, 1) := by decide +kernel
theorem d_G_canHold_25 : decode b_G_canHold 25 = .ok (.goto 4, 3) := by decide +kernel
theorem d_G_canHold_28 : decode b_G_canHold 28 = .ok (.iconst 0, 1) := by decide +kernel
theorem d_G_canHold_29 : decode b_G_canHold 29 = .ok (.ireturn, 1) := by decide +kernel
theorem d_G_hasNode_0 : decode b_G_hasNode 0 = .ok (.iload_n 1, 1) := by decide +kernel
theorem d_G_hasNode_1 : decode b_G_hasNode 1 = .ok (.ifCond .lt 15, 3) := by decide +kernel
theorem d_G_hasNode_4 : decode b_G_hasNode 4 = .ok (.iload_n 1, 1) := by decide +kernel
theorem d_G_hasNode_5 : decode b_G_hasNode 5 = .ok (.aload_n 0, 1) := by decide +kernel
theorem d_G_hasNode_6 : decode b_G_hasNode 6 = .ok (.getfield 9, 3) := by decide +kernel
theorem d_G_hasNode_9 : decode b_G_hasNode 9 = .ok (.if_icmp .ge 7, 3) := by decide +kernel
theorem d_G_hasNode_12 : decode b_G_hasNode 12 = .ok (.iconst 1, 1) := by decide +kernel
theorem d_G_hasNode_13 : decode b_G_hasNode 13 = .ok (.goto 4, 3) := by decide +kernel
theorem d_G_hasNode_16 : decode b_G_hasNode 16 = .ok (.iconst 0, 1) := by decide +kernel
theorem d_G_hasNode_17 : decode b_G_hasNode 17 = .ok (.ireturn, 1) := by decide +kernel
theorem d_G_hasLetter_0 : decode b_G_hasLetter 0 = .ok (.iload_n 1, 1) := by decide +kernel
theorem d_G_hasLetter_1 : decode b_G_hasLetter 1 = .ok (.ifCond .lt 15, 3) := by decide +kernel
theorem d_G_hasLetter_4 : decode b_G_hasLetter 4 = .ok (.iload_n 1, 1) := by decide +kernel
theorem d_G_hasLetter_5 : decode b_G_hasLetter 5 = .ok (.aload_n 0, 1) := by decide +kernel
theorem d_G_hasLetter_6 : decode b_G_hasLetter 6 = .ok (.getfield 15, 3) := by decide +kernel
theorem d_G_hasLetter_9 : decode b_G_hasLetter 9 = .ok (.if_icmp .ge 7, 3) := by decide +kernel
theorem d_G_hasLetter_12 : decode b_G_hasLetter 12 = .ok (.iconst 1, 1) := by decide +kernel
theorem d_G_hasLetter_13 : decode b_G_hasLetter 13 = .ok (.goto 4, 3) := by decide +kernel
theorem d_G_hasLetter_16 : decode b_G_hasLetter 16 = .ok (.iconst 0, 1) := by decide +kernel
theorem d_G_hasLetter_17 : decode b_G_hasLetter 17 = .ok (.ireturn, 1) := by decide +kernel
theorem d_G_holds_0 : decode b_G_holds 0 = .ok (.aload_n 0, 1) := by decide +kernel
theorem d_G_holds_1 : decode b_G_holds 1 = .ok (.getfield 21, 3) := by decide +kernel
theorem d_G_holds_4 : decode b_G_holds 4 = .ok (.iload_n 1, 1) := by decide +kernel
theorem d_G_holds_5 : decode b_G_holds 5 = .ok (.iload_n 2, 1) := by decide +kernel
theorem d_G_holds_6 : decode b_G_holds 6 = .ok (.invokestatic 38, 3) := by decide +kernel
theorem d_G_holds_9 : decode b_G_holds 9 = .ok (.iaload, 1) := by decide +kernel
theorem d_G_holds_10 : decode b_G_holds 10 = .ok (.iload_n 3, 1) := by decide +kernel
theorem d_G_holds_11 : decode b_G_holds 11 = .ok (.iushr, 1) := by decide +kernel
theorem d_G_holds_12 : decode b_G_holds 12 = .ok (.iconst 1, 1) := by decide +kernel
theorem d_G_holds_13 : decode b_G_holds 13 = .ok (.iand, 1) := by decide +kernel
theorem d_G_holds_14 : decode b_G_holds 14 = .ok (.ifCond .eq 7, 3) := by decide +kernel
theorem d_G_holds_17 : decode b_G_holds 17 = .ok (.iconst 1, 1) := by decide +kernel
theorem d_G_holds_18 : decode b_G_holds 18 = .ok (.goto 4, 3) := by decide +kernel
theorem d_G_holds_21 : decode b_G_holds 21 = .ok (.iconst 0, 1) := by decide +kernel
theorem d_G_holds_22 : decode b_G_holds 22 = .ok (.ireturn, 1) := by decide +kernel
theorem d_G_place_0 : decode b_G_place 0 = .ok (.iload_n 1, 1) := by decide +kernel
theorem d_G_place_1 : decode b_G_place 1 = .ok (.bipush 24, 2) := by decide +kernel
theorem d_G_place_3 : decode b_G_place 3 = .ok (.imul, 1) := by decide +kernel
theorem d_G_place_4 : decode b_G_place 4 = .ok (.iload_n 0, 1) := by decide +kernel
theorem d_G_place_5 : decode b_G_place 5 = .ok (.iadd, 1) := by decide +kernel
theorem d_G_place_6 : decode b_G_place 6 = .ok (.ireturn, 1) := by decide +kernel
theorem d_G_flip_0 : decode b_G_flip 0 = .ok (.aload_n 0, 1) := by decide +kernel
theorem d_G_flip_1 : decode b_G_flip 1 = .ok (.getfield 21, 3) := by decide +kernel
theorem d_G_flip_4 : decode b_G_flip 4 = .ok (.iload_n 1, 1) := by decide +kernel
theorem d_G_flip_5 : decode b_G_flip 5 = .ok (.iload_n 2, 1) := by decide +kernel
theorem d_G_flip_6 : decode b_G_flip 6 = .ok (.invokestatic 38, 3) := by decide +kernel
theorem d_G_flip_9 : decode b_G_flip 9 = .ok (.dup2, 1) := by decide +kernel
theorem d_G_flip_10 : decode b_G_flip 10 = .ok (.iaload, 1) := by decide +kernel
theorem d_G_flip_11 : decode b_G_flip 11 = .ok (.iconst 1, 1) := by decide +kernel
theorem d_G_flip_12 : decode b_G_flip 12 = .ok (.iload_n 3, 1) := by decide +kernel
theorem d_G_flip_13 : decode b_G_flip 13 = .ok (.ishl, 1) := by decide +kernel
theorem d_G_flip_14 : decode b_G_flip 14 = .ok (.ixor, 1) := by decide +kernel
theorem d_G_flip_15 : decode b_G_flip 15 = .ok (.iastore, 1) := by decide +kernel
theorem d_G_flip_16 : decode b_G_flip 16 = .ok (.return_, 1) := by decide +kernel
theorem d_M_way_0 : decode b_M_way 0 = .ok (.aload_n 0, 1) := by decide +kernel
theorem d_M_way_1 : decode b_M_way 1 = .ok (.iconst 0, 1) := by decide +kernel
theorem d_M_way_2 : decode b_M_way 2 = .ok (.putfield 48, 3) := by decide +kernel
theorem d_M_way_5 : decode b_M_way 5 = .ok (.aload_n 0, 1) := by decide +kernel
theorem d_M_way_6 : decode b_M_way 6 = .ok (.iload_n 1, 1) := by decide +kernel
theorem d_M_way_7 : decode b_M_way 7 = .ok (.invokevirtual 54, 3) := by decide +kernel
theorem d_M_way_10 : decode b_M_way 10 = .ok (.ifCond .eq 31, 3) := by decide +kernel
theorem d_M_way_13 : decode b_M_way 13 = .ok (.aload_n 0, 1) := by decide +kernel
theorem d_M_way_14 : decode b_M_way 14 = .ok (.iload_n 2, 1) := by decide +kernel
theorem d_M_way_15 : decode b_M_way 15 = .ok (.invokevirtual 58, 3) := by decide +kernel
theorem d_M_way_18 : decode b_M_way 18 = .ok (.ifCond .eq 23, 3) := by decide +kernel
theorem d_M_way_21 : decode b_M_way 21 = .ok (.aload_n 0, 1) := by decide +kernel
theorem d_M_way_22 : decode b_M_way 22 = .ok (.iload_n 3, 1) := by decide +kernel
theorem d_M_way_23 : decode b_M_way 23 = .ok (.invokevirtual 54, 3) := by decide +kernel
theorem d_M_way_26 : decode b_M_way 26 = .ok (.ifCond .eq 15, 3) := by decide +kernel
theorem d_M_way_29 : decode b_M_way 29 = .ok (.aload_n 0, 1) := by decide +kernel
theorem d_M_way_30 : decode b_M_way 30 = .ok (.iload_n 1, 1) := by decide +kernel
theorem d_M_way_31 : decode b_M_way 31 = .ok (.iload_n 2, 1) := by decide +kernel
theorem d_M_way_32 : decode b_M_way 32 = .ok (.iload_n 3, 1) := by decide +kernel
theorem d_M_way_33 : decode b_M_way 33 = .ok (.invokevirtual 61, 3) := by decide +kernel
theorem d_M_way_36 : decode b_M_way 36 = .ok (.iload 4, 2) := by decide +kernel
theorem d_M_way_38 : decode b_M_way 38 = .ok (.if_icmp .ne 5, 3) := by decide +kernel
theorem d_M_way_41 : decode b_M_way 41 = .ok (.iconst 0, 1) := by decide +kernel
theorem d_M_way_42 : decode b_M_way 42 = .ok (.ireturn, 1) := by decide +kernel
theorem d_M_way_43 : decode b_M_way 43 = .ok (.aload_n 0, 1) := by decide +kernel
theorem d_M_way_44 : decode b_M_way 44 = .ok (.getfield 16, 3) := by decide +kernel
theorem d_M_way_47 : decode b_M_way 47 = .ok (.bipush 24, 2) := by decide +kernel
theorem d_M_way_49 : decode b_M_way 49 = .ok (.iload_n 2, 1) := by decide +kernel
theorem d_M_way_50 : decode b_M_way 50 = .ok (.imul, 1) := by decide +kernel
theorem d_M_way_51 : decode b_M_way 51 = .ok (.iload_n 1, 1) := by decide +kernel
theorem d_M_way_52 : decode b_M_way 52 = .ok (.iadd, 1) := by decide +kernel
theorem d_M_way_53 : decode b_M_way 53 = .ok (.dup2, 1) := by decide +kernel
theorem d_M_way_54 : decode b_M_way 54 = .ok (.iaload, 1) := by decide +kernel
theorem d_M_way_55 : decode b_M_way 55 = .ok (.iconst 1, 1) := by decide +kernel
theorem d_M_way_56 : decode b_M_way 56 = .ok (.iload_n 3, 1) := by decide +kernel
theorem d_M_way_57 : decode b_M_way 57 = .ok (.ishl, 1) := by decide +kernel
theorem d_M_way_58 : decode b_M_way 58 = .ok (.ixor, 1) := by decide +kernel
theorem d_M_way_59 : decode b_M_way 59 = .ok (.iastore, 1) := by decide +kernel
theorem d_M_way_60 : decode b_M_way 60 = .ok (.iconst 1, 1) := by decide +kernel
theorem d_M_way_61 : decode b_M_way 61 = .ok (.ireturn, 1) := by decide +kernel
theorem d_M_isNode_0 : decode b_M_isNode 0 = .ok (.iload_n 1, 1) := by decide +kernel
theorem d_M_isNode_1 : decode b_M_isNode 1 = .ok (.ifCond .lt 15, 3) := by decide +kernel
theorem d_M_isNode_4 : decode b_M_isNode 4 = .ok (.iload_n 1, 1) := by decide +kernel
theorem d_M_isNode_5 : decode b_M_isNode 5 = .ok (.aload_n 0, 1) := by decide +kernel
theorem d_M_isNode_6 : decode b_M_isNode 6 = .ok (.getfield 7, 3) := by decide +kernel
theorem d_M_isNode_9 : decode b_M_isNode 9 = .ok (.if_icmp .ge 7, 3) := by decide +kernel
theorem d_M_isNode_12 : decode b_M_isNode 12 = .ok (.iconst 1, 1) := by decide +kernel
theorem d_M_isNode_13 : decode b_M_isNode 13 = .ok (.goto 4, 3) := by decide +kernel
theorem d_M_isNode_16 : decode b_M_isNode 16 = .ok (.iconst 0, 1) := by decide +kernel
theorem d_M_isNode_17 : decode b_M_isNode 17 = .ok (.ireturn, 1) := by decide +kernel
theorem d_M_isLetter_0 : decode b_M_isLetter 0 = .ok (.iload_n 1, 1) := by decide +kernel
theorem d_M_isLetter_1 : decode b_M_isLetter 1 = .ok (.ifCond .lt 15, 3) := by decide +kernel
theorem d_M_isLetter_4 : decode b_M_isLetter 4 = .ok (.iload_n 1, 1) := by decide +kernel
theorem d_M_isLetter_5 : decode b_M_isLetter 5 = .ok (.aload_n 0, 1) := by decide +kernel
theorem d_M_isLetter_6 : decode b_M_isLetter 6 = .ok (.getfield 13, 3) := by decide +kernel
theorem d_M_isLetter_9 : decode b_M_isLetter 9 = .ok (.if_icmp .ge 7, 3) := by decide +kernel
theorem d_M_isLetter_12 : decode b_M_isLetter 12 = .ok (.iconst 1, 1) := by decide +kernel
theorem d_M_isLetter_13 : decode b_M_isLetter 13 = .ok (.goto 4, 3) := by decide +kernel
theorem d_M_isLetter_16 : decode b_M_isLetter 16 = .ok (.iconst 0, 1) := by decide +kernel
theorem d_M_isLetter_17 : decode b_M_isLetter 17 = .ok (.ireturn, 1) := by decide +kernel
theorem d_M_is_0 : decode b_M_is 0 = .ok (.aload_n 0, 1) := by decide +kernel
theorem d_M_is_1 : decode b_M_is 1 = .ok (.iconst 0, 1) := by decide +kernel
theorem d_M_is_2 : decode b_M_is 2 = .ok (.putfield 48, 3) := by decide +kernel
theorem d_M_is_5 : decode b_M_is 5 = .ok (.aload_n 0, 1) := by decide +kernel
theorem d_M_is_6 : decode b_M_is 6 = .ok (.iload_n 1, 1) := by decide +kernel
theorem d_M_is_7 : decode b_M_is 7 = .ok (.invokevirtual 54, 3) := by decide +kernel
theorem d_M_is_10 : decode b_M_is 10 = .ok (.ifCond .eq 62, 3) := by decide +kernel
theorem d_M_is_13 : decode b_M_is 13 = .ok (.aload_n 0, 1) := by decide +kernel
theorem d_M_is_14 : decode b_M_is 14 = .ok (.iload_n 2, 1) := by decide +kernel
theorem d_M_is_15 : decode b_M_is 15 = .ok (.invokevirtual 58, 3) := by decide +kernel
theorem d_M_is_18 : decode b_M_is 18 = .ok (.ifCond .eq 54, 3) := by decide +kernel
theorem d_M_is_21 : decode b_M_is 21 = .ok (.aload_n 0, 1) := by decide +kernel
theorem d_M_is_22 : decode b_M_is 22 = .ok (.iload_n 3, 1) := by decide +kernel
theorem d_M_is_23 : decode b_M_is 23 = .ok (.invokevirtual 54, 3) := by decide +kernel
theorem d_M_is_26 : decode b_M_is 26 = .ok (.ifCond .eq 46, 3) := by decide +kernel
theorem d_M_is_29 : decode b_M_is 29 = .ok (.aload_n 0, 1) := by decide +kernel
theorem d_M_is_30 : decode b_M_is 30 = .ok (.getfield 16, 3) := by decide +kernel
theorem d_M_is_33 : decode b_M_is 33 = .ok (.aload_n 0, 1) := by decide +kernel
theorem d_M_is_34 : decode b_M_is 34 = .ok (.iload_n 1, 1) := by decide +kernel
theorem d_M_is_35 : decode b_M_is 35 = .ok (.invokevirtual 54, 3) := by decide +kernel
theorem d_M_is_38 : decode b_M_is 38 = .ok (.ifCond .eq 20, 3) := by decide +kernel
theorem d_M_is_41 : decode b_M_is 41 = .ok (.aload_n 0, 1) := by decide +kernel
theorem d_M_is_42 : decode b_M_is 42 = .ok (.iload_n 2, 1) := by decide +kernel
theorem d_M_is_43 : decode b_M_is 43 = .ok (.invokevirtual 58, 3) := by decide +kernel
theorem d_M_is_46 : decode b_M_is 46 = .ok (.ifCond .eq 12, 3) := by decide +kernel
theorem d_M_is_49 : decode b_M_is 49 = .ok (.bipush 24, 2) := by decide +kernel
theorem d_M_is_51 : decode b_M_is 51 = .ok (.iload_n 2, 1) := by decide +kernel
theorem d_M_is_52 : decode b_M_is 52 = .ok (.imul, 1) := by decide +kernel
theorem d_M_is_53 : decode b_M_is 53 = .ok (.iload_n 1, 1) := by decide +kernel
theorem d_M_is_54 : decode b_M_is 54 = .ok (.iadd, 1) := by decide +kernel
theorem d_M_is_55 : decode b_M_is 55 = .ok (.goto 4, 3) := by decide +kernel
theorem d_M_is_58 : decode b_M_is 58 = .ok (.iconst 0, 1) := by decide +kernel
theorem d_M_is_59 : decode b_M_is 59 = .ok (.iaload, 1) := by decide +kernel
theorem d_M_is_60 : decode b_M_is 60 = .ok (.iload_n 3, 1) := by decide +kernel
theorem d_M_is_61 : decode b_M_is 61 = .ok (.ishr, 1) := by decide +kernel
theorem d_M_is_62 : decode b_M_is 62 = .ok (.iconst 1, 1) := by decide +kernel
theorem d_M_is_63 : decode b_M_is 63 = .ok (.iand, 1) := by decide +kernel
theorem d_M_is_64 : decode b_M_is 64 = .ok (.iconst 1, 1) := by decide +kernel
theorem d_M_is_65 : decode b_M_is 65 = .ok (.if_icmp .ne 7, 3) := by decide +kernel
theorem d_M_is_68 : decode b_M_is 68 = .ok (.iconst 1, 1) := by decide +kernel
theorem d_M_is_69 : decode b_M_is 69 = .ok (.goto 4, 3) := by decide +kernel
theorem d_M_is_72 : decode b_M_is 72 = .ok (.iconst 0, 1) := by decide +kernel
theorem d_M_is_73 : decode b_M_is 73 = .ok (.ireturn, 1) := by decide +kernel
theorem d_W_fill_0 : decode b_W_fill 0 = .ok (.aload_n 0, 1) := by decide +kernel
theorem d_W_fill_1 : decode b_W_fill 1 = .ok (.getfield 12, 3) := by decide +kernel
theorem d_W_fill_4 : decode b_W_fill 4 = .ok (.iload_n 1, 1) := by decide +kernel
theorem d_W_fill_5 : decode b_W_fill 5 = .ok (.invokevirtual 42, 3) := by decide +kernel
theorem d_W_fill_8 : decode b_W_fill 8 = .ok (.ifCond .eq 14, 3) := by decide +kernel
theorem d_W_fill_11 : decode b_W_fill 11 = .ok (.aload_n 0, 1) := by decide +kernel
theorem d_W_fill_12 : decode b_W_fill 12 = .ok (.getfield 12, 3) := by decide +kernel
theorem d_W_fill_15 : decode b_W_fill 15 = .ok (.iload_n 2, 1) := by decide +kernel
theorem d_W_fill_16 : decode b_W_fill 16 = .ok (.invokevirtual 46, 3) := by decide +kernel
theorem d_W_fill_19 : decode b_W_fill 19 = .ok (.ifCond .ne 5, 3) := by decide +kernel
theorem d_W_fill_22 : decode b_W_fill 22 = .ok (.iconst (-1), 1) := by decide +kernel
theorem d_W_fill_23 : decode b_W_fill 23 = .ok (.ireturn, 1) := by decide +kernel
theorem d_W_fill_24 : decode b_W_fill 24 = .ok (.iconst 0, 1) := by decide +kernel
theorem d_W_fill_25 : decode b_W_fill 25 = .ok (.istore_n 3, 1) := by decide +kernel
theorem d_W_fill_26 : decode b_W_fill 26 = .ok (.iconst 0, 1) := by decide +kernel
theorem d_W_fill_27 : decode b_W_fill 27 = .ok (.istore 4, 2) := by decide +kernel
theorem d_W_fill_29 : decode b_W_fill 29 = .ok (.iload 4, 2) := by decide +kernel
theorem d_W_fill_31 : decode b_W_fill 31 = .ok (.aload_n 0, 1) := by decide +kernel
theorem d_W_fill_32 : decode b_W_fill 32 = .ok (.getfield 12, 3) := by decide +kernel
theorem d_W_fill_35 : decode b_W_fill 35 = .ok (.getfield 49, 3) := by decide +kernel
theorem d_W_fill_38 : decode b_W_fill 38 = .ok (.if_icmp .ge 37, 3) := by decide +kernel
theorem d_W_fill_41 : decode b_W_fill 41 = .ok (.aload_n 0, 1) := by decide +kernel
theorem d_W_fill_42 : decode b_W_fill 42 = .ok (.getfield 12, 3) := by decide +kernel
theorem d_W_fill_45 : decode b_W_fill 45 = .ok (.iload 4, 2) := by decide +kernel
theorem d_W_fill_47 : decode b_W_fill 47 = .ok (.iload_n 1, 1) := by decide +kernel
theorem d_W_fill_48 : decode b_W_fill 48 = .ok (.iload_n 2, 1) := by decide +kernel
theorem d_W_fill_49 : decode b_W_fill 49 = .ok (.invokevirtual 35, 3) := by decide +kernel
theorem d_W_fill_52 : decode b_W_fill 52 = .ok (.ifCond .ne 17, 3) := by decide +kernel
theorem d_W_fill_55 : decode b_W_fill 55 = .ok (.aload_n 0, 1) := by decide +kernel
theorem d_W_fill_56 : decode b_W_fill 56 = .ok (.getfield 12, 3) := by decide +kernel
theorem d_W_fill_59 : decode b_W_fill 59 = .ok (.iload 4, 2) := by decide +kernel
theorem d_W_fill_61 : decode b_W_fill 61 = .ok (.iload_n 1, 1) := by decide +kernel
theorem d_W_fill_62 : decode b_W_fill 62 = .ok (.iload_n 2, 1) := by decide +kernel
theorem d_W_fill_63 : decode b_W_fill 63 = .ok (.invokevirtual 38, 3) := by decide +kernel
theorem d_W_fill_66 : decode b_W_fill 66 = .ok (.iinc 3 1, 3) := by decide +kernel
theorem d_W_fill_69 : decode b_W_fill 69 = .ok (.iinc 4 1, 3) := by decide +kernel
theorem d_W_fill_72 : decode b_W_fill 72 = .ok (.goto (-43), 3) := by decide +kernel
theorem d_W_fill_75 : decode b_W_fill 75 = .ok (.iload_n 3, 1) := by decide +kernel
theorem d_W_fill_76 : decode b_W_fill 76 = .ok (.ireturn, 1) := by decide +kernel
theorem d_M_fill_0 : decode b_M_fill 0 = .ok (.aload_n 0, 1) := by decide +kernel
theorem d_M_fill_1 : decode b_M_fill 1 = .ok (.iconst 0, 1) := by decide +kernel
theorem d_M_fill_2 : decode b_M_fill 2 = .ok (.putfield 48, 3) := by decide +kernel
theorem d_M_fill_5 : decode b_M_fill 5 = .ok (.aload_n 0, 1) := by decide +kernel
theorem d_M_fill_6 : decode b_M_fill 6 = .ok (.iload_n 1, 1) := by decide +kernel
theorem d_M_fill_7 : decode b_M_fill 7 = .ok (.invokevirtual 58, 3) := by decide +kernel
theorem d_M_fill_10 : decode b_M_fill 10 = .ok (.ifCond .eq 11, 3) := by decide +kernel
theorem d_M_fill_13 : decode b_M_fill 13 = .ok (.aload_n 0, 1) := by decide +kernel
theorem d_M_fill_14 : decode b_M_fill 14 = .ok (.iload_n 2, 1) := by decide +kernel
theorem d_M_fill_15 : decode b_M_fill 15 = .ok (.invokevirtual 54, 3) := by decide +kernel
theorem d_M_fill_18 : decode b_M_fill 18 = .ok (.ifCond .ne 5, 3) := by decide +kernel
theorem d_M_fill_21 : decode b_M_fill 21 = .ok (.iconst (-1), 1) := by decide +kernel
theorem d_M_fill_22 : decode b_M_fill 22 = .ok (.ireturn, 1) := by decide +kernel
theorem d_M_fill_23 : decode b_M_fill 23 = .ok (.iconst 0, 1) := by decide +kernel
theorem d_M_fill_24 : decode b_M_fill 24 = .ok (.istore_n 3, 1) := by decide +kernel
theorem d_M_fill_25 : decode b_M_fill 25 = .ok (.iconst 0, 1) := by decide +kernel
theorem d_M_fill_26 : decode b_M_fill 26 = .ok (.istore 4, 2) := by decide +kernel
theorem d_M_fill_28 : decode b_M_fill 28 = .ok (.iload 4, 2) := by decide +kernel
theorem d_M_fill_30 : decode b_M_fill 30 = .ok (.aload_n 0, 1) := by decide +kernel
theorem d_M_fill_31 : decode b_M_fill 31 = .ok (.getfield 7, 3) := by decide +kernel
theorem d_M_fill_34 : decode b_M_fill 34 = .ok (.if_icmp .ge 29, 3) := by decide +kernel
theorem d_M_fill_37 : decode b_M_fill 37 = .ok (.iload_n 3, 1) := by decide +kernel
theorem d_M_fill_38 : decode b_M_fill 38 = .ok (.aload_n 0, 1) := by decide +kernel
theorem d_M_fill_39 : decode b_M_fill 39 = .ok (.iload 4, 2) := by decide +kernel
theorem d_M_fill_41 : decode b_M_fill 41 = .ok (.iload_n 1, 1) := by decide +kernel
theorem d_M_fill_42 : decode b_M_fill 42 = .ok (.iload_n 2, 1) := by decide +kernel
theorem d_M_fill_43 : decode b_M_fill 43 = .ok (.iconst 1, 1) := by decide +kernel
theorem d_M_fill_44 : decode b_M_fill 44 = .ok (.invokevirtual 65, 3) := by decide +kernel
theorem d_M_fill_47 : decode b_M_fill 47 = .ok (.ifCond .eq 7, 3) := by decide +kernel
theorem d_M_fill_50 : decode b_M_fill 50 = .ok (.iconst 1, 1) := by decide +kernel
theorem d_M_fill_51 : decode b_M_fill 51 = .ok (.goto 4, 3) := by decide +kernel
theorem d_M_fill_54 : decode b_M_fill 54 = .ok (.iconst 0, 1) := by decide +kernel
theorem d_M_fill_55 : decode b_M_fill 55 = .ok (.iadd, 1) := by decide +kernel
theorem d_M_fill_56 : decode b_M_fill 56 = .ok (.istore_n 3, 1) := by decide +kernel
theorem d_M_fill_57 : decode b_M_fill 57 = .ok (.iinc 4 1, 3) := by decide +kernel
theorem d_M_fill_60 : decode b_M_fill 60 = .ok (.goto (-32), 3) := by decide +kernel
theorem d_M_fill_63 : decode b_M_fill 63 = .ok (.iload_n 3, 1) := by decide +kernel
theorem d_M_fill_64 : decode b_M_fill 64 = .ok (.ireturn, 1) := by decide +kernel
theorem d_W_turn_0 : decode b_W_turn 0 = .ok (.iconst 0, 1) := by decide +kernel
theorem d_W_turn_1 : decode b_W_turn 1 = .ok (.istore_n 1, 1) := by decide +kernel
theorem d_W_turn_2 : decode b_W_turn 2 = .ok (.iload_n 1, 1) := by decide +kernel
theorem d_W_turn_3 : decode b_W_turn 3 = .ok (.aload_n 0, 1) := by decide +kernel
theorem d_W_turn_4 : decode b_W_turn 4 = .ok (.getfield 12, 3) := by decide +kernel
theorem d_W_turn_7 : decode b_W_turn 7 = .ok (.getfield 52, 3) := by decide +kernel
theorem d_W_turn_10 : decode b_W_turn 10 = .ok (.if_icmp .ge 17, 3) := by decide +kernel
theorem d_W_turn_13 : decode b_W_turn 13 = .ok (.aload_n 0, 1) := by decide +kernel
theorem d_W_turn_14 : decode b_W_turn 14 = .ok (.getfield 12, 3) := by decide +kernel
theorem d_W_turn_17 : decode b_W_turn 17 = .ok (.iload_n 1, 1) := by decide +kernel
theorem d_W_turn_18 : decode b_W_turn 18 = .ok (.invokevirtual 55, 3) := by decide +kernel
theorem d_W_turn_21 : decode b_W_turn 21 = .ok (.iinc 1 1, 3) := by decide +kernel
theorem d_W_turn_24 : decode b_W_turn 24 = .ok (.goto (-22), 3) := by decide +kernel
theorem d_W_turn_27 : decode b_W_turn 27 = .ok (.return_, 1) := by decide +kernel
theorem d_G_transpose_0 : decode b_G_transpose 0 = .ok (.iconst 1, 1) := by decide +kernel
theorem d_G_transpose_1 : decode b_G_transpose 1 = .ok (.istore_n 2, 1) := by decide +kernel
theorem d_G_transpose_2 : decode b_G_transpose 2 = .ok (.iload_n 2, 1) := by decide +kernel
theorem d_G_transpose_3 : decode b_G_transpose 3 = .ok (.aload_n 0, 1) := by decide +kernel
theorem d_G_transpose_4 : decode b_G_transpose 4 = .ok (.getfield 9, 3) := by decide +kernel
theorem d_G_transpose_7 : decode b_G_transpose 7 = .ok (.if_icmp .ge 53, 3) := by decide +kernel
theorem d_G_transpose_10 : decode b_G_transpose 10 = .ok (.iconst 0, 1) := by decide +kernel
theorem d_G_transpose_11 : decode b_G_transpose 11 = .ok (.istore_n 3, 1) := by decide +kernel
theorem d_G_transpose_12 : decode b_G_transpose 12 = .ok (.iload_n 3, 1) := by decide +kernel
theorem d_G_transpose_13 : decode b_G_transpose 13 = .ok (.iload_n 2, 1) := by decide +kernel
theorem d_G_transpose_14 : decode b_G_transpose 14 = .ok (.if_icmp .ge 40, 3) := by decide +kernel
theorem d_G_transpose_17 : decode b_G_transpose 17 = .ok (.aload_n 0, 1) := by decide +kernel
theorem d_G_transpose_18 : decode b_G_transpose 18 = .ok (.iload_n 2, 1) := by decide +kernel
theorem d_G_transpose_19 : decode b_G_transpose 19 = .ok (.iload_n 1, 1) := by decide +kernel
theorem d_G_transpose_20 : decode b_G_transpose 20 = .ok (.iload_n 3, 1) := by decide +kernel
theorem d_G_transpose_21 : decode b_G_transpose 21 = .ok (.invokevirtual 42, 3) := by decide +kernel
theorem d_G_transpose_24 : decode b_G_transpose 24 = .ok (.aload_n 0, 1) := by decide +kernel
theorem d_G_transpose_25 : decode b_G_transpose 25 = .ok (.iload_n 3, 1) := by decide +kernel
theorem d_G_transpose_26 : decode b_G_transpose 26 = .ok (.iload_n 1, 1) := by decide +kernel
theorem d_G_transpose_27 : decode b_G_transpose 27 = .ok (.iload_n 2, 1) := by decide +kernel
theorem d_G_transpose_28 : decode b_G_transpose 28 = .ok (.invokevirtual 42, 3) := by decide +kernel
theorem d_G_transpose_31 : decode b_G_transpose 31 = .ok (.if_icmp .eq 17, 3) := by decide +kernel
theorem d_G_transpose_34 : decode b_G_transpose 34 = .ok (.aload_n 0, 1) := by decide +kernel
theorem d_G_transpose_35 : decode b_G_transpose 35 = .ok (.iload_n 2, 1) := by decide +kernel
theorem d_G_transpose_36 : decode b_G_transpose 36 = .ok (.iload_n 1, 1) := by decide +kernel
theorem d_G_transpose_37 : decode b_G_transpose 37 = .ok (.iload_n 3, 1) := by decide +kernel
theorem d_G_transpose_38 : decode b_G_transpose 38 = .ok (.invokevirtual 46, 3) := by decide +kernel
theorem d_G_transpose_41 : decode b_G_transpose 41 = .ok (.aload_n 0, 1) := by decide +kernel
theorem d_G_transpose_42 : decode b_G_transpose 42 = .ok (.iload_n 3, 1) := by decide +kernel
theorem d_G_transpose_43 : decode b_G_transpose 43 = .ok (.iload_n 1, 1) := by decide +kernel
theorem d_G_transpose_44 : decode b_G_transpose 44 = .ok (.iload_n 2, 1) := by decide +kernel
theorem d_G_transpose_45 : decode b_G_transpose 45 = .ok (.invokevirtual 46, 3) := by decide +kernel
theorem d_G_transpose_48 : decode b_G_transpose 48 = .ok (.iinc 3 1, 3) := by decide +kernel
theorem d_G_transpose_51 : decode b_G_transpose 51 = .ok (.goto (-39), 3) := by decide +kernel
theorem d_G_transpose_54 : decode b_G_transpose 54 = .ok (.iinc 2 1, 3) := by decide +kernel
theorem d_G_transpose_57 : decode b_G_transpose 57 = .ok (.goto (-55), 3) := by decide +kernel
theorem d_G_transpose_60 : decode b_G_transpose 60 = .ok (.return_, 1) := by decide +kernel
theorem d_M_turn_0 : decode b_M_turn 0 = .ok (.aload_n 0, 1) := by decide +kernel
theorem d_M_turn_1 : decode b_M_turn 1 = .ok (.iconst 0, 1) := by decide +kernel
theorem d_M_turn_2 : decode b_M_turn 2 = .ok (.putfield 48, 3) := by decide +kernel
theorem d_M_turn_5 : decode b_M_turn 5 = .ok (.iconst 0, 1) := by decide +kernel
theorem d_M_turn_6 : decode b_M_turn 6 = .ok (.istore_n 1, 1) := by decide +kernel
theorem d_M_turn_7 : decode b_M_turn 7 = .ok (.iload_n 1, 1) := by decide +kernel
theorem d_M_turn_8 : decode b_M_turn 8 = .ok (.aload_n 0, 1) := by decide +kernel
theorem d_M_turn_9 : decode b_M_turn 9 = .ok (.getfield 13, 3) := by decide +kernel
theorem d_M_turn_12 : decode b_M_turn 12 = .ok (.if_icmp .ge 113, 3) := by decide +kernel
theorem d_M_turn_15 : decode b_M_turn 15 = .ok (.iconst 0, 1) := by decide +kernel
theorem d_M_turn_16 : decode b_M_turn 16 = .ok (.istore_n 2, 1) := by decide +kernel
theorem d_M_turn_17 : decode b_M_turn 17 = .ok (.iload_n 2, 1) := by decide +kernel
theorem d_M_turn_18 : decode b_M_turn 18 = .ok (.aload_n 0, 1) := by decide +kernel
theorem d_M_turn_19 : decode b_M_turn 19 = .ok (.getfield 7, 3) := by decide +kernel
theorem d_M_turn_22 : decode b_M_turn 22 = .ok (.if_icmp .ge 97, 3) := by decide +kernel
theorem d_M_turn_25 : decode b_M_turn 25 = .ok (.iconst 0, 1) := by decide +kernel
theorem d_M_turn_26 : decode b_M_turn 26 = .ok (.istore_n 3, 1) := by decide +kernel
theorem d_M_turn_27 : decode b_M_turn 27 = .ok (.iload_n 3, 1) := by decide +kernel
theorem d_M_turn_28 : decode b_M_turn 28 = .ok (.iload_n 2, 1) := by decide +kernel
theorem d_M_turn_29 : decode b_M_turn 29 = .ok (.if_icmp .ge 84, 3) := by decide +kernel
theorem d_M_turn_32 : decode b_M_turn 32 = .ok (.aload_n 0, 1) := by decide +kernel
theorem d_M_turn_33 : decode b_M_turn 33 = .ok (.getfield 16, 3) := by decide +kernel
theorem d_M_turn_36 : decode b_M_turn 36 = .ok (.bipush 24, 2) := by decide +kernel
theorem d_M_turn_38 : decode b_M_turn 38 = .ok (.iload_n 1, 1) := by decide +kernel
theorem d_M_turn_39 : decode b_M_turn 39 = .ok (.imul, 1) := by decide +kernel
theorem d_M_turn_40 : decode b_M_turn 40 = .ok (.iload_n 2, 1) := by decide +kernel
theorem d_M_turn_41 : decode b_M_turn 41 = .ok (.iadd, 1) := by decide +kernel
theorem d_M_turn_42 : decode b_M_turn 42 = .ok (.iaload, 1) := by decide +kernel
theorem d_M_turn_43 : decode b_M_turn 43 = .ok (.iload_n 3, 1) := by decide +kernel
theorem d_M_turn_44 : decode b_M_turn 44 = .ok (.ishr, 1) := by decide +kernel
theorem d_M_turn_45 : decode b_M_turn 45 = .ok (.iconst 1, 1) := by decide +kernel
theorem d_M_turn_46 : decode b_M_turn 46 = .ok (.iand, 1) := by decide +kernel
theorem d_M_turn_47 : decode b_M_turn 47 = .ok (.istore 4, 2) := by decide +kernel
theorem d_M_turn_49 : decode b_M_turn 49 = .ok (.aload_n 0, 1) := by decide +kernel
theorem d_M_turn_50 : decode b_M_turn 50 = .ok (.getfield 16, 3) := by decide +kernel
theorem d_M_turn_53 : decode b_M_turn 53 = .ok (.bipush 24, 2) := by decide +kernel
theorem d_M_turn_55 : decode b_M_turn 55 = .ok (.iload_n 1, 1) := by decide +kernel
theorem d_M_turn_56 : decode b_M_turn 56 = .ok (.imul, 1) := by decide +kernel
theorem d_M_turn_57 : decode b_M_turn 57 = .ok (.iload_n 3, 1) := by decide +kernel
theorem d_M_turn_58 : decode b_M_turn 58 = .ok (.iadd, 1) := by decide +kernel
theorem d_M_turn_59 : decode b_M_turn 59 = .ok (.iaload, 1) := by decide +kernel
theorem d_M_turn_60 : decode b_M_turn 60 = .ok (.iload_n 2, 1) := by decide +kernel
theorem d_M_turn_61 : decode b_M_turn 61 = .ok (.ishr, 1) := by decide +kernel
theorem d_M_turn_62 : decode b_M_turn 62 = .ok (.iconst 1, 1) := by decide +kernel
theorem d_M_turn_63 : decode b_M_turn 63 = .ok (.iand, 1) := by decide +kernel
theorem d_M_turn_64 : decode b_M_turn 64 = .ok (.istore 5, 2) := by decide +kernel
theorem d_M_turn_66 : decode b_M_turn 66 = .ok (.iload 4, 2) := by decide +kernel
theorem d_M_turn_68 : decode b_M_turn 68 = .ok (.iload 5, 2) := by decide +kernel
theorem d_M_turn_70 : decode b_M_turn 70 = .ok (.if_icmp .eq 37, 3) := by decide +kernel
theorem d_M_turn_73 : decode b_M_turn 73 = .ok (.aload_n 0, 1) := by decide +kernel
theorem d_M_turn_74 : decode b_M_turn 74 = .ok (.getfield 16, 3) := by decide +kernel
theorem d_M_turn_77 : decode b_M_turn 77 = .ok (.bipush 24, 2) := by decide +kernel
theorem d_M_turn_79 : decode b_M_turn 79 = .ok (.iload_n 1, 1) := by decide +kernel
theorem d_M_turn_80 : decode b_M_turn 80 = .ok (.imul, 1) := by decide +kernel
theorem d_M_turn_81 : decode b_M_turn 81 = .ok (.iload_n 2, 1) := by decide +kernel
theorem d_M_turn_82 : decode b_M_turn 82 = .ok (.iadd, 1) := by decide +kernel
theorem d_M_turn_83 : decode b_M_turn 83 = .ok (.dup2, 1) := by decide +kernel
theorem d_M_turn_84 : decode b_M_turn 84 = .ok (.iaload, 1) := by decide +kernel
theorem d_M_turn_85 : decode b_M_turn 85 = .ok (.iconst 1, 1) := by decide +kernel
theorem d_M_turn_86 : decode b_M_turn 86 = .ok (.iload_n 3, 1) := by decide +kernel
theorem d_M_turn_87 : decode b_M_turn 87 = .ok (.ishl, 1) := by decide +kernel
theorem d_M_turn_88 : decode b_M_turn 88 = .ok (.ixor, 1) := by decide +kernel
theorem d_M_turn_89 : decode b_M_turn 89 = .ok (.iastore, 1) := by decide +kernel
theorem d_M_turn_90 : decode b_M_turn 90 = .ok (.aload_n 0, 1) := by decide +kernel
theorem d_M_turn_91 : decode b_M_turn 91 = .ok (.getfield 16, 3) := by decide +kernel
theorem d_M_turn_94 : decode b_M_turn 94 = .ok (.bipush 24, 2) := by decide +kernel
theorem d_M_turn_96 : decode b_M_turn 96 = .ok (.iload_n 1, 1) := by decide +kernel
theorem d_M_turn_97 : decode b_M_turn 97 = .ok (.imul, 1) := by decide +kernel
theorem d_M_turn_98 : decode b_M_turn 98 = .ok (.iload_n 3, 1) := by decide +kernel
theorem d_M_turn_99 : decode b_M_turn 99 = .ok (.iadd, 1) := by decide +kernel
theorem d_M_turn_100 : decode b_M_turn 100 = .ok (.dup2, 1) := by decide +kernel
theorem d_M_turn_101 : decode b_M_turn 101 = .ok (.iaload, 1) := by decide +kernel
theorem d_M_turn_102 : decode b_M_turn 102 = .ok (.iconst 1, 1) := by decide +kernel
theorem d_M_turn_103 : decode b_M_turn 103 = .ok (.iload_n 2, 1) := by decide +kernel
theorem d_M_turn_104 : decode b_M_turn 104 = .ok (.ishl, 1) := by decide +kernel
theorem d_M_turn_105 : decode b_M_turn 105 = .ok (.ixor, 1) := by decide +kernel
theorem d_M_turn_106 : decode b_M_turn 106 = .ok (.iastore, 1) := by decide +kernel
theorem d_M_turn_107 : decode b_M_turn 107 = .ok (.iinc 3 1, 3) := by decide +kernel
theorem d_M_turn_110 : decode b_M_turn 110 = .ok (.goto (-83), 3) := by decide +kernel
theorem d_M_turn_113 : decode b_M_turn 113 = .ok (.iinc 2 1, 3) := by decide +kernel
theorem d_M_turn_116 : decode b_M_turn 116 = .ok (.goto (-99), 3) := by decide +kernel
theorem d_M_turn_119 : decode b_M_turn 119 = .ok (.iinc 1 1, 3) := by decide +kernel
theorem d_M_turn_122 : decode b_M_turn 122 = .ok (.goto (-115), 3) := by decide +kernel
theorem d_M_turn_125 : decode b_M_turn 125 = .ok (.return_, 1) := by decide +kernel
theorem d_W_start_0 : decode b_W_start 0 = .ok (.aload_n 0, 1) := by decide +kernel
theorem d_W_start_1 : decode b_W_start 1 = .ok (.getfield 12, 3) := by decide +kernel
theorem d_W_start_4 : decode b_W_start 4 = .ok (.iload_n 1, 1) := by decide +kernel
theorem d_W_start_5 : decode b_W_start 5 = .ok (.invokevirtual 46, 3) := by decide +kernel
theorem d_W_start_8 : decode b_W_start 8 = .ok (.ifCond .ne 5, 3) := by decide +kernel
theorem d_W_start_11 : decode b_W_start 11 = .ok (.iconst 0, 1) := by decide +kernel
theorem d_W_start_12 : decode b_W_start 12 = .ok (.ireturn, 1) := by decide +kernel
theorem d_W_start_13 : decode b_W_start 13 = .ok (.aload_n 0, 1) := by decide +kernel
theorem d_W_start_14 : decode b_W_start 14 = .ok (.getfield 12, 3) := by decide +kernel
theorem d_W_start_17 : decode b_W_start 17 = .ok (.iload_n 1, 1) := by decide +kernel
theorem d_W_start_18 : decode b_W_start 18 = .ok (.putfield 59, 3) := by decide +kernel
theorem d_W_start_21 : decode b_W_start 21 = .ok (.iconst 1, 1) := by decide +kernel
theorem d_W_start_22 : decode b_W_start 22 = .ok (.ireturn, 1) := by decide +kernel
theorem d_M_start_0 : decode b_M_start 0 = .ok (.aload_n 0, 1) := by decide +kernel
theorem d_M_start_1 : decode b_M_start 1 = .ok (.iconst 0, 1) := by decide +kernel
theorem d_M_start_2 : decode b_M_start 2 = .ok (.putfield 48, 3) := by decide +kernel
theorem d_M_start_5 : decode b_M_start 5 = .ok (.aload_n 0, 1) := by decide +kernel
theorem d_M_start_6 : decode b_M_start 6 = .ok (.iload_n 1, 1) := by decide +kernel
theorem d_M_start_7 : decode b_M_start 7 = .ok (.invokevirtual 54, 3) := by decide +kernel
theorem d_M_start_10 : decode b_M_start 10 = .ok (.ifCond .ne 5, 3) := by decide +kernel
theorem d_M_start_13 : decode b_M_start 13 = .ok (.iconst 0, 1) := by decide +kernel
theorem d_M_start_14 : decode b_M_start 14 = .ok (.ireturn, 1) := by decide +kernel
theorem d_M_start_15 : decode b_M_start 15 = .ok (.aload_n 0, 1) := by decide +kernel
theorem d_M_start_16 : decode b_M_start 16 = .ok (.iload_n 1, 1) := by decide +kernel
theorem d_M_start_17 : decode b_M_start 17 = .ok (.putfield 51, 3) := by decide +kernel
theorem d_M_start_20 : decode b_M_start 20 = .ok (.iconst 1, 1) := by decide +kernel
theorem d_M_start_21 : decode b_M_start 21 = .ok (.ireturn, 1) := by decide +kernel
theorem d_W_make_0 : decode b_W_make 0 = .ok (.aload_n 0, 1) := by decide +kernel
theorem d_W_make_1 : decode b_W_make 1 = .ok (.getfield 19, 3) := by decide +kernel
theorem d_W_make_4 : decode b_W_make 4 = .ok (.aload_n 0, 1) := by decide +kernel
theorem d_W_make_5 : decode b_W_make 5 = .ok (.getfield 12, 3) := by decide +kernel
theorem d_W_make_8 : decode b_W_make 8 = .ok (.invokevirtual 62, 3) := by decide +kernel
theorem d_W_make_11 : decode b_W_make 11 = .ok (.ifCond .ne 5, 3) := by decide +kernel
theorem d_W_make_14 : decode b_W_make 14 = .ok (.iconst (-1), 1) := by decide +kernel
theorem d_W_make_15 : decode b_W_make 15 = .ok (.ireturn, 1) := by decide +kernel
theorem d_W_make_16 : decode b_W_make 16 = .ok (.aload_n 0, 1) := by decide +kernel
theorem d_W_make_17 : decode b_W_make 17 = .ok (.iconst 0, 1) := by decide +kernel
theorem d_W_make_18 : decode b_W_make 18 = .ok (.putfield 23, 3) := by decide +kernel
theorem d_W_make_21 : decode b_W_make 21 = .ok (.aload_n 0, 1) := by decide +kernel
theorem d_W_make_22 : decode b_W_make 22 = .ok (.getfield 19, 3) := by decide +kernel
theorem d_W_make_25 : decode b_W_make 25 = .ok (.getfield 66, 3) := by decide +kernel
theorem d_W_make_28 : decode b_W_make 28 = .ok (.ireturn, 1) := by decide +kernel
theorem d_T_build_0 : decode b_T_build 0 = .ok (.aload_n 0, 1) := by decide +kernel
theorem d_T_build_1 : decode b_T_build 1 = .ok (.aload_n 1, 1) := by decide +kernel
theorem d_T_build_2 : decode b_T_build 2 = .ok (.invokevirtual 49, 3) := by decide +kernel
theorem d_T_build_5 : decode b_T_build 5 = .ok (.istore_n 2, 1) := by decide +kernel
theorem d_T_build_6 : decode b_T_build 6 = .ok (.iload_n 2, 1) := by decide +kernel
theorem d_T_build_7 : decode b_T_build 7 = .ok (.iconst (-1), 1) := by decide +kernel
theorem d_T_build_8 : decode b_T_build 8 = .ok (.if_icmp .ne 5, 3) := by decide +kernel
theorem d_T_build_11 : decode b_T_build 11 = .ok (.iconst 0, 1) := by decide +kernel
theorem d_T_build_12 : decode b_T_build 12 = .ok (.ireturn, 1) := by decide +kernel
theorem d_T_build_13 : decode b_T_build 13 = .ok (.aload_n 0, 1) := by decide +kernel
theorem d_T_build_14 : decode b_T_build 14 = .ok (.aload_n 1, 1) := by decide +kernel
theorem d_T_build_15 : decode b_T_build 15 = .ok (.getfield 53, 3) := by decide +kernel
theorem d_T_build_18 : decode b_T_build 18 = .ok (.putfield 9, 3) := by decide +kernel
theorem d_T_build_21 : decode b_T_build 21 = .ok (.aload_n 0, 1) := by decide +kernel
theorem d_T_build_22 : decode b_T_build 22 = .ok (.iload_n 2, 1) := by decide +kernel
theorem d_T_build_23 : decode b_T_build 23 = .ok (.putfield 15, 3) := by decide +kernel
theorem d_T_build_26 : decode b_T_build 26 = .ok (.aload_n 0, 1) := by decide +kernel
theorem d_T_build_27 : decode b_T_build 27 = .ok (.getfield 28, 3) := by decide +kernel
theorem d_T_build_30 : decode b_T_build 30 = .ok (.iconst 0, 1) := by decide +kernel
theorem d_T_build_31 : decode b_T_build 31 = .ok (.aload_n 0, 1) := by decide +kernel
theorem d_T_build_32 : decode b_T_build 32 = .ok (.getfield 24, 3) := by decide +kernel
theorem d_T_build_35 : decode b_T_build 35 = .ok (.iconst 0, 1) := by decide +kernel
theorem d_T_build_36 : decode b_T_build 36 = .ok (.iload_n 2, 1) := by decide +kernel
theorem d_T_build_37 : decode b_T_build 37 = .ok (.invokestatic 56, 3) := by decide +kernel
theorem d_T_build_40 : decode b_T_build 40 = .ok (.aload_n 0, 1) := by decide +kernel
theorem d_T_build_41 : decode b_T_build 41 = .ok (.aload_n 1, 1) := by decide +kernel
theorem d_T_build_42 : decode b_T_build 42 = .ok (.invokevirtual 62, 3) := by decide +kernel
theorem d_T_build_45 : decode b_T_build 45 = .ok (.aload_n 0, 1) := by decide +kernel
theorem d_T_build_46 : decode b_T_build 46 = .ok (.invokevirtual 66, 3) := by decide +kernel
theorem d_T_build_49 : decode b_T_build 49 = .ok (.aload_n 0, 1) := by decide +kernel
theorem d_T_build_50 : decode b_T_build 50 = .ok (.invokevirtual 69, 3) := by decide +kernel
theorem d_T_build_53 : decode b_T_build 53 = .ok (.iconst 1, 1) := by decide +kernel
theorem d_T_build_54 : decode b_T_build 54 = .ok (.ireturn, 1) := by decide +kernel
theorem d_T_findSets_0 : decode b_T_findSets 0 = .ok (.aload_n 0, 1) := by decide +kernel
theorem d_T_findSets_1 : decode b_T_findSets 1 = .ok (.getfield 28, 3) := by decide +kernel
theorem d_T_findSets_4 : decode b_T_findSets 4 = .ok (.iconst 0, 1) := by decide +kernel
theorem d_T_findSets_5 : decode b_T_findSets 5 = .ok (.iconst 1, 1) := by decide +kernel
theorem d_T_findSets_6 : decode b_T_findSets 6 = .ok (.aload_n 1, 1) := by decide +kernel
theorem d_T_findSets_7 : decode b_T_findSets 7 = .ok (.getfield 72, 3) := by decide +kernel
theorem d_T_findSets_10 : decode b_T_findSets 10 = .ok (.ishl, 1) := by decide +kernel
theorem d_T_findSets_11 : decode b_T_findSets 11 = .ok (.iastore, 1) := by decide +kernel
theorem d_T_findSets_12 : decode b_T_findSets 12 = .ok (.iconst 1, 1) := by decide +kernel
theorem d_T_findSets_13 : decode b_T_findSets 13 = .ok (.istore_n 2, 1) := by decide +kernel
theorem d_T_findSets_14 : decode b_T_findSets 14 = .ok (.iconst 0, 1) := by decide +kernel
theorem d_T_findSets_15 : decode b_T_findSets 15 = .ok (.istore_n 3, 1) := by decide +kernel
theorem d_T_findSets_16 : decode b_T_findSets 16 = .ok (.iload_n 3, 1) := by decide +kernel
theorem d_T_findSets_17 : decode b_T_findSets 17 = .ok (.iload_n 2, 1) := by decide +kernel
theorem d_T_findSets_18 : decode b_T_findSets 18 = .ok (.if_icmp .ge 79, 3) := by decide +kernel
theorem d_T_findSets_21 : decode b_T_findSets 21 = .ok (.iconst 0, 1) := by decide +kernel
theorem d_T_findSets_22 : decode b_T_findSets 22 = .ok (.istore 4, 2) := by decide +kernel
theorem d_T_findSets_24 : decode b_T_findSets 24 = .ok (.iload 4, 2) := by decide +kernel
theorem d_T_findSets_26 : decode b_T_findSets 26 = .ok (.aload_n 1, 1) := by decide +kernel
theorem d_T_findSets_27 : decode b_T_findSets 27 = .ok (.getfield 53, 3) := by decide +kernel
theorem d_T_findSets_30 : decode b_T_findSets 30 = .ok (.if_icmp .ge 61, 3) := by decide +kernel
theorem d_T_findSets_33 : decode b_T_findSets 33 = .ok (.aload_n 1, 1) := by decide +kernel
theorem d_T_findSets_34 : decode b_T_findSets 34 = .ok (.aload_n 0, 1) := by decide +kernel
theorem d_T_findSets_35 : decode b_T_findSets 35 = .ok (.getfield 28, 3) := by decide +kernel
theorem d_T_findSets_38 : decode b_T_findSets 38 = .ok (.iload_n 3, 1) := by decide +kernel
end
section
theorem d_T_findSets_39 : decode b_T_findSets 39 = .ok (.iaload, 1) := by decide +kernel
theorem d_T_findSets_40 : decode b_T_findSets 40 = .ok (.iload 4, 2) := by decide +kernel
theorem d_T_findSets_42 : decode b_T_findSets 42 = .ok (.invokevirtual 75, 3) := by decide +kernel
theorem d_T_findSets_45 : decode b_T_findSets 45 = .ok (.istore 5, 2) := by decide +kernel
theorem d_T_findSets_47 : decode b_T_findSets 47 = .ok (.iload 5, 2) := by decide +kernel
theorem d_T_findSets_49 : decode b_T_findSets 49 = .ok (.ifCond .eq 36, 3) := by decide +kernel
theorem d_T_findSets_52 : decode b_T_findSets 52 = .ok (.aload_n 0, 1) := by decide +kernel
theorem d_T_findSets_53 : decode b_T_findSets 53 = .ok (.getfield 28, 3) := by decide +kernel
theorem d_T_findSets_56 : decode b_T_findSets 56 = .ok (.iload_n 2, 1) := by decide +kernel
theorem d_T_findSets_57 : decode b_T_findSets 57 = .ok (.iload 5, 2) := by decide +kernel
theorem d_T_findSets_59 : decode b_T_findSets 59 = .ok (.invokestatic 79, 3) := by decide +kernel
theorem d_T_findSets_62 : decode b_T_findSets 62 = .ok (.iconst (-1), 1) := by decide +kernel
theorem d_T_findSets_63 : decode b_T_findSets 63 = .ok (.if_icmp .ne 22, 3) := by decide +kernel
theorem d_T_findSets_66 : decode b_T_findSets 66 = .ok (.iload_n 2, 1) := by decide +kernel
theorem d_T_findSets_67 : decode b_T_findSets 67 = .ok (.bipush 120, 2) := by decide +kernel
theorem d_T_findSets_69 : decode b_T_findSets 69 = .ok (.if_icmp .lt 5, 3) := by decide +kernel
theorem d_T_findSets_72 : decode b_T_findSets 72 = .ok (.iconst (-1), 1) := by decide +kernel
theorem d_T_findSets_73 : decode b_T_findSets 73 = .ok (.ireturn, 1) := by decide +kernel
theorem d_T_findSets_74 : decode b_T_findSets 74 = .ok (.aload_n 0, 1) := by decide +kernel
theorem d_T_findSets_75 : decode b_T_findSets 75 = .ok (.getfield 28, 3) := by decide +kernel
theorem d_T_findSets_78 : decode b_T_findSets 78 = .ok (.iload_n 2, 1) := by decide +kernel
theorem d_T_findSets_79 : decode b_T_findSets 79 = .ok (.iload 5, 2) := by decide +kernel
theorem d_T_findSets_81 : decode b_T_findSets 81 = .ok (.iastore, 1) := by decide +kernel
theorem d_T_findSets_82 : decode b_T_findSets 82 = .ok (.iinc 2 1, 3) := by decide +kernel
theorem d_T_findSets_85 : decode b_T_findSets 85 = .ok (.iinc 4 1, 3) := by decide +kernel
theorem d_T_findSets_88 : decode b_T_findSets 88 = .ok (.goto (-64), 3) := by decide +kernel
theorem d_T_findSets_91 : decode b_T_findSets 91 = .ok (.iinc 3 1, 3) := by decide +kernel
theorem d_T_findSets_94 : decode b_T_findSets 94 = .ok (.goto (-78), 3) := by decide +kernel
theorem d_T_findSets_97 : decode b_T_findSets 97 = .ok (.iload_n 2, 1) := by decide +kernel
theorem d_T_findSets_98 : decode b_T_findSets 98 = .ok (.ireturn, 1) := by decide +kernel
theorem d_G_reach_0 : decode b_G_reach 0 = .ok (.iconst 0, 1) := by decide +kernel
theorem d_G_reach_1 : decode b_G_reach 1 = .ok (.istore_n 3, 1) := by decide +kernel
theorem d_G_reach_2 : decode b_G_reach 2 = .ok (.iconst 0, 1) := by decide +kernel
theorem d_G_reach_3 : decode b_G_reach 3 = .ok (.istore 4, 2) := by decide +kernel
theorem d_G_reach_5 : decode b_G_reach 5 = .ok (.iload 4, 2) := by decide +kernel
theorem d_G_reach_7 : decode b_G_reach 7 = .ok (.aload_n 0, 1) := by decide +kernel
theorem d_G_reach_8 : decode b_G_reach 8 = .ok (.getfield 9, 3) := by decide +kernel
theorem d_G_reach_11 : decode b_G_reach 11 = .ok (.if_icmp .ge 32, 3) := by decide +kernel
theorem d_G_reach_14 : decode b_G_reach 14 = .ok (.iload_n 1, 1) := by decide +kernel
theorem d_G_reach_15 : decode b_G_reach 15 = .ok (.iload 4, 2) := by decide +kernel
theorem d_G_reach_17 : decode b_G_reach 17 = .ok (.iushr, 1) := by decide +kernel
theorem d_G_reach_18 : decode b_G_reach 18 = .ok (.iconst 1, 1) := by decide +kernel
theorem d_G_reach_19 : decode b_G_reach 19 = .ok (.iand, 1) := by decide +kernel
theorem d_G_reach_20 : decode b_G_reach 20 = .ok (.ifCond .eq 17, 3) := by decide +kernel
theorem d_G_reach_23 : decode b_G_reach 23 = .ok (.iload_n 3, 1) := by decide +kernel
theorem d_G_reach_24 : decode b_G_reach 24 = .ok (.aload_n 0, 1) := by decide +kernel
theorem d_G_reach_25 : decode b_G_reach 25 = .ok (.getfield 21, 3) := by decide +kernel
theorem d_G_reach_28 : decode b_G_reach 28 = .ok (.iload 4, 2) := by decide +kernel
theorem d_G_reach_30 : decode b_G_reach 30 = .ok (.iload_n 2, 1) := by decide +kernel
theorem d_G_reach_31 : decode b_G_reach 31 = .ok (.invokestatic 38, 3) := by decide +kernel
theorem d_G_reach_34 : decode b_G_reach 34 = .ok (.iaload, 1) := by decide +kernel
theorem d_G_reach_35 : decode b_G_reach 35 = .ok (.ior, 1) := by decide +kernel
theorem d_G_reach_36 : decode b_G_reach 36 = .ok (.istore_n 3, 1) := by decide +kernel
theorem d_G_reach_37 : decode b_G_reach 37 = .ok (.iinc 4 1, 3) := by decide +kernel
theorem d_G_reach_40 : decode b_G_reach 40 = .ok (.goto (-35), 3) := by decide +kernel
theorem d_G_reach_43 : decode b_G_reach 43 = .ok (.iload_n 3, 1) := by decide +kernel
theorem d_G_reach_44 : decode b_G_reach 44 = .ok (.ireturn, 1) := by decide +kernel
theorem d_T_indexOf_0 : decode b_T_indexOf 0 = .ok (.iconst 0, 1) := by decide +kernel
theorem d_T_indexOf_1 : decode b_T_indexOf 1 = .ok (.istore_n 3, 1) := by decide +kernel
theorem d_T_indexOf_2 : decode b_T_indexOf 2 = .ok (.iload_n 3, 1) := by decide +kernel
theorem d_T_indexOf_3 : decode b_T_indexOf 3 = .ok (.iload_n 1, 1) := by decide +kernel
theorem d_T_indexOf_4 : decode b_T_indexOf 4 = .ok (.if_icmp .ge 18, 3) := by decide +kernel
theorem d_T_indexOf_7 : decode b_T_indexOf 7 = .ok (.aload_n 0, 1) := by decide +kernel
theorem d_T_indexOf_8 : decode b_T_indexOf 8 = .ok (.iload_n 3, 1) := by decide +kernel
theorem d_T_indexOf_9 : decode b_T_indexOf 9 = .ok (.iaload, 1) := by decide +kernel
theorem d_T_indexOf_10 : decode b_T_indexOf 10 = .ok (.iload_n 2, 1) := by decide +kernel
theorem d_T_indexOf_11 : decode b_T_indexOf 11 = .ok (.if_icmp .ne 5, 3) := by decide +kernel
theorem d_T_indexOf_14 : decode b_T_indexOf 14 = .ok (.iload_n 3, 1) := by decide +kernel
theorem d_T_indexOf_15 : decode b_T_indexOf 15 = .ok (.ireturn, 1) := by decide +kernel
theorem d_T_indexOf_16 : decode b_T_indexOf 16 = .ok (.iinc 3 1, 3) := by decide +kernel
theorem d_T_indexOf_19 : decode b_T_indexOf 19 = .ok (.goto (-17), 3) := by decide +kernel
theorem d_T_indexOf_22 : decode b_T_indexOf 22 = .ok (.iconst (-1), 1) := by decide +kernel
theorem d_T_indexOf_23 : decode b_T_indexOf 23 = .ok (.ireturn, 1) := by decide +kernel
theorem d_T_laySteps_0 : decode b_T_laySteps 0 = .ok (.iconst 0, 1) := by decide +kernel
theorem d_T_laySteps_1 : decode b_T_laySteps 1 = .ok (.istore_n 2, 1) := by decide +kernel
theorem d_T_laySteps_2 : decode b_T_laySteps 2 = .ok (.iload_n 2, 1) := by decide +kernel
theorem d_T_laySteps_3 : decode b_T_laySteps 3 = .ok (.aload_n 0, 1) := by decide +kernel
theorem d_T_laySteps_4 : decode b_T_laySteps 4 = .ok (.getfield 15, 3) := by decide +kernel
theorem d_T_laySteps_7 : decode b_T_laySteps 7 = .ok (.if_icmp .ge 71, 3) := by decide +kernel
theorem d_T_laySteps_10 : decode b_T_laySteps 10 = .ok (.iconst 0, 1) := by decide +kernel
theorem d_T_laySteps_11 : decode b_T_laySteps 11 = .ok (.istore_n 3, 1) := by decide +kernel
theorem d_T_laySteps_12 : decode b_T_laySteps 12 = .ok (.iload_n 3, 1) := by decide +kernel
theorem d_T_laySteps_13 : decode b_T_laySteps 13 = .ok (.aload_n 0, 1) := by decide +kernel
theorem d_T_laySteps_14 : decode b_T_laySteps 14 = .ok (.getfield 9, 3) := by decide +kernel
theorem d_T_laySteps_17 : decode b_T_laySteps 17 = .ok (.if_icmp .ge 55, 3) := by decide +kernel
theorem d_T_laySteps_20 : decode b_T_laySteps 20 = .ok (.aload_n 1, 1) := by decide +kernel
theorem d_T_laySteps_21 : decode b_T_laySteps 21 = .ok (.aload_n 0, 1) := by decide +kernel
theorem d_T_laySteps_22 : decode b_T_laySteps 22 = .ok (.getfield 24, 3) := by decide +kernel
theorem d_T_laySteps_25 : decode b_T_laySteps 25 = .ok (.iload_n 2, 1) := by decide +kernel
theorem d_T_laySteps_26 : decode b_T_laySteps 26 = .ok (.iaload, 1) := by decide +kernel
theorem d_T_laySteps_27 : decode b_T_laySteps 27 = .ok (.iload_n 3, 1) := by decide +kernel
theorem d_T_laySteps_28 : decode b_T_laySteps 28 = .ok (.invokevirtual 75, 3) := by decide +kernel
theorem d_T_laySteps_31 : decode b_T_laySteps 31 = .ok (.istore 4, 2) := by decide +kernel
theorem d_T_laySteps_33 : decode b_T_laySteps 33 = .ok (.aload_n 0, 1) := by decide +kernel
theorem d_T_laySteps_34 : decode b_T_laySteps 34 = .ok (.getfield 31, 3) := by decide +kernel
theorem d_T_laySteps_37 : decode b_T_laySteps 37 = .ok (.iload_n 2, 1) := by decide +kernel
theorem d_T_laySteps_38 : decode b_T_laySteps 38 = .ok (.bipush 40, 2) := by decide +kernel
theorem d_T_laySteps_40 : decode b_T_laySteps 40 = .ok (.imul, 1) := by decide +kernel
theorem d_T_laySteps_41 : decode b_T_laySteps 41 = .ok (.iload_n 3, 1) := by decide +kernel
theorem d_T_laySteps_42 : decode b_T_laySteps 42 = .ok (.iadd, 1) := by decide +kernel
theorem d_T_laySteps_43 : decode b_T_laySteps 43 = .ok (.iload 4, 2) := by decide +kernel
theorem d_T_laySteps_45 : decode b_T_laySteps 45 = .ok (.ifCond .ne 7, 3) := by decide +kernel
theorem d_T_laySteps_48 : decode b_T_laySteps 48 = .ok (.iconst (-1), 1) := by decide +kernel
theorem d_T_laySteps_49 : decode b_T_laySteps 49 = .ok (.goto 16, 3) := by decide +kernel
theorem d_T_laySteps_52 : decode b_T_laySteps 52 = .ok (.aload_n 0, 1) := by decide +kernel
theorem d_T_laySteps_53 : decode b_T_laySteps 53 = .ok (.getfield 24, 3) := by decide +kernel
theorem d_T_laySteps_56 : decode b_T_laySteps 56 = .ok (.aload_n 0, 1) := by decide +kernel
theorem d_T_laySteps_57 : decode b_T_laySteps 57 = .ok (.getfield 15, 3) := by decide +kernel
theorem d_T_laySteps_60 : decode b_T_laySteps 60 = .ok (.iload 4, 2) := by decide +kernel
theorem d_T_laySteps_62 : decode b_T_laySteps 62 = .ok (.invokestatic 79, 3) := by decide +kernel
theorem d_T_laySteps_65 : decode b_T_laySteps 65 = .ok (.iastore, 1) := by decide +kernel
theorem d_T_laySteps_66 : decode b_T_laySteps 66 = .ok (.iinc 3 1, 3) := by decide +kernel
theorem d_T_laySteps_69 : decode b_T_laySteps 69 = .ok (.goto (-57), 3) := by decide +kernel
theorem d_T_laySteps_72 : decode b_T_laySteps 72 = .ok (.iinc 2 1, 3) := by decide +kernel
theorem d_T_laySteps_75 : decode b_T_laySteps 75 = .ok (.goto (-73), 3) := by decide +kernel
theorem d_T_laySteps_78 : decode b_T_laySteps 78 = .ok (.return_, 1) := by decide +kernel
theorem d_T_partSets_0 : decode b_T_partSets 0 = .ok (.aload_n 0, 1) := by decide +kernel
theorem d_T_partSets_1 : decode b_T_partSets 1 = .ok (.getfield 34, 3) := by decide +kernel
theorem d_T_partSets_4 : decode b_T_partSets 4 = .ok (.iconst 0, 1) := by decide +kernel
theorem d_T_partSets_5 : decode b_T_partSets 5 = .ok (.aload_n 0, 1) := by decide +kernel
theorem d_T_partSets_6 : decode b_T_partSets 6 = .ok (.getfield 15, 3) := by decide +kernel
theorem d_T_partSets_9 : decode b_T_partSets 9 = .ok (.iconst 0, 1) := by decide +kernel
theorem d_T_partSets_10 : decode b_T_partSets 10 = .ok (.invokestatic 83, 3) := by decide +kernel
theorem d_T_partSets_13 : decode b_T_partSets 13 = .ok (.aload_n 0, 1) := by decide +kernel
theorem d_T_partSets_14 : decode b_T_partSets 14 = .ok (.iconst 0, 1) := by decide +kernel
theorem d_T_partSets_15 : decode b_T_partSets 15 = .ok (.putfield 21, 3) := by decide +kernel
theorem d_T_partSets_18 : decode b_T_partSets 18 = .ok (.iconst 1, 1) := by decide +kernel
theorem d_T_partSets_19 : decode b_T_partSets 19 = .ok (.istore_n 1, 1) := by decide +kernel
theorem d_T_partSets_20 : decode b_T_partSets 20 = .ok (.iload_n 1, 1) := by decide +kernel
theorem d_T_partSets_21 : decode b_T_partSets 21 = .ok (.aload_n 0, 1) := by decide +kernel
theorem d_T_partSets_22 : decode b_T_partSets 22 = .ok (.getfield 15, 3) := by decide +kernel
theorem d_T_partSets_25 : decode b_T_partSets 25 = .ok (.if_icmp .ge 23, 3) := by decide +kernel
theorem d_T_partSets_28 : decode b_T_partSets 28 = .ok (.aload_n 0, 1) := by decide +kernel
theorem d_T_partSets_29 : decode b_T_partSets 29 = .ok (.iload_n 1, 1) := by decide +kernel
theorem d_T_partSets_30 : decode b_T_partSets 30 = .ok (.invokevirtual 89, 3) := by decide +kernel
theorem d_T_partSets_33 : decode b_T_partSets 33 = .ok (.ifCond .ne 4, 3) := by decide +kernel
theorem d_T_partSets_36 : decode b_T_partSets 36 = .ok (.return_, 1) := by decide +kernel
theorem d_T_partSets_37 : decode b_T_partSets 37 = .ok (.aload_n 0, 1) := by decide +kernel
theorem d_T_partSets_38 : decode b_T_partSets 38 = .ok (.iload_n 1, 1) := by decide +kernel
theorem d_T_partSets_39 : decode b_T_partSets 39 = .ok (.putfield 21, 3) := by decide +kernel
theorem d_T_partSets_42 : decode b_T_partSets 42 = .ok (.iinc 1 1, 3) := by decide +kernel
theorem d_T_partSets_45 : decode b_T_partSets 45 = .ok (.goto (-25), 3) := by decide +kernel
theorem d_T_partSets_48 : decode b_T_partSets 48 = .ok (.return_, 1) := by decide +kernel
theorem d_A_fill4_0 : decode b_A_fill4 0 = .ok (.aload_n 0, 1) := by decide +kernel
theorem d_A_fill4_1 : decode b_A_fill4 1 = .ok (.arraylength, 1) := by decide +kernel
theorem d_A_fill4_2 : decode b_A_fill4 2 = .ok (.iload_n 1, 1) := by decide +kernel
theorem d_A_fill4_3 : decode b_A_fill4 3 = .ok (.iload_n 2, 1) := by decide +kernel
theorem d_A_fill4_4 : decode b_A_fill4 4 = .ok (.invokestatic 13, 3) := by decide +kernel
theorem d_A_fill4_7 : decode b_A_fill4 7 = .ok (.iload_n 1, 1) := by decide +kernel
theorem d_A_fill4_8 : decode b_A_fill4 8 = .ok (.istore 4, 2) := by decide +kernel
theorem d_A_fill4_10 : decode b_A_fill4 10 = .ok (.iload 4, 2) := by decide +kernel
theorem d_A_fill4_12 : decode b_A_fill4 12 = .ok (.iload_n 2, 1) := by decide +kernel
theorem d_A_fill4_13 : decode b_A_fill4 13 = .ok (.if_icmp .ge 14, 3) := by decide +kernel
theorem d_A_fill4_16 : decode b_A_fill4 16 = .ok (.aload_n 0, 1) := by decide +kernel
theorem d_A_fill4_17 : decode b_A_fill4 17 = .ok (.iload 4, 2) := by decide +kernel
theorem d_A_fill4_19 : decode b_A_fill4 19 = .ok (.iload_n 3, 1) := by decide +kernel
theorem d_A_fill4_20 : decode b_A_fill4 20 = .ok (.iastore, 1) := by decide +kernel
theorem d_A_fill4_21 : decode b_A_fill4 21 = .ok (.iinc 4 1, 3) := by decide +kernel
theorem d_A_fill4_24 : decode b_A_fill4 24 = .ok (.goto (-14), 3) := by decide +kernel
theorem d_A_fill4_27 : decode b_A_fill4 27 = .ok (.return_, 1) := by decide +kernel
theorem d_A_rangeCheck3_0 : decode b_A_rangeCheck3 0 = .ok (.iload_n 1, 1) := by decide +kernel
theorem d_A_rangeCheck3_1 : decode b_A_rangeCheck3 1 = .ok (.iload_n 2, 1) := by decide +kernel
theorem d_A_rangeCheck3_2 : decode b_A_rangeCheck3 2 = .ok (.if_icmp .le 44, 3) := by decide +kernel
theorem d_A_rangeCheck3_46 : decode b_A_rangeCheck3 46 = .ok (.iload_n 1, 1) := by decide +kernel
theorem d_A_rangeCheck3_47 : decode b_A_rangeCheck3 47 = .ok (.ifCond .ge 12, 3) := by decide +kernel
theorem d_A_rangeCheck3_59 : decode b_A_rangeCheck3 59 = .ok (.iload_n 2, 1) := by decide +kernel
theorem d_A_rangeCheck3_60 : decode b_A_rangeCheck3 60 = .ok (.iload_n 0, 1) := by decide +kernel
theorem d_A_rangeCheck3_61 : decode b_A_rangeCheck3 61 = .ok (.if_icmp .le 12, 3) := by decide +kernel
theorem d_A_rangeCheck3_73 : decode b_A_rangeCheck3 73 = .ok (.return_, 1) := by decide +kernel
theorem d_T_partOnce_0 : decode b_T_partOnce 0 = .ok (.aload_n 0, 1) := by decide +kernel
theorem d_T_partOnce_1 : decode b_T_partOnce 1 = .ok (.getfield 34, 3) := by decide +kernel
theorem d_T_partOnce_4 : decode b_T_partOnce 4 = .ok (.iconst 0, 1) := by decide +kernel
theorem d_T_partOnce_5 : decode b_T_partOnce 5 = .ok (.aload_n 0, 1) := by decide +kernel
theorem d_T_partOnce_6 : decode b_T_partOnce 6 = .ok (.getfield 37, 3) := by decide +kernel
theorem d_T_partOnce_9 : decode b_T_partOnce 9 = .ok (.iconst 0, 1) := by decide +kernel
theorem d_T_partOnce_10 : decode b_T_partOnce 10 = .ok (.aload_n 0, 1) := by decide +kernel
theorem d_T_partOnce_11 : decode b_T_partOnce 11 = .ok (.getfield 15, 3) := by decide +kernel
theorem d_T_partOnce_14 : decode b_T_partOnce 14 = .ok (.invokestatic 56, 3) := by decide +kernel
theorem d_T_partOnce_17 : decode b_T_partOnce 17 = .ok (.iconst 0, 1) := by decide +kernel
theorem d_T_partOnce_18 : decode b_T_partOnce 18 = .ok (.istore_n 2, 1) := by decide +kernel
theorem d_T_partOnce_19 : decode b_T_partOnce 19 = .ok (.iconst 0, 1) := by decide +kernel
theorem d_T_partOnce_20 : decode b_T_partOnce 20 = .ok (.istore_n 3, 1) := by decide +kernel
theorem d_T_partOnce_21 : decode b_T_partOnce 21 = .ok (.iload_n 3, 1) := by decide +kernel
theorem d_T_partOnce_22 : decode b_T_partOnce 22 = .ok (.aload_n 0, 1) := by decide +kernel
theorem d_T_partOnce_23 : decode b_T_partOnce 23 = .ok (.getfield 15, 3) := by decide +kernel
theorem d_T_partOnce_26 : decode b_T_partOnce 26 = .ok (.if_icmp .ge 48, 3) := by decide +kernel
theorem d_T_partOnce_29 : decode b_T_partOnce 29 = .ok (.aload_n 0, 1) := by decide +kernel
theorem d_T_partOnce_30 : decode b_T_partOnce 30 = .ok (.getfield 34, 3) := by decide +kernel
theorem d_T_partOnce_33 : decode b_T_partOnce 33 = .ok (.iload_n 3, 1) := by decide +kernel
theorem d_T_partOnce_34 : decode b_T_partOnce 34 = .ok (.aload_n 0, 1) := by decide +kernel
theorem d_T_partOnce_35 : decode b_T_partOnce 35 = .ok (.iload_n 3, 1) := by decide +kernel
theorem d_T_partOnce_36 : decode b_T_partOnce 36 = .ok (.invokevirtual 93, 3) := by decide +kernel
theorem d_T_partOnce_39 : decode b_T_partOnce 39 = .ok (.iastore, 1) := by decide +kernel
theorem d_T_partOnce_40 : decode b_T_partOnce 40 = .ok (.aload_n 0, 1) := by decide +kernel
theorem d_T_partOnce_41 : decode b_T_partOnce 41 = .ok (.getfield 34, 3) := by decide +kernel
theorem d_T_partOnce_44 : decode b_T_partOnce 44 = .ok (.iload_n 3, 1) := by decide +kernel
theorem d_T_partOnce_45 : decode b_T_partOnce 45 = .ok (.iaload, 1) := by decide +kernel
theorem d_T_partOnce_46 : decode b_T_partOnce 46 = .ok (.iload_n 3, 1) := by decide +kernel
theorem d_T_partOnce_47 : decode b_T_partOnce 47 = .ok (.if_icmp .ne 21, 3) := by decide +kernel
theorem d_T_partOnce_50 : decode b_T_partOnce 50 = .ok (.aload_n 0, 1) := by decide +kernel
theorem d_T_partOnce_51 : decode b_T_partOnce 51 = .ok (.getfield 37, 3) := by decide +kernel
theorem d_T_partOnce_54 : decode b_T_partOnce 54 = .ok (.iload_n 3, 1) := by decide +kernel
theorem d_T_partOnce_55 : decode b_T_partOnce 55 = .ok (.iaload, 1) := by decide +kernel
theorem d_T_partOnce_56 : decode b_T_partOnce 56 = .ok (.iload_n 3, 1) := by decide +kernel
theorem d_T_partOnce_57 : decode b_T_partOnce 57 = .ok (.if_icmp .eq 11, 3) := by decide +kernel
theorem d_T_partOnce_60 : decode b_T_partOnce 60 = .ok (.aload_n 0, 1) := by decide +kernel
theorem d_T_partOnce_61 : decode b_T_partOnce 61 = .ok (.iload_n 3, 1) := by decide +kernel
theorem d_T_partOnce_62 : decode b_T_partOnce 62 = .ok (.iload_n 1, 1) := by decide +kernel
theorem d_T_partOnce_63 : decode b_T_partOnce 63 = .ok (.invokevirtual 97, 3) := by decide +kernel
theorem d_T_partOnce_66 : decode b_T_partOnce 66 = .ok (.iconst 1, 1) := by decide +kernel
theorem d_T_partOnce_67 : decode b_T_partOnce 67 = .ok (.istore_n 2, 1) := by decide +kernel
theorem d_T_partOnce_68 : decode b_T_partOnce 68 = .ok (.iinc 3 1, 3) := by decide +kernel
theorem d_T_partOnce_71 : decode b_T_partOnce 71 = .ok (.goto (-50), 3) := by decide +kernel
theorem d_T_partOnce_74 : decode b_T_partOnce 74 = .ok (.iload_n 2, 1) := by decide +kernel
theorem d_T_partOnce_75 : decode b_T_partOnce 75 = .ok (.ireturn, 1) := by decide +kernel
theorem d_T_findLeader_0 : decode b_T_findLeader 0 = .ok (.aload_n 0, 1) := by decide +kernel
theorem d_T_findLeader_1 : decode b_T_findLeader 1 = .ok (.getfield 37, 3) := by decide +kernel
theorem d_T_findLeader_4 : decode b_T_findLeader 4 = .ok (.iload_n 1, 1) := by decide +kernel
theorem d_T_findLeader_5 : decode b_T_findLeader 5 = .ok (.iaload, 1) := by decide +kernel
theorem d_T_findLeader_6 : decode b_T_findLeader 6 = .ok (.istore_n 2, 1) := by decide +kernel
theorem d_T_findLeader_7 : decode b_T_findLeader 7 = .ok (.iload_n 2, 1) := by decide +kernel
theorem d_T_findLeader_8 : decode b_T_findLeader 8 = .ok (.istore_n 3, 1) := by decide +kernel
theorem d_T_findLeader_9 : decode b_T_findLeader 9 = .ok (.iload_n 3, 1) := by decide +kernel
theorem d_T_findLeader_10 : decode b_T_findLeader 10 = .ok (.iload_n 1, 1) := by decide +kernel
theorem d_T_findLeader_11 : decode b_T_findLeader 11 = .ok (.if_icmp .ge 40, 3) := by decide +kernel
theorem d_T_findLeader_14 : decode b_T_findLeader 14 = .ok (.aload_n 0, 1) := by decide +kernel
theorem d_T_findLeader_15 : decode b_T_findLeader 15 = .ok (.getfield 34, 3) := by decide +kernel
theorem d_T_findLeader_18 : decode b_T_findLeader 18 = .ok (.iload_n 3, 1) := by decide +kernel
theorem d_T_findLeader_19 : decode b_T_findLeader 19 = .ok (.iaload, 1) := by decide +kernel
theorem d_T_findLeader_20 : decode b_T_findLeader 20 = .ok (.iload_n 3, 1) := by decide +kernel
theorem d_T_findLeader_21 : decode b_T_findLeader 21 = .ok (.if_icmp .ne 24, 3) := by decide +kernel
theorem d_T_findLeader_24 : decode b_T_findLeader 24 = .ok (.aload_n 0, 1) := by decide +kernel
theorem d_T_findLeader_25 : decode b_T_findLeader 25 = .ok (.getfield 37, 3) := by decide +kernel
theorem d_T_findLeader_28 : decode b_T_findLeader 28 = .ok (.iload_n 3, 1) := by decide +kernel
theorem d_T_findLeader_29 : decode b_T_findLeader 29 = .ok (.iaload, 1) := by decide +kernel
theorem d_T_findLeader_30 : decode b_T_findLeader 30 = .ok (.iload_n 2, 1) := by decide +kernel
theorem d_T_findLeader_31 : decode b_T_findLeader 31 = .ok (.if_icmp .ne 14, 3) := by decide +kernel
theorem d_T_findLeader_34 : decode b_T_findLeader 34 = .ok (.aload_n 0, 1) := by decide +kernel
theorem d_T_findLeader_35 : decode b_T_findLeader 35 = .ok (.iload_n 3, 1) := by decide +kernel
theorem d_T_findLeader_36 : decode b_T_findLeader 36 = .ok (.iload_n 1, 1) := by decide +kernel
theorem d_T_findLeader_37 : decode b_T_findLeader 37 = .ok (.invokevirtual 101, 3) := by decide +kernel
theorem d_T_findLeader_40 : decode b_T_findLeader 40 = .ok (.ifCond .eq 5, 3) := by decide +kernel
theorem d_T_findLeader_43 : decode b_T_findLeader 43 = .ok (.iload_n 3, 1) := by decide +kernel
theorem d_T_findLeader_44 : decode b_T_findLeader 44 = .ok (.ireturn, 1) := by decide +kernel
theorem d_T_findLeader_45 : decode b_T_findLeader 45 = .ok (.iinc 3 1, 3) := by decide +kernel
theorem d_T_findLeader_48 : decode b_T_findLeader 48 = .ok (.goto (-39), 3) := by decide +kernel
theorem d_T_findLeader_51 : decode b_T_findLeader 51 = .ok (.iload_n 1, 1) := by decide +kernel
theorem d_T_findLeader_52 : decode b_T_findLeader 52 = .ok (.ireturn, 1) := by decide +kernel
theorem d_T_goAlike_0 : decode b_T_goAlike 0 = .ok (.iconst 0, 1) := by decide +kernel
theorem d_T_goAlike_1 : decode b_T_goAlike 1 = .ok (.istore_n 3, 1) := by decide +kernel
theorem d_T_goAlike_2 : decode b_T_goAlike 2 = .ok (.iload_n 3, 1) := by decide +kernel
theorem d_T_goAlike_3 : decode b_T_goAlike 3 = .ok (.aload_n 0, 1) := by decide +kernel
theorem d_T_goAlike_4 : decode b_T_goAlike 4 = .ok (.getfield 9, 3) := by decide +kernel
theorem d_T_goAlike_7 : decode b_T_goAlike 7 = .ok (.if_icmp .ge 34, 3) := by decide +kernel
theorem d_T_goAlike_10 : decode b_T_goAlike 10 = .ok (.aload_n 0, 1) := by decide +kernel
theorem d_T_goAlike_11 : decode b_T_goAlike 11 = .ok (.aload_n 0, 1) := by decide +kernel
theorem d_T_goAlike_12 : decode b_T_goAlike 12 = .ok (.getfield 37, 3) := by decide +kernel
theorem d_T_goAlike_15 : decode b_T_goAlike 15 = .ok (.iload_n 1, 1) := by decide +kernel
theorem d_T_goAlike_16 : decode b_T_goAlike 16 = .ok (.iload_n 3, 1) := by decide +kernel
theorem d_T_goAlike_17 : decode b_T_goAlike 17 = .ok (.invokevirtual 105, 3) := by decide +kernel
theorem d_T_goAlike_20 : decode b_T_goAlike 20 = .ok (.aload_n 0, 1) := by decide +kernel
theorem d_T_goAlike_21 : decode b_T_goAlike 21 = .ok (.aload_n 0, 1) := by decide +kernel
theorem d_T_goAlike_22 : decode b_T_goAlike 22 = .ok (.getfield 37, 3) := by decide +kernel
theorem d_T_goAlike_25 : decode b_T_goAlike 25 = .ok (.iload_n 2, 1) := by decide +kernel
theorem d_T_goAlike_26 : decode b_T_goAlike 26 = .ok (.iload_n 3, 1) := by decide +kernel
theorem d_T_goAlike_27 : decode b_T_goAlike 27 = .ok (.invokevirtual 105, 3) := by decide +kernel
theorem d_T_goAlike_30 : decode b_T_goAlike 30 = .ok (.if_icmp .eq 5, 3) := by decide +kernel
theorem d_T_goAlike_33 : decode b_T_goAlike 33 = .ok (.iconst 0, 1) := by decide +kernel
theorem d_T_goAlike_34 : decode b_T_goAlike 34 = .ok (.ireturn, 1) := by decide +kernel
theorem d_T_goAlike_35 : decode b_T_goAlike 35 = .ok (.iinc 3 1, 3) := by decide +kernel
theorem d_T_goAlike_38 : decode b_T_goAlike 38 = .ok (.goto (-36), 3) := by decide +kernel
theorem d_T_goAlike_41 : decode b_T_goAlike 41 = .ok (.iconst 1, 1) := by decide +kernel
theorem d_T_goAlike_42 : decode b_T_goAlike 42 = .ok (.ireturn, 1) := by decide +kernel
theorem d_T_leaderAfter_0 : decode b_T_leaderAfter 0 = .ok (.aload_n 0, 1) := by decide +kernel
theorem d_T_leaderAfter_1 : decode b_T_leaderAfter 1 = .ok (.getfield 31, 3) := by decide +kernel
theorem d_T_leaderAfter_4 : decode b_T_leaderAfter 4 = .ok (.iload_n 2, 1) := by decide +kernel
theorem d_T_leaderAfter_5 : decode b_T_leaderAfter 5 = .ok (.bipush 40, 2) := by decide +kernel
theorem d_T_leaderAfter_7 : decode b_T_leaderAfter 7 = .ok (.imul, 1) := by decide +kernel
theorem d_T_leaderAfter_8 : decode b_T_leaderAfter 8 = .ok (.iload_n 3, 1) := by decide +kernel
theorem d_T_leaderAfter_9 : decode b_T_leaderAfter 9 = .ok (.iadd, 1) := by decide +kernel
theorem d_T_leaderAfter_10 : decode b_T_leaderAfter 10 = .ok (.iaload, 1) := by decide +kernel
theorem d_T_leaderAfter_11 : decode b_T_leaderAfter 11 = .ok (.istore 4, 2) := by decide +kernel
theorem d_T_leaderAfter_13 : decode b_T_leaderAfter 13 = .ok (.iload 4, 2) := by decide +kernel
theorem d_T_leaderAfter_15 : decode b_T_leaderAfter 15 = .ok (.iconst (-1), 1) := by decide +kernel
theorem d_T_leaderAfter_16 : decode b_T_leaderAfter 16 = .ok (.if_icmp .ne 7, 3) := by decide +kernel
theorem d_T_leaderAfter_19 : decode b_T_leaderAfter 19 = .ok (.iconst (-1), 1) := by decide +kernel
theorem d_T_leaderAfter_20 : decode b_T_leaderAfter 20 = .ok (.goto 7, 3) := by decide +kernel
theorem d_T_leaderAfter_23 : decode b_T_leaderAfter 23 = .ok (.aload_n 1, 1) := by decide +kernel
theorem d_T_leaderAfter_24 : decode b_T_leaderAfter 24 = .ok (.iload 4, 2) := by decide +kernel
theorem d_T_leaderAfter_26 : decode b_T_leaderAfter 26 = .ok (.iaload, 1) := by decide +kernel
theorem d_T_leaderAfter_27 : decode b_T_leaderAfter 27 = .ok (.ireturn, 1) := by decide +kernel
theorem d_T_measure_0 : decode b_T_measure 0 = .ok (.aload_n 0, 1) := by decide +kernel
theorem d_T_measure_1 : decode b_T_measure 1 = .ok (.getfield 37, 3) := by decide +kernel
theorem d_T_measure_4 : decode b_T_measure 4 = .ok (.iload_n 1, 1) := by decide +kernel
theorem d_T_measure_5 : decode b_T_measure 5 = .ok (.iaload, 1) := by decide +kernel
theorem d_T_measure_6 : decode b_T_measure 6 = .ok (.istore_n 3, 1) := by decide +kernel
theorem d_T_measure_7 : decode b_T_measure 7 = .ok (.iconst 0, 1) := by decide +kernel
theorem d_T_measure_8 : decode b_T_measure 8 = .ok (.istore 4, 2) := by decide +kernel
theorem d_T_measure_10 : decode b_T_measure 10 = .ok (.iload 4, 2) := by decide +kernel
theorem d_T_measure_12 : decode b_T_measure 12 = .ok (.aload_n 0, 1) := by decide +kernel
theorem d_T_measure_13 : decode b_T_measure 13 = .ok (.getfield 15, 3) := by decide +kernel
theorem d_T_measure_16 : decode b_T_measure 16 = .ok (.if_icmp .ge 59, 3) := by decide +kernel
theorem d_T_measure_19 : decode b_T_measure 19 = .ok (.aload_n 0, 1) := by decide +kernel
theorem d_T_measure_20 : decode b_T_measure 20 = .ok (.getfield 34, 3) := by decide +kernel
theorem d_T_measure_23 : decode b_T_measure 23 = .ok (.iload 4, 2) := by decide +kernel
theorem d_T_measure_25 : decode b_T_measure 25 = .ok (.iaload, 1) := by decide +kernel
theorem d_T_measure_26 : decode b_T_measure 26 = .ok (.iload 4, 2) := by decide +kernel
theorem d_T_measure_28 : decode b_T_measure 28 = .ok (.if_icmp .ne 41, 3) := by decide +kernel
theorem d_T_measure_31 : decode b_T_measure 31 = .ok (.iload 4, 2) := by decide +kernel
theorem d_T_measure_33 : decode b_T_measure 33 = .ok (.iload_n 1, 1) := by decide +kernel
theorem d_T_measure_34 : decode b_T_measure 34 = .ok (.if_icmp .eq 35, 3) := by decide +kernel
theorem d_T_measure_37 : decode b_T_measure 37 = .ok (.aload_n 0, 1) := by decide +kernel
theorem d_T_measure_38 : decode b_T_measure 38 = .ok (.getfield 46, 3) := by decide +kernel
theorem d_T_measure_41 : decode b_T_measure 41 = .ok (.iload 4, 2) := by decide +kernel
theorem d_T_measure_43 : decode b_T_measure 43 = .ok (.iload_n 1, 1) := by decide +kernel
theorem d_T_measure_44 : decode b_T_measure 44 = .ok (.invokestatic 108, 3) := by decide +kernel
theorem d_T_measure_47 : decode b_T_measure 47 = .ok (.iload 4, 2) := by decide +kernel
theorem d_T_measure_49 : decode b_T_measure 49 = .ok (.iload_n 3, 1) := by decide +kernel
theorem d_T_measure_50 : decode b_T_measure 50 = .ok (.if_icmp .ne 7, 3) := by decide +kernel
theorem d_T_measure_53 : decode b_T_measure 53 = .ok (.iload_n 2, 1) := by decide +kernel
theorem d_T_measure_54 : decode b_T_measure 54 = .ok (.goto 14, 3) := by decide +kernel
theorem d_T_measure_57 : decode b_T_measure 57 = .ok (.aload_n 0, 1) := by decide +kernel
theorem d_T_measure_58 : decode b_T_measure 58 = .ok (.getfield 46, 3) := by decide +kernel
theorem d_T_measure_61 : decode b_T_measure 61 = .ok (.iload 4, 2) := by decide +kernel
theorem d_T_measure_63 : decode b_T_measure 63 = .ok (.iload_n 3, 1) := by decide +kernel
theorem d_T_measure_64 : decode b_T_measure 64 = .ok (.invokestatic 108, 3) := by decide +kernel
theorem d_T_measure_67 : decode b_T_measure 67 = .ok (.iaload, 1) := by decide +kernel
theorem d_T_measure_68 : decode b_T_measure 68 = .ok (.iastore, 1) := by decide +kernel
theorem d_T_measure_69 : decode b_T_measure 69 = .ok (.iinc 4 1, 3) := by decide +kernel
theorem d_T_measure_72 : decode b_T_measure 72 = .ok (.goto (-62), 3) := by decide +kernel
theorem d_T_measure_75 : decode b_T_measure 75 = .ok (.return_, 1) := by decide +kernel
theorem d_T_pair_0 : decode b_T_pair 0 = .ok (.iload_n 0, 1) := by decide +kernel
theorem d_T_pair_1 : decode b_T_pair 1 = .ok (.iload_n 1, 1) := by decide +kernel
theorem d_T_pair_2 : decode b_T_pair 2 = .ok (.invokestatic 111, 3) := by decide +kernel
theorem d_T_pair_5 : decode b_T_pair 5 = .ok (.istore_n 2, 1) := by decide +kernel
theorem d_T_pair_6 : decode b_T_pair 6 = .ok (.iload_n 2, 1) := by decide +kernel
theorem d_T_pair_7 : decode b_T_pair 7 = .ok (.iload_n 2, 1) := by decide +kernel
theorem d_T_pair_8 : decode b_T_pair 8 = .ok (.iconst 1, 1) := by decide +kernel
theorem d_T_pair_9 : decode b_T_pair 9 = .ok (.isub, 1) := by decide +kernel
theorem d_T_pair_10 : decode b_T_pair 10 = .ok (.imul, 1) := by decide +kernel
theorem d_T_pair_11 : decode b_T_pair 11 = .ok (.iconst 2, 1) := by decide +kernel
theorem d_T_pair_12 : decode b_T_pair 12 = .ok (.idiv, 1) := by decide +kernel
theorem d_T_pair_13 : decode b_T_pair 13 = .ok (.iload_n 0, 1) := by decide +kernel
theorem d_T_pair_14 : decode b_T_pair 14 = .ok (.iload_n 1, 1) := by decide +kernel
theorem d_T_pair_15 : decode b_T_pair 15 = .ok (.invokestatic 116, 3) := by decide +kernel
theorem d_T_pair_18 : decode b_T_pair 18 = .ok (.iadd, 1) := by decide +kernel
theorem d_T_pair_19 : decode b_T_pair 19 = .ok (.ireturn, 1) := by decide +kernel
theorem d_T_numberStates_0 : decode b_T_numberStates 0 = .ok (.aload_n 0, 1) := by decide +kernel
theorem d_T_numberStates_1 : decode b_T_numberStates 1 = .ok (.getfield 40, 3) := by decide +kernel
theorem d_T_numberStates_4 : decode b_T_numberStates 4 = .ok (.iconst 0, 1) := by decide +kernel
theorem d_T_numberStates_5 : decode b_T_numberStates 5 = .ok (.aload_n 0, 1) := by decide +kernel
theorem d_T_numberStates_6 : decode b_T_numberStates 6 = .ok (.getfield 15, 3) := by decide +kernel
theorem d_T_numberStates_9 : decode b_T_numberStates 9 = .ok (.iconst (-1), 1) := by decide +kernel
theorem d_T_numberStates_10 : decode b_T_numberStates 10 = .ok (.invokestatic 83, 3) := by decide +kernel
theorem d_T_numberStates_13 : decode b_T_numberStates 13 = .ok (.aload_n 0, 1) := by decide +kernel
theorem d_T_numberStates_14 : decode b_T_numberStates 14 = .ok (.iconst 0, 1) := by decide +kernel
theorem d_T_numberStates_15 : decode b_T_numberStates 15 = .ok (.putfield 18, 3) := by decide +kernel
theorem d_T_numberStates_18 : decode b_T_numberStates 18 = .ok (.aload_n 0, 1) := by decide +kernel
theorem d_T_numberStates_19 : decode b_T_numberStates 19 = .ok (.iconst 0, 1) := by decide +kernel
theorem d_T_numberStates_20 : decode b_T_numberStates 20 = .ok (.invokevirtual 119, 3) := by decide +kernel
theorem d_T_numberStates_23 : decode b_T_numberStates 23 = .ok (.iconst 0, 1) := by decide +kernel
theorem d_T_numberStates_24 : decode b_T_numberStates 24 = .ok (.istore_n 1, 1) := by decide +kernel
theorem d_T_numberStates_25 : decode b_T_numberStates 25 = .ok (.iload_n 1, 1) := by decide +kernel
theorem d_T_numberStates_26 : decode b_T_numberStates 26 = .ok (.aload_n 0, 1) := by decide +kernel
theorem d_T_numberStates_27 : decode b_T_numberStates 27 = .ok (.getfield 18, 3) := by decide +kernel
theorem d_T_numberStates_30 : decode b_T_numberStates 30 = .ok (.if_icmp .ge 61, 3) := by decide +kernel
theorem d_T_numberStates_33 : decode b_T_numberStates 33 = .ok (.iconst 0, 1) := by decide +kernel
theorem d_T_numberStates_34 : decode b_T_numberStates 34 = .ok (.istore_n 2, 1) := by decide +kernel
theorem d_T_numberStates_35 : decode b_T_numberStates 35 = .ok (.iload_n 2, 1) := by decide +kernel
theorem d_T_numberStates_36 : decode b_T_numberStates 36 = .ok (.aload_n 0, 1) := by decide +kernel
theorem d_T_numberStates_37 : decode b_T_numberStates 37 = .ok (.getfield 9, 3) := by decide +kernel
theorem d_T_numberStates_40 : decode b_T_numberStates 40 = .ok (.if_icmp .ge 45, 3) := by decide +kernel
theorem d_T_numberStates_43 : decode b_T_numberStates 43 = .ok (.aload_n 0, 1) := by decide +kernel
theorem d_T_numberStates_44 : decode b_T_numberStates 44 = .ok (.aload_n 0, 1) := by decide +kernel
theorem d_T_numberStates_45 : decode b_T_numberStates 45 = .ok (.getfield 34, 3) := by decide +kernel
theorem d_T_numberStates_48 : decode b_T_numberStates 48 = .ok (.aload_n 0, 1) := by decide +kernel
theorem d_T_numberStates_49 : decode b_T_numberStates 49 = .ok (.getfield 43, 3) := by decide +kernel
theorem d_T_numberStates_52 : decode b_T_numberStates 52 = .ok (.iload_n 1, 1) := by decide +kernel
theorem d_T_numberStates_53 : decode b_T_numberStates 53 = .ok (.iaload, 1) := by decide +kernel
theorem d_T_numberStates_54 : decode b_T_numberStates 54 = .ok (.iload_n 2, 1) := by decide +kernel
theorem d_T_numberStates_55 : decode b_T_numberStates 55 = .ok (.invokevirtual 105, 3) := by decide +kernel
theorem d_T_numberStates_58 : decode b_T_numberStates 58 = .ok (.istore_n 3, 1) := by decide +kernel
theorem d_T_numberStates_59 : decode b_T_numberStates 59 = .ok (.iload_n 3, 1) := by decide +kernel
theorem d_T_numberStates_60 : decode b_T_numberStates 60 = .ok (.iconst (-1), 1) := by decide +kernel
theorem d_T_numberStates_61 : decode b_T_numberStates 61 = .ok (.if_icmp .eq 18, 3) := by decide +kernel
theorem d_T_numberStates_64 : decode b_T_numberStates 64 = .ok (.aload_n 0, 1) := by decide +kernel
theorem d_T_numberStates_65 : decode b_T_numberStates 65 = .ok (.getfield 40, 3) := by decide +kernel
theorem d_T_numberStates_68 : decode b_T_numberStates 68 = .ok (.iload_n 3, 1) := by decide +kernel
theorem d_T_numberStates_69 : decode b_T_numberStates 69 = .ok (.iaload, 1) := by decide +kernel
theorem d_T_numberStates_70 : decode b_T_numberStates 70 = .ok (.iconst (-1), 1) := by decide +kernel
theorem d_T_numberStates_71 : decode b_T_numberStates 71 = .ok (.if_icmp .ne 8, 3) := by decide +kernel
theorem d_T_numberStates_74 : decode b_T_numberStates 74 = .ok (.aload_n 0, 1) := by decide +kernel
theorem d_T_numberStates_75 : decode b_T_numberStates 75 = .ok (.iload_n 3, 1) := by decide +kernel
theorem d_T_numberStates_76 : decode b_T_numberStates 76 = .ok (.invokevirtual 119, 3) := by decide +kernel
theorem d_T_numberStates_79 : decode b_T_numberStates 79 = .ok (.iinc 2 1, 3) := by decide +kernel
theorem d_T_numberStates_82 : decode b_T_numberStates 82 = .ok (.goto (-47), 3) := by decide +kernel
theorem d_T_numberStates_85 : decode b_T_numberStates 85 = .ok (.iinc 1 1, 3) := by decide +kernel
theorem d_T_numberStates_88 : decode b_T_numberStates 88 = .ok (.goto (-63), 3) := by decide +kernel
theorem d_T_numberStates_91 : decode b_T_numberStates 91 = .ok (.iconst 0, 1) := by decide +kernel
theorem d_T_numberStates_92 : decode b_T_numberStates 92 = .ok (.istore_n 1, 1) := by decide +kernel
theorem d_T_numberStates_93 : decode b_T_numberStates 93 = .ok (.iload_n 1, 1) := by decide +kernel
theorem d_T_numberStates_94 : decode b_T_numberStates 94 = .ok (.aload_n 0, 1) := by decide +kernel
theorem d_T_numberStates_95 : decode b_T_numberStates 95 = .ok (.getfield 15, 3) := by decide +kernel
theorem d_T_numberStates_98 : decode b_T_numberStates 98 = .ok (.if_icmp .ge 26, 3) := by decide +kernel
theorem d_T_numberStates_101 : decode b_T_numberStates 101 = .ok (.aload_n 0, 1) := by decide +kernel
theorem d_T_numberStates_102 : decode b_T_numberStates 102 = .ok (.getfield 40, 3) := by decide +kernel
theorem d_T_numberStates_105 : decode b_T_numberStates 105 = .ok (.iload_n 1, 1) := by decide +kernel
theorem d_T_numberStates_106 : decode b_T_numberStates 106 = .ok (.aload_n 0, 1) := by decide +kernel
theorem d_T_numberStates_107 : decode b_T_numberStates 107 = .ok (.getfield 40, 3) := by decide +kernel
theorem d_T_numberStates_110 : decode b_T_numberStates 110 = .ok (.aload_n 0, 1) := by decide +kernel
theorem d_T_numberStates_111 : decode b_T_numberStates 111 = .ok (.getfield 34, 3) := by decide +kernel
theorem d_T_numberStates_114 : decode b_T_numberStates 114 = .ok (.iload_n 1, 1) := by decide +kernel
theorem d_T_numberStates_115 : decode b_T_numberStates 115 = .ok (.iaload, 1) := by decide +kernel
theorem d_T_numberStates_116 : decode b_T_numberStates 116 = .ok (.iaload, 1) := by decide +kernel
theorem d_T_numberStates_117 : decode b_T_numberStates 117 = .ok (.iastore, 1) := by decide +kernel
theorem d_T_numberStates_118 : decode b_T_numberStates 118 = .ok (.iinc 1 1, 3) := by decide +kernel
theorem d_T_numberStates_121 : decode b_T_numberStates 121 = .ok (.goto (-28), 3) := by decide +kernel
theorem d_T_numberStates_124 : decode b_T_numberStates 124 = .ok (.return_, 1) := by decide +kernel
theorem d_T_numberState_0 : decode b_T_numberState 0 = .ok (.aload_n 0, 1) := by decide +kernel
theorem d_T_numberState_1 : decode b_T_numberState 1 = .ok (.getfield 40, 3) := by decide +kernel
theorem d_T_numberState_4 : decode b_T_numberState 4 = .ok (.iload_n 1, 1) := by decide +kernel
theorem d_T_numberState_5 : decode b_T_numberState 5 = .ok (.aload_n 0, 1) := by decide +kernel
theorem d_T_numberState_6 : decode b_T_numberState 6 = .ok (.getfield 18, 3) := by decide +kernel
theorem d_T_numberState_9 : decode b_T_numberState 9 = .ok (.iastore, 1) := by decide +kernel
theorem d_T_numberState_10 : decode b_T_numberState 10 = .ok (.aload_n 0, 1) := by decide +kernel
theorem d_T_numberState_11 : decode b_T_numberState 11 = .ok (.getfield 43, 3) := by decide +kernel
theorem d_T_numberState_14 : decode b_T_numberState 14 = .ok (.aload_n 0, 1) := by decide +kernel
theorem d_T_numberState_15 : decode b_T_numberState 15 = .ok (.getfield 18, 3) := by decide +kernel
theorem d_T_numberState_18 : decode b_T_numberState 18 = .ok (.iload_n 1, 1) := by decide +kernel
theorem d_T_numberState_19 : decode b_T_numberState 19 = .ok (.iastore, 1) := by decide +kernel
theorem d_T_numberState_20 : decode b_T_numberState 20 = .ok (.aload_n 0, 1) := by decide +kernel
theorem d_T_numberState_21 : decode b_T_numberState 21 = .ok (.dup, 1) := by decide +kernel
theorem d_T_numberState_22 : decode b_T_numberState 22 = .ok (.getfield 18, 3) := by decide +kernel
theorem d_T_numberState_25 : decode b_T_numberState 25 = .ok (.iconst 1, 1) := by decide +kernel
theorem d_T_numberState_26 : decode b_T_numberState 26 = .ok (.iadd, 1) := by decide +kernel
theorem d_T_numberState_27 : decode b_T_numberState 27 = .ok (.putfield 18, 3) := by decide +kernel
theorem d_T_numberState_30 : decode b_T_numberState 30 = .ok (.return_, 1) := by decide +kernel
theorem d_M_make_0 : decode b_M_make 0 = .ok (.aload_n 0, 1) := by decide +kernel
theorem d_M_make_1 : decode b_M_make 1 = .ok (.iconst 0, 1) := by decide +kernel
theorem d_M_make_2 : decode b_M_make 2 = .ok (.putfield 48, 3) := by decide +kernel
theorem d_M_make_5 : decode b_M_make 5 = .ok (.aload_n 0, 1) := by decide +kernel
theorem d_M_make_6 : decode b_M_make 6 = .ok (.invokevirtual 79, 3) := by decide +kernel
theorem d_M_make_9 : decode b_M_make 9 = .ok (.istore_n 1, 1) := by decide +kernel
theorem d_M_make_10 : decode b_M_make 10 = .ok (.iload_n 1, 1) := by decide +kernel
theorem d_M_make_11 : decode b_M_make 11 = .ok (.ifCond .ge 5, 3) := by decide +kernel
theorem d_M_make_14 : decode b_M_make 14 = .ok (.iconst (-1), 1) := by decide +kernel
theorem d_M_make_15 : decode b_M_make 15 = .ok (.ireturn, 1) := by decide +kernel
theorem d_M_make_16 : decode b_M_make 16 = .ok (.aload_n 0, 1) := by decide +kernel
theorem d_M_make_17 : decode b_M_make 17 = .ok (.iload_n 1, 1) := by decide +kernel
theorem d_M_make_18 : decode b_M_make 18 = .ok (.putfield 73, 3) := by decide +kernel
theorem d_M_make_21 : decode b_M_make 21 = .ok (.aload_n 0, 1) := by decide +kernel
theorem d_M_make_22 : decode b_M_make 22 = .ok (.aload_n 0, 1) := by decide +kernel
theorem d_M_make_23 : decode b_M_make 23 = .ok (.getfield 13, 3) := by decide +kernel
theorem d_M_make_26 : decode b_M_make 26 = .ok (.putfield 76, 3) := by decide +kernel
theorem d_M_make_29 : decode b_M_make 29 = .ok (.iconst 0, 1) := by decide +kernel
theorem d_M_make_30 : decode b_M_make 30 = .ok (.istore_n 2, 1) := by decide +kernel
theorem d_M_make_31 : decode b_M_make 31 = .ok (.iload_n 2, 1) := by decide +kernel
theorem d_M_make_32 : decode b_M_make 32 = .ok (.iload_n 1, 1) := by decide +kernel
theorem d_M_make_33 : decode b_M_make 33 = .ok (.if_icmp .ge 59, 3) := by decide +kernel
theorem d_M_make_36 : decode b_M_make 36 = .ok (.aload_n 0, 1) := by decide +kernel
theorem d_M_make_37 : decode b_M_make 37 = .ok (.getfield 20, 3) := by decide +kernel
theorem d_M_make_40 : decode b_M_make 40 = .ok (.iload_n 2, 1) := by decide +kernel
theorem d_M_make_41 : decode b_M_make 41 = .ok (.aload_n 0, 1) := by decide +kernel
theorem d_M_make_42 : decode b_M_make 42 = .ok (.getfield 38, 3) := by decide +kernel
theorem d_M_make_45 : decode b_M_make 45 = .ok (.iload_n 2, 1) := by decide +kernel
theorem d_M_make_46 : decode b_M_make 46 = .ok (.iaload, 1) := by decide +kernel
theorem d_M_make_47 : decode b_M_make 47 = .ok (.iastore, 1) := by decide +kernel
theorem d_M_make_48 : decode b_M_make 48 = .ok (.iconst 0, 1) := by decide +kernel
theorem d_M_make_49 : decode b_M_make 49 = .ok (.istore_n 3, 1) := by decide +kernel
theorem d_M_make_50 : decode b_M_make 50 = .ok (.iload_n 3, 1) := by decide +kernel
theorem d_M_make_51 : decode b_M_make 51 = .ok (.aload_n 0, 1) := by decide +kernel
theorem d_M_make_52 : decode b_M_make 52 = .ok (.getfield 13, 3) := by decide +kernel
theorem d_M_make_55 : decode b_M_make 55 = .ok (.if_icmp .ge 31, 3) := by decide +kernel
theorem d_M_make_58 : decode b_M_make 58 = .ok (.aload_n 0, 1) := by decide +kernel
theorem d_M_make_59 : decode b_M_make 59 = .ok (.getfield 23, 3) := by decide +kernel
theorem d_M_make_62 : decode b_M_make 62 = .ok (.bipush 40, 2) := by decide +kernel
theorem d_M_make_64 : decode b_M_make 64 = .ok (.iload_n 2, 1) := by decide +kernel
theorem d_M_make_65 : decode b_M_make 65 = .ok (.imul, 1) := by decide +kernel
theorem d_M_make_66 : decode b_M_make 66 = .ok (.iload_n 3, 1) := by decide +kernel
theorem d_M_make_67 : decode b_M_make 67 = .ok (.iadd, 1) := by decide +kernel
theorem d_M_make_68 : decode b_M_make 68 = .ok (.aload_n 0, 1) := by decide +kernel
theorem d_M_make_69 : decode b_M_make 69 = .ok (.getfield 41, 3) := by decide +kernel
theorem d_M_make_72 : decode b_M_make 72 = .ok (.bipush 40, 2) := by decide +kernel
theorem d_M_make_74 : decode b_M_make 74 = .ok (.iload_n 2, 1) := by decide +kernel
theorem d_M_make_75 : decode b_M_make 75 = .ok (.imul, 1) := by decide +kernel
theorem d_M_make_76 : decode b_M_make 76 = .ok (.iload_n 3, 1) := by decide +kernel
theorem d_M_make_77 : decode b_M_make 77 = .ok (.iadd, 1) := by decide +kernel
theorem d_M_make_78 : decode b_M_make 78 = .ok (.iaload, 1) := by decide +kernel
theorem d_M_make_79 : decode b_M_make 79 = .ok (.iastore, 1) := by decide +kernel
theorem d_M_make_80 : decode b_M_make 80 = .ok (.iinc 3 1, 3) := by decide +kernel
theorem d_M_make_83 : decode b_M_make 83 = .ok (.goto (-33), 3) := by decide +kernel
theorem d_M_make_86 : decode b_M_make 86 = .ok (.iinc 2 1, 3) := by decide +kernel
theorem d_M_make_89 : decode b_M_make 89 = .ok (.goto (-58), 3) := by decide +kernel
theorem d_M_make_92 : decode b_M_make 92 = .ok (.iconst 0, 1) := by decide +kernel
theorem d_M_make_93 : decode b_M_make 93 = .ok (.istore_n 2, 1) := by decide +kernel
theorem d_M_make_94 : decode b_M_make 94 = .ok (.iload_n 2, 1) := by decide +kernel
theorem d_M_make_95 : decode b_M_make 95 = .ok (.sipush 14400, 3) := by decide +kernel
theorem d_M_make_98 : decode b_M_make 98 = .ok (.if_icmp .ge 16, 3) := by decide +kernel
theorem d_M_make_101 : decode b_M_make 101 = .ok (.aload_n 0, 1) := by decide +kernel
theorem d_M_make_102 : decode b_M_make 102 = .ok (.getfield 26, 3) := by decide +kernel
theorem d_M_make_105 : decode b_M_make 105 = .ok (.iload_n 2, 1) := by decide +kernel
theorem d_M_make_106 : decode b_M_make 106 = .ok (.iconst 0, 1) := by decide +kernel
theorem d_M_make_107 : decode b_M_make 107 = .ok (.iastore, 1) := by decide +kernel
theorem d_M_make_108 : decode b_M_make 108 = .ok (.iinc 2 1, 3) := by decide +kernel
theorem d_M_make_111 : decode b_M_make 111 = .ok (.goto (-17), 3) := by decide +kernel
theorem d_M_make_114 : decode b_M_make 114 = .ok (.iconst 1, 1) := by decide +kernel
theorem d_M_make_115 : decode b_M_make 115 = .ok (.istore_n 2, 1) := by decide +kernel
theorem d_M_make_116 : decode b_M_make 116 = .ok (.aload_n 0, 1) := by decide +kernel
theorem d_M_make_117 : decode b_M_make 117 = .ok (.iload_n 2, 1) := by decide +kernel
theorem d_M_make_118 : decode b_M_make 118 = .ok (.invokevirtual 82, 3) := by decide +kernel
theorem d_M_make_121 : decode b_M_make 121 = .ok (.ifCond .eq 9, 3) := by decide +kernel
theorem d_M_make_124 : decode b_M_make 124 = .ok (.iinc 2 1, 3) := by decide +kernel
theorem d_M_make_127 : decode b_M_make 127 = .ok (.goto (-11), 3) := by decide +kernel
theorem d_M_make_130 : decode b_M_make 130 = .ok (.iconst 0, 1) := by decide +kernel
theorem d_M_make_131 : decode b_M_make 131 = .ok (.istore_n 3, 1) := by decide +kernel
theorem d_M_make_132 : decode b_M_make 132 = .ok (.iload_n 3, 1) := by decide +kernel
theorem d_M_make_133 : decode b_M_make 133 = .ok (.iload_n 1, 1) := by decide +kernel
theorem d_M_make_134 : decode b_M_make 134 = .ok (.if_icmp .ge 16, 3) := by decide +kernel
theorem d_M_make_137 : decode b_M_make 137 = .ok (.aload_n 0, 1) := by decide +kernel
theorem d_M_make_138 : decode b_M_make 138 = .ok (.getfield 32, 3) := by decide +kernel
theorem d_M_make_141 : decode b_M_make 141 = .ok (.iload_n 3, 1) := by decide +kernel
theorem d_M_make_142 : decode b_M_make 142 = .ok (.iconst (-1), 1) := by decide +kernel
theorem d_M_make_143 : decode b_M_make 143 = .ok (.iastore, 1) := by decide +kernel
theorem d_M_make_144 : decode b_M_make 144 = .ok (.iinc 3 1, 3) := by decide +kernel
theorem d_M_make_147 : decode b_M_make 147 = .ok (.goto (-15), 3) := by decide +kernel
theorem d_M_make_150 : decode b_M_make 150 = .ok (.aload_n 0, 1) := by decide +kernel
theorem d_M_make_151 : decode b_M_make 151 = .ok (.getfield 32, 3) := by decide +kernel
theorem d_M_make_154 : decode b_M_make 154 = .ok (.iconst 0, 1) := by decide +kernel
theorem d_M_make_155 : decode b_M_make 155 = .ok (.iconst 0, 1) := by decide +kernel
theorem d_M_make_156 : decode b_M_make 156 = .ok (.iastore, 1) := by decide +kernel
theorem d_M_make_157 : decode b_M_make 157 = .ok (.aload_n 0, 1) := by decide +kernel
theorem d_M_make_158 : decode b_M_make 158 = .ok (.getfield 35, 3) := by decide +kernel
theorem d_M_make_161 : decode b_M_make 161 = .ok (.iconst 0, 1) := by decide +kernel
theorem d_M_make_162 : decode b_M_make 162 = .ok (.iconst 0, 1) := by decide +kernel
theorem d_M_make_163 : decode b_M_make 163 = .ok (.iastore, 1) := by decide +kernel
theorem d_M_make_164 : decode b_M_make 164 = .ok (.aload_n 0, 1) := by decide +kernel
theorem d_M_make_165 : decode b_M_make 165 = .ok (.iconst 1, 1) := by decide +kernel
theorem d_M_make_166 : decode b_M_make 166 = .ok (.putfield 85, 3) := by decide +kernel
theorem d_M_make_169 : decode b_M_make 169 = .ok (.iconst 0, 1) := by decide +kernel
theorem d_M_make_170 : decode b_M_make 170 = .ok (.istore_n 3, 1) := by decide +kernel
theorem d_M_make_171 : decode b_M_make 171 = .ok (.iload_n 3, 1) := by decide +kernel
theorem d_M_make_172 : decode b_M_make 172 = .ok (.aload_n 0, 1) := by decide +kernel
theorem d_M_make_173 : decode b_M_make 173 = .ok (.getfield 85, 3) := by decide +kernel
theorem d_M_make_176 : decode b_M_make 176 = .ok (.if_icmp .ge 110, 3) := by decide +kernel
theorem d_M_make_179 : decode b_M_make 179 = .ok (.iconst 0, 1) := by decide +kernel
theorem d_M_make_180 : decode b_M_make 180 = .ok (.istore 4, 2) := by decide +kernel
theorem d_M_make_182 : decode b_M_make 182 = .ok (.iload 4, 2) := by decide +kernel
theorem d_M_make_184 : decode b_M_make 184 = .ok (.aload_n 0, 1) := by decide +kernel
theorem d_M_make_185 : decode b_M_make 185 = .ok (.getfield 13, 3) := by decide +kernel
theorem d_M_make_188 : decode b_M_make 188 = .ok (.if_icmp .ge 92, 3) := by decide +kernel
theorem d_M_make_191 : decode b_M_make 191 = .ok (.aload_n 0, 1) := by decide +kernel
theorem d_M_make_192 : decode b_M_make 192 = .ok (.getfield 23, 3) := by decide +kernel
theorem d_M_make_195 : decode b_M_make 195 = .ok (.bipush 40, 2) := by decide +kernel
theorem d_M_make_197 : decode b_M_make 197 = .ok (.aload_n 0, 1) := by decide +kernel
theorem d_M_make_198 : decode b_M_make 198 = .ok (.getfield 35, 3) := by decide +kernel
theorem d_M_make_201 : decode b_M_make 201 = .ok (.iload_n 3, 1) := by decide +kernel
theorem d_M_make_202 : decode b_M_make 202 = .ok (.iaload, 1) := by decide +kernel
theorem d_M_make_203 : decode b_M_make 203 = .ok (.imul, 1) := by decide +kernel
theorem d_M_make_204 : decode b_M_make 204 = .ok (.iload 4, 2) := by decide +kernel
theorem d_M_make_206 : decode b_M_make 206 = .ok (.iadd, 1) := by decide +kernel
theorem d_M_make_207 : decode b_M_make 207 = .ok (.iaload, 1) := by decide +kernel
theorem d_M_make_208 : decode b_M_make 208 = .ok (.istore 5, 2) := by decide +kernel
theorem d_M_make_210 : decode b_M_make 210 = .ok (.iload 5, 2) := by decide +kernel
theorem d_M_make_212 : decode b_M_make 212 = .ok (.ifCond .ge 7, 3) := by decide +kernel
theorem d_M_make_215 : decode b_M_make 215 = .ok (.iconst 0, 1) := by decide +kernel
theorem d_M_make_216 : decode b_M_make 216 = .ok (.goto 9, 3) := by decide +kernel
theorem d_M_make_219 : decode b_M_make 219 = .ok (.aload_n 0, 1) := by decide +kernel
theorem d_M_make_220 : decode b_M_make 220 = .ok (.iload 5, 2) := by decide +kernel
theorem d_M_make_222 : decode b_M_make 222 = .ok (.invokevirtual 88, 3) := by decide +kernel
theorem d_M_make_225 : decode b_M_make 225 = .ok (.istore 6, 2) := by decide +kernel
theorem d_M_make_227 : decode b_M_make 227 = .ok (.iload 5, 2) := by decide +kernel
theorem d_M_make_229 : decode b_M_make 229 = .ok (.ifCond .lt 45, 3) := by decide +kernel
theorem d_M_make_232 : decode b_M_make 232 = .ok (.aload_n 0, 1) := by decide +kernel
theorem d_M_make_233 : decode b_M_make 233 = .ok (.getfield 32, 3) := by decide +kernel
theorem d_M_make_236 : decode b_M_make 236 = .ok (.iload 6, 2) := by decide +kernel
theorem d_M_make_238 : decode b_M_make 238 = .ok (.iaload, 1) := by decide +kernel
theorem d_M_make_239 : decode b_M_make 239 = .ok (.ifCond .ge 35, 3) := by decide +kernel
theorem d_M_make_242 : decode b_M_make 242 = .ok (.aload_n 0, 1) := by decide +kernel
theorem d_M_make_243 : decode b_M_make 243 = .ok (.getfield 32, 3) := by decide +kernel
theorem d_M_make_246 : decode b_M_make 246 = .ok (.iload 6, 2) := by decide +kernel
theorem d_M_make_248 : decode b_M_make 248 = .ok (.aload_n 0, 1) := by decide +kernel
theorem d_M_make_249 : decode b_M_make 249 = .ok (.getfield 85, 3) := by decide +kernel
theorem d_M_make_252 : decode b_M_make 252 = .ok (.iastore, 1) := by decide +kernel
theorem d_M_make_253 : decode b_M_make 253 = .ok (.aload_n 0, 1) := by decide +kernel
theorem d_M_make_254 : decode b_M_make 254 = .ok (.getfield 35, 3) := by decide +kernel
theorem d_M_make_257 : decode b_M_make 257 = .ok (.aload_n 0, 1) := by decide +kernel
theorem d_M_make_258 : decode b_M_make 258 = .ok (.getfield 85, 3) := by decide +kernel
theorem d_M_make_261 : decode b_M_make 261 = .ok (.iload 6, 2) := by decide +kernel
theorem d_M_make_263 : decode b_M_make 263 = .ok (.iastore, 1) := by decide +kernel
theorem d_M_make_264 : decode b_M_make 264 = .ok (.aload_n 0, 1) := by decide +kernel
theorem d_M_make_265 : decode b_M_make 265 = .ok (.dup, 1) := by decide +kernel
theorem d_M_make_266 : decode b_M_make 266 = .ok (.getfield 85, 3) := by decide +kernel
theorem d_M_make_269 : decode b_M_make 269 = .ok (.iconst 1, 1) := by decide +kernel
theorem d_M_make_270 : decode b_M_make 270 = .ok (.iadd, 1) := by decide +kernel
theorem d_M_make_271 : decode b_M_make 271 = .ok (.putfield 85, 3) := by decide +kernel
theorem d_M_make_274 : decode b_M_make 274 = .ok (.iinc 4 1, 3) := by decide +kernel
theorem d_M_make_277 : decode b_M_make 277 = .ok (.goto (-95), 3) := by decide +kernel
theorem d_M_make_280 : decode b_M_make 280 = .ok (.iinc 3 1, 3) := by decide +kernel
theorem d_M_make_283 : decode b_M_make 283 = .ok (.goto (-112), 3) := by decide +kernel
theorem d_M_make_286 : decode b_M_make 286 = .ok (.iconst 0, 1) := by decide +kernel
end
section
theorem d_M_make_287 : decode b_M_make 287 = .ok (.istore_n 3, 1) := by decide +kernel
theorem d_M_make_288 : decode b_M_make 288 = .ok (.iload_n 3, 1) := by decide +kernel
theorem d_M_make_289 : decode b_M_make 289 = .ok (.iload_n 1, 1) := by decide +kernel
theorem d_M_make_290 : decode b_M_make 290 = .ok (.if_icmp .ge 25, 3) := by decide +kernel
theorem d_M_make_293 : decode b_M_make 293 = .ok (.aload_n 0, 1) := by decide +kernel
theorem d_M_make_294 : decode b_M_make 294 = .ok (.getfield 32, 3) := by decide +kernel
theorem d_M_make_297 : decode b_M_make 297 = .ok (.iload_n 3, 1) := by decide +kernel
theorem d_M_make_298 : decode b_M_make 298 = .ok (.aload_n 0, 1) := by decide +kernel
theorem d_M_make_299 : decode b_M_make 299 = .ok (.getfield 32, 3) := by decide +kernel
theorem d_M_make_302 : decode b_M_make 302 = .ok (.aload_n 0, 1) := by decide +kernel
theorem d_M_make_303 : decode b_M_make 303 = .ok (.iload_n 3, 1) := by decide +kernel
theorem d_M_make_304 : decode b_M_make 304 = .ok (.invokevirtual 88, 3) := by decide +kernel
theorem d_M_make_307 : decode b_M_make 307 = .ok (.iaload, 1) := by decide +kernel
theorem d_M_make_308 : decode b_M_make 308 = .ok (.iastore, 1) := by decide +kernel
theorem d_M_make_309 : decode b_M_make 309 = .ok (.iinc 3 1, 3) := by decide +kernel
theorem d_M_make_312 : decode b_M_make 312 = .ok (.goto (-24), 3) := by decide +kernel
theorem d_M_make_315 : decode b_M_make 315 = .ok (.aload_n 0, 1) := by decide +kernel
theorem d_M_make_316 : decode b_M_make 316 = .ok (.iconst 0, 1) := by decide +kernel
theorem d_M_make_317 : decode b_M_make 317 = .ok (.putfield 92, 3) := by decide +kernel
theorem d_M_make_320 : decode b_M_make 320 = .ok (.aload_n 0, 1) := by decide +kernel
theorem d_M_make_321 : decode b_M_make 321 = .ok (.getfield 85, 3) := by decide +kernel
theorem d_M_make_324 : decode b_M_make 324 = .ok (.ireturn, 1) := by decide +kernel
theorem d_M_follow_0 : decode b_M_follow 0 = .ok (.iconst 1, 1) := by decide +kernel
theorem d_M_follow_1 : decode b_M_follow 1 = .ok (.istore_n 1, 1) := by decide +kernel
theorem d_M_follow_2 : decode b_M_follow 2 = .ok (.aload_n 0, 1) := by decide +kernel
theorem d_M_follow_3 : decode b_M_follow 3 = .ok (.getfield 38, 3) := by decide +kernel
theorem d_M_follow_6 : decode b_M_follow 6 = .ok (.iconst 0, 1) := by decide +kernel
theorem d_M_follow_7 : decode b_M_follow 7 = .ok (.iconst 1, 1) := by decide +kernel
theorem d_M_follow_8 : decode b_M_follow 8 = .ok (.aload_n 0, 1) := by decide +kernel
theorem d_M_follow_9 : decode b_M_follow 9 = .ok (.getfield 51, 3) := by decide +kernel
theorem d_M_follow_12 : decode b_M_follow 12 = .ok (.ishl, 1) := by decide +kernel
theorem d_M_follow_13 : decode b_M_follow 13 = .ok (.iastore, 1) := by decide +kernel
theorem d_M_follow_14 : decode b_M_follow 14 = .ok (.iconst 0, 1) := by decide +kernel
theorem d_M_follow_15 : decode b_M_follow 15 = .ok (.istore_n 2, 1) := by decide +kernel
theorem d_M_follow_16 : decode b_M_follow 16 = .ok (.iload_n 2, 1) := by decide +kernel
theorem d_M_follow_17 : decode b_M_follow 17 = .ok (.iload_n 1, 1) := by decide +kernel
theorem d_M_follow_18 : decode b_M_follow 18 = .ok (.if_icmp .ge 117, 3) := by decide +kernel
theorem d_M_follow_21 : decode b_M_follow 21 = .ok (.iconst 0, 1) := by decide +kernel
theorem d_M_follow_22 : decode b_M_follow 22 = .ok (.istore_n 3, 1) := by decide +kernel
theorem d_M_follow_23 : decode b_M_follow 23 = .ok (.iload_n 3, 1) := by decide +kernel
theorem d_M_follow_24 : decode b_M_follow 24 = .ok (.aload_n 0, 1) := by decide +kernel
theorem d_M_follow_25 : decode b_M_follow 25 = .ok (.getfield 13, 3) := by decide +kernel
theorem d_M_follow_28 : decode b_M_follow 28 = .ok (.if_icmp .ge 101, 3) := by decide +kernel
theorem d_M_follow_31 : decode b_M_follow 31 = .ok (.aload_n 0, 1) := by decide +kernel
theorem d_M_follow_32 : decode b_M_follow 32 = .ok (.aload_n 0, 1) := by decide +kernel
theorem d_M_follow_33 : decode b_M_follow 33 = .ok (.getfield 38, 3) := by decide +kernel
theorem d_M_follow_36 : decode b_M_follow 36 = .ok (.iload_n 2, 1) := by decide +kernel
theorem d_M_follow_37 : decode b_M_follow 37 = .ok (.iaload, 1) := by decide +kernel
theorem d_M_follow_38 : decode b_M_follow 38 = .ok (.iload_n 3, 1) := by decide +kernel
theorem d_M_follow_39 : decode b_M_follow 39 = .ok (.invokevirtual 69, 3) := by decide +kernel
theorem d_M_follow_42 : decode b_M_follow 42 = .ok (.istore 4, 2) := by decide +kernel
theorem d_M_follow_44 : decode b_M_follow 44 = .ok (.iconst 0, 1) := by decide +kernel
theorem d_M_follow_45 : decode b_M_follow 45 = .ok (.istore 5, 2) := by decide +kernel
theorem d_M_follow_47 : decode b_M_follow 47 = .ok (.iload 5, 2) := by decide +kernel
theorem d_M_follow_49 : decode b_M_follow 49 = .ok (.iload_n 1, 1) := by decide +kernel
theorem d_M_follow_50 : decode b_M_follow 50 = .ok (.if_icmp .ge 21, 3) := by decide +kernel
theorem d_M_follow_53 : decode b_M_follow 53 = .ok (.aload_n 0, 1) := by decide +kernel
theorem d_M_follow_54 : decode b_M_follow 54 = .ok (.getfield 38, 3) := by decide +kernel
theorem d_M_follow_57 : decode b_M_follow 57 = .ok (.iload 5, 2) := by decide +kernel
theorem d_M_follow_59 : decode b_M_follow 59 = .ok (.iaload, 1) := by decide +kernel
theorem d_M_follow_60 : decode b_M_follow 60 = .ok (.iload 4, 2) := by decide +kernel
theorem d_M_follow_62 : decode b_M_follow 62 = .ok (.if_icmp .eq 9, 3) := by decide +kernel
theorem d_M_follow_65 : decode b_M_follow 65 = .ok (.iinc 5 1, 3) := by decide +kernel
theorem d_M_follow_68 : decode b_M_follow 68 = .ok (.goto (-21), 3) := by decide +kernel
theorem d_M_follow_71 : decode b_M_follow 71 = .ok (.iload 4, 2) := by decide +kernel
theorem d_M_follow_73 : decode b_M_follow 73 = .ok (.ifCond .eq 28, 3) := by decide +kernel
theorem d_M_follow_76 : decode b_M_follow 76 = .ok (.iload 5, 2) := by decide +kernel
theorem d_M_follow_78 : decode b_M_follow 78 = .ok (.iload_n 1, 1) := by decide +kernel
theorem d_M_follow_79 : decode b_M_follow 79 = .ok (.if_icmp .ne 22, 3) := by decide +kernel
theorem d_M_follow_82 : decode b_M_follow 82 = .ok (.iload_n 1, 1) := by decide +kernel
theorem d_M_follow_83 : decode b_M_follow 83 = .ok (.bipush 120, 2) := by decide +kernel
theorem d_M_follow_85 : decode b_M_follow 85 = .ok (.if_icmp .ne 5, 3) := by decide +kernel
theorem d_M_follow_88 : decode b_M_follow 88 = .ok (.iconst (-1), 1) := by decide +kernel
theorem d_M_follow_89 : decode b_M_follow 89 = .ok (.ireturn, 1) := by decide +kernel
theorem d_M_follow_90 : decode b_M_follow 90 = .ok (.aload_n 0, 1) := by decide +kernel
theorem d_M_follow_91 : decode b_M_follow 91 = .ok (.getfield 38, 3) := by decide +kernel
theorem d_M_follow_94 : decode b_M_follow 94 = .ok (.iload_n 1, 1) := by decide +kernel
theorem d_M_follow_95 : decode b_M_follow 95 = .ok (.iload 4, 2) := by decide +kernel
theorem d_M_follow_97 : decode b_M_follow 97 = .ok (.iastore, 1) := by decide +kernel
theorem d_M_follow_98 : decode b_M_follow 98 = .ok (.iinc 1 1, 3) := by decide +kernel
theorem d_M_follow_101 : decode b_M_follow 101 = .ok (.aload_n 0, 1) := by decide +kernel
theorem d_M_follow_102 : decode b_M_follow 102 = .ok (.getfield 41, 3) := by decide +kernel
theorem d_M_follow_105 : decode b_M_follow 105 = .ok (.bipush 40, 2) := by decide +kernel
theorem d_M_follow_107 : decode b_M_follow 107 = .ok (.iload_n 2, 1) := by decide +kernel
theorem d_M_follow_108 : decode b_M_follow 108 = .ok (.imul, 1) := by decide +kernel
theorem d_M_follow_109 : decode b_M_follow 109 = .ok (.iload_n 3, 1) := by decide +kernel
theorem d_M_follow_110 : decode b_M_follow 110 = .ok (.iadd, 1) := by decide +kernel
theorem d_M_follow_111 : decode b_M_follow 111 = .ok (.iload 4, 2) := by decide +kernel
theorem d_M_follow_113 : decode b_M_follow 113 = .ok (.ifCond .ne 7, 3) := by decide +kernel
theorem d_M_follow_116 : decode b_M_follow 116 = .ok (.iconst (-1), 1) := by decide +kernel
theorem d_M_follow_117 : decode b_M_follow 117 = .ok (.goto 5, 3) := by decide +kernel
theorem d_M_follow_120 : decode b_M_follow 120 = .ok (.iload 5, 2) := by decide +kernel
theorem d_M_follow_122 : decode b_M_follow 122 = .ok (.iastore, 1) := by decide +kernel
theorem d_M_follow_123 : decode b_M_follow 123 = .ok (.iinc 3 1, 3) := by decide +kernel
theorem d_M_follow_126 : decode b_M_follow 126 = .ok (.goto (-103), 3) := by decide +kernel
theorem d_M_follow_129 : decode b_M_follow 129 = .ok (.iinc 2 1, 3) := by decide +kernel
theorem d_M_follow_132 : decode b_M_follow 132 = .ok (.goto (-116), 3) := by decide +kernel
theorem d_M_follow_135 : decode b_M_follow 135 = .ok (.iload_n 1, 1) := by decide +kernel
theorem d_M_follow_136 : decode b_M_follow 136 = .ok (.ireturn, 1) := by decide +kernel
theorem d_M_led_0 : decode b_M_led 0 = .ok (.iconst 0, 1) := by decide +kernel
theorem d_M_led_1 : decode b_M_led 1 = .ok (.istore_n 3, 1) := by decide +kernel
theorem d_M_led_2 : decode b_M_led 2 = .ok (.iconst 0, 1) := by decide +kernel
theorem d_M_led_3 : decode b_M_led 3 = .ok (.istore 4, 2) := by decide +kernel
theorem d_M_led_5 : decode b_M_led 5 = .ok (.iload 4, 2) := by decide +kernel
theorem d_M_led_7 : decode b_M_led 7 = .ok (.aload_n 0, 1) := by decide +kernel
theorem d_M_led_8 : decode b_M_led 8 = .ok (.getfield 7, 3) := by decide +kernel
theorem d_M_led_11 : decode b_M_led 11 = .ok (.if_icmp .ge 38, 3) := by decide +kernel
theorem d_M_led_14 : decode b_M_led 14 = .ok (.iload_n 3, 1) := by decide +kernel
theorem d_M_led_15 : decode b_M_led 15 = .ok (.iload_n 1, 1) := by decide +kernel
theorem d_M_led_16 : decode b_M_led 16 = .ok (.iload 4, 2) := by decide +kernel
theorem d_M_led_18 : decode b_M_led 18 = .ok (.ishr, 1) := by decide +kernel
theorem d_M_led_19 : decode b_M_led 19 = .ok (.iconst 1, 1) := by decide +kernel
theorem d_M_led_20 : decode b_M_led 20 = .ok (.iand, 1) := by decide +kernel
theorem d_M_led_21 : decode b_M_led 21 = .ok (.iconst 1, 1) := by decide +kernel
theorem d_M_led_22 : decode b_M_led 22 = .ok (.if_icmp .ne 18, 3) := by decide +kernel
theorem d_M_led_25 : decode b_M_led 25 = .ok (.aload_n 0, 1) := by decide +kernel
theorem d_M_led_26 : decode b_M_led 26 = .ok (.getfield 16, 3) := by decide +kernel
theorem d_M_led_29 : decode b_M_led 29 = .ok (.bipush 24, 2) := by decide +kernel
theorem d_M_led_31 : decode b_M_led 31 = .ok (.iload_n 2, 1) := by decide +kernel
theorem d_M_led_32 : decode b_M_led 32 = .ok (.imul, 1) := by decide +kernel
theorem d_M_led_33 : decode b_M_led 33 = .ok (.iload 4, 2) := by decide +kernel
theorem d_M_led_35 : decode b_M_led 35 = .ok (.iadd, 1) := by decide +kernel
theorem d_M_led_36 : decode b_M_led 36 = .ok (.iaload, 1) := by decide +kernel
theorem d_M_led_37 : decode b_M_led 37 = .ok (.goto 4, 3) := by decide +kernel
theorem d_M_led_40 : decode b_M_led 40 = .ok (.iconst 0, 1) := by decide +kernel
theorem d_M_led_41 : decode b_M_led 41 = .ok (.ior, 1) := by decide +kernel
theorem d_M_led_42 : decode b_M_led 42 = .ok (.istore_n 3, 1) := by decide +kernel
theorem d_M_led_43 : decode b_M_led 43 = .ok (.iinc 4 1, 3) := by decide +kernel
theorem d_M_led_46 : decode b_M_led 46 = .ok (.goto (-41), 3) := by decide +kernel
theorem d_M_led_49 : decode b_M_led 49 = .ok (.iload_n 3, 1) := by decide +kernel
theorem d_M_led_50 : decode b_M_led 50 = .ok (.ireturn, 1) := by decide +kernel
theorem d_M_tell_0 : decode b_M_tell 0 = .ok (.iconst 0, 1) := by decide +kernel
theorem d_M_tell_1 : decode b_M_tell 1 = .ok (.istore_n 2, 1) := by decide +kernel
theorem d_M_tell_2 : decode b_M_tell 2 = .ok (.iconst 0, 1) := by decide +kernel
theorem d_M_tell_3 : decode b_M_tell 3 = .ok (.istore_n 3, 1) := by decide +kernel
theorem d_M_tell_4 : decode b_M_tell 4 = .ok (.iload_n 3, 1) := by decide +kernel
theorem d_M_tell_5 : decode b_M_tell 5 = .ok (.aload_n 0, 1) := by decide +kernel
theorem d_M_tell_6 : decode b_M_tell 6 = .ok (.getfield 73, 3) := by decide +kernel
theorem d_M_tell_9 : decode b_M_tell 9 = .ok (.if_icmp .ge 240, 3) := by decide +kernel
theorem d_M_tell_12 : decode b_M_tell 12 = .ok (.iconst 0, 1) := by decide +kernel
theorem d_M_tell_13 : decode b_M_tell 13 = .ok (.istore 4, 2) := by decide +kernel
theorem d_M_tell_15 : decode b_M_tell 15 = .ok (.iload 4, 2) := by decide +kernel
theorem d_M_tell_17 : decode b_M_tell 17 = .ok (.iload_n 3, 1) := by decide +kernel
theorem d_M_tell_18 : decode b_M_tell 18 = .ok (.if_icmp .ge 225, 3) := by decide +kernel
theorem d_M_tell_21 : decode b_M_tell 21 = .ok (.iconst 0, 1) := by decide +kernel
theorem d_M_tell_22 : decode b_M_tell 22 = .ok (.istore 5, 2) := by decide +kernel
theorem d_M_tell_24 : decode b_M_tell 24 = .ok (.iload 5, 2) := by decide +kernel
theorem d_M_tell_26 : decode b_M_tell 26 = .ok (.aload_n 0, 1) := by decide +kernel
theorem d_M_tell_27 : decode b_M_tell 27 = .ok (.getfield 76, 3) := by decide +kernel
theorem d_M_tell_30 : decode b_M_tell 30 = .ok (.if_icmp .ge 159, 3) := by decide +kernel
theorem d_M_tell_33 : decode b_M_tell 33 = .ok (.aload_n 0, 1) := by decide +kernel
theorem d_M_tell_34 : decode b_M_tell 34 = .ok (.getfield 26, 3) := by decide +kernel
theorem d_M_tell_37 : decode b_M_tell 37 = .ok (.bipush 120, 2) := by decide +kernel
theorem d_M_tell_39 : decode b_M_tell 39 = .ok (.iload_n 3, 1) := by decide +kernel
theorem d_M_tell_40 : decode b_M_tell 40 = .ok (.imul, 1) := by decide +kernel
theorem d_M_tell_41 : decode b_M_tell 41 = .ok (.iload 4, 2) := by decide +kernel
theorem d_M_tell_43 : decode b_M_tell 43 = .ok (.iadd, 1) := by decide +kernel
theorem d_M_tell_44 : decode b_M_tell 44 = .ok (.iaload, 1) := by decide +kernel
theorem d_M_tell_45 : decode b_M_tell 45 = .ok (.ifCond .ne 144, 3) := by decide +kernel
theorem d_M_tell_48 : decode b_M_tell 48 = .ok (.aload_n 0, 1) := by decide +kernel
theorem d_M_tell_49 : decode b_M_tell 49 = .ok (.getfield 23, 3) := by decide +kernel
theorem d_M_tell_52 : decode b_M_tell 52 = .ok (.bipush 40, 2) := by decide +kernel
theorem d_M_tell_54 : decode b_M_tell 54 = .ok (.iload_n 3, 1) := by decide +kernel
theorem d_M_tell_55 : decode b_M_tell 55 = .ok (.imul, 1) := by decide +kernel
theorem d_M_tell_56 : decode b_M_tell 56 = .ok (.iload 5, 2) := by decide +kernel
theorem d_M_tell_58 : decode b_M_tell 58 = .ok (.iadd, 1) := by decide +kernel
theorem d_M_tell_59 : decode b_M_tell 59 = .ok (.iaload, 1) := by decide +kernel
theorem d_M_tell_60 : decode b_M_tell 60 = .ok (.istore 6, 2) := by decide +kernel
theorem d_M_tell_62 : decode b_M_tell 62 = .ok (.aload_n 0, 1) := by decide +kernel
theorem d_M_tell_63 : decode b_M_tell 63 = .ok (.getfield 23, 3) := by decide +kernel
theorem d_M_tell_66 : decode b_M_tell 66 = .ok (.bipush 40, 2) := by decide +kernel
theorem d_M_tell_68 : decode b_M_tell 68 = .ok (.iload 4, 2) := by decide +kernel
theorem d_M_tell_70 : decode b_M_tell 70 = .ok (.imul, 1) := by decide +kernel
theorem d_M_tell_71 : decode b_M_tell 71 = .ok (.iload 5, 2) := by decide +kernel
theorem d_M_tell_73 : decode b_M_tell 73 = .ok (.iadd, 1) := by decide +kernel
theorem d_M_tell_74 : decode b_M_tell 74 = .ok (.iaload, 1) := by decide +kernel
theorem d_M_tell_75 : decode b_M_tell 75 = .ok (.istore 7, 2) := by decide +kernel
theorem d_M_tell_77 : decode b_M_tell 77 = .ok (.iload_n 1, 1) := by decide +kernel
theorem d_M_tell_78 : decode b_M_tell 78 = .ok (.iconst 1, 1) := by decide +kernel
theorem d_M_tell_79 : decode b_M_tell 79 = .ok (.if_icmp .ne 34, 3) := by decide +kernel
theorem d_M_tell_82 : decode b_M_tell 82 = .ok (.iload 6, 2) := by decide +kernel
theorem d_M_tell_84 : decode b_M_tell 84 = .ok (.ifCond .ge 7, 3) := by decide +kernel
theorem d_M_tell_87 : decode b_M_tell 87 = .ok (.iconst 1, 1) := by decide +kernel
theorem d_M_tell_88 : decode b_M_tell 88 = .ok (.goto 4, 3) := by decide +kernel
theorem d_M_tell_91 : decode b_M_tell 91 = .ok (.iconst 0, 1) := by decide +kernel
theorem d_M_tell_92 : decode b_M_tell 92 = .ok (.iload 7, 2) := by decide +kernel
theorem d_M_tell_94 : decode b_M_tell 94 = .ok (.ifCond .ge 7, 3) := by decide +kernel
theorem d_M_tell_97 : decode b_M_tell 97 = .ok (.iconst 1, 1) := by decide +kernel
theorem d_M_tell_98 : decode b_M_tell 98 = .ok (.goto 4, 3) := by decide +kernel
theorem d_M_tell_101 : decode b_M_tell 101 = .ok (.iconst 0, 1) := by decide +kernel
theorem d_M_tell_102 : decode b_M_tell 102 = .ok (.if_icmp .eq 7, 3) := by decide +kernel
theorem d_M_tell_105 : decode b_M_tell 105 = .ok (.iconst 1, 1) := by decide +kernel
theorem d_M_tell_106 : decode b_M_tell 106 = .ok (.goto 41, 3) := by decide +kernel
theorem d_M_tell_109 : decode b_M_tell 109 = .ok (.iconst 0, 1) := by decide +kernel
theorem d_M_tell_110 : decode b_M_tell 110 = .ok (.goto 37, 3) := by decide +kernel
theorem d_M_tell_113 : decode b_M_tell 113 = .ok (.iload 6, 2) := by decide +kernel
theorem d_M_tell_115 : decode b_M_tell 115 = .ok (.ifCond .lt 31, 3) := by decide +kernel
theorem d_M_tell_118 : decode b_M_tell 118 = .ok (.iload 7, 2) := by decide +kernel
theorem d_M_tell_120 : decode b_M_tell 120 = .ok (.ifCond .lt 26, 3) := by decide +kernel
theorem d_M_tell_123 : decode b_M_tell 123 = .ok (.aload_n 0, 1) := by decide +kernel
theorem d_M_tell_124 : decode b_M_tell 124 = .ok (.getfield 26, 3) := by decide +kernel
theorem d_M_tell_127 : decode b_M_tell 127 = .ok (.bipush 120, 2) := by decide +kernel
theorem d_M_tell_129 : decode b_M_tell 129 = .ok (.iload 6, 2) := by decide +kernel
theorem d_M_tell_131 : decode b_M_tell 131 = .ok (.imul, 1) := by decide +kernel
theorem d_M_tell_132 : decode b_M_tell 132 = .ok (.iload 7, 2) := by decide +kernel
theorem d_M_tell_134 : decode b_M_tell 134 = .ok (.iadd, 1) := by decide +kernel
theorem d_M_tell_135 : decode b_M_tell 135 = .ok (.iaload, 1) := by decide +kernel
theorem d_M_tell_136 : decode b_M_tell 136 = .ok (.iload_n 1, 1) := by decide +kernel
theorem d_M_tell_137 : decode b_M_tell 137 = .ok (.iconst 1, 1) := by decide +kernel
theorem d_M_tell_138 : decode b_M_tell 138 = .ok (.isub, 1) := by decide +kernel
theorem d_M_tell_139 : decode b_M_tell 139 = .ok (.if_icmp .ne 7, 3) := by decide +kernel
theorem d_M_tell_142 : decode b_M_tell 142 = .ok (.iconst 1, 1) := by decide +kernel
theorem d_M_tell_143 : decode b_M_tell 143 = .ok (.goto 4, 3) := by decide +kernel
theorem d_M_tell_146 : decode b_M_tell 146 = .ok (.iconst 0, 1) := by decide +kernel
theorem d_M_tell_147 : decode b_M_tell 147 = .ok (.istore 8, 2) := by decide +kernel
theorem d_M_tell_149 : decode b_M_tell 149 = .ok (.iload 8, 2) := by decide +kernel
theorem d_M_tell_151 : decode b_M_tell 151 = .ok (.ifCond .eq 32, 3) := by decide +kernel
theorem d_M_tell_154 : decode b_M_tell 154 = .ok (.aload_n 0, 1) := by decide +kernel
theorem d_M_tell_155 : decode b_M_tell 155 = .ok (.getfield 26, 3) := by decide +kernel
theorem d_M_tell_158 : decode b_M_tell 158 = .ok (.bipush 120, 2) := by decide +kernel
theorem d_M_tell_160 : decode b_M_tell 160 = .ok (.iload_n 3, 1) := by decide +kernel
theorem d_M_tell_161 : decode b_M_tell 161 = .ok (.imul, 1) := by decide +kernel
theorem d_M_tell_162 : decode b_M_tell 162 = .ok (.iload 4, 2) := by decide +kernel
theorem d_M_tell_164 : decode b_M_tell 164 = .ok (.iadd, 1) := by decide +kernel
theorem d_M_tell_165 : decode b_M_tell 165 = .ok (.iload_n 1, 1) := by decide +kernel
theorem d_M_tell_166 : decode b_M_tell 166 = .ok (.iastore, 1) := by decide +kernel
theorem d_M_tell_167 : decode b_M_tell 167 = .ok (.aload_n 0, 1) := by decide +kernel
theorem d_M_tell_168 : decode b_M_tell 168 = .ok (.getfield 29, 3) := by decide +kernel
theorem d_M_tell_171 : decode b_M_tell 171 = .ok (.bipush 120, 2) := by decide +kernel
theorem d_M_tell_173 : decode b_M_tell 173 = .ok (.iload_n 3, 1) := by decide +kernel
theorem d_M_tell_174 : decode b_M_tell 174 = .ok (.imul, 1) := by decide +kernel
theorem d_M_tell_175 : decode b_M_tell 175 = .ok (.iload 4, 2) := by decide +kernel
theorem d_M_tell_177 : decode b_M_tell 177 = .ok (.iadd, 1) := by decide +kernel
theorem d_M_tell_178 : decode b_M_tell 178 = .ok (.iload 5, 2) := by decide +kernel
theorem d_M_tell_180 : decode b_M_tell 180 = .ok (.iastore, 1) := by decide +kernel
theorem d_M_tell_181 : decode b_M_tell 181 = .ok (.iconst 1, 1) := by decide +kernel
theorem d_M_tell_182 : decode b_M_tell 182 = .ok (.istore_n 2, 1) := by decide +kernel
theorem d_M_tell_183 : decode b_M_tell 183 = .ok (.iinc 5 1, 3) := by decide +kernel
theorem d_M_tell_186 : decode b_M_tell 186 = .ok (.goto (-162), 3) := by decide +kernel
theorem d_M_tell_189 : decode b_M_tell 189 = .ok (.aload_n 0, 1) := by decide +kernel
theorem d_M_tell_190 : decode b_M_tell 190 = .ok (.getfield 26, 3) := by decide +kernel
theorem d_M_tell_193 : decode b_M_tell 193 = .ok (.bipush 120, 2) := by decide +kernel
theorem d_M_tell_195 : decode b_M_tell 195 = .ok (.iload 4, 2) := by decide +kernel
theorem d_M_tell_197 : decode b_M_tell 197 = .ok (.imul, 1) := by decide +kernel
theorem d_M_tell_198 : decode b_M_tell 198 = .ok (.iload_n 3, 1) := by decide +kernel
theorem d_M_tell_199 : decode b_M_tell 199 = .ok (.iadd, 1) := by decide +kernel
theorem d_M_tell_200 : decode b_M_tell 200 = .ok (.aload_n 0, 1) := by decide +kernel
theorem d_M_tell_201 : decode b_M_tell 201 = .ok (.getfield 26, 3) := by decide +kernel
theorem d_M_tell_204 : decode b_M_tell 204 = .ok (.bipush 120, 2) := by decide +kernel
theorem d_M_tell_206 : decode b_M_tell 206 = .ok (.iload_n 3, 1) := by decide +kernel
theorem d_M_tell_207 : decode b_M_tell 207 = .ok (.imul, 1) := by decide +kernel
theorem d_M_tell_208 : decode b_M_tell 208 = .ok (.iload 4, 2) := by decide +kernel
theorem d_M_tell_210 : decode b_M_tell 210 = .ok (.iadd, 1) := by decide +kernel
theorem d_M_tell_211 : decode b_M_tell 211 = .ok (.iaload, 1) := by decide +kernel
theorem d_M_tell_212 : decode b_M_tell 212 = .ok (.iastore, 1) := by decide +kernel
theorem d_M_tell_213 : decode b_M_tell 213 = .ok (.aload_n 0, 1) := by decide +kernel
theorem d_M_tell_214 : decode b_M_tell 214 = .ok (.getfield 29, 3) := by decide +kernel
theorem d_M_tell_217 : decode b_M_tell 217 = .ok (.bipush 120, 2) := by decide +kernel
theorem d_M_tell_219 : decode b_M_tell 219 = .ok (.iload 4, 2) := by decide +kernel
theorem d_M_tell_221 : decode b_M_tell 221 = .ok (.imul, 1) := by decide +kernel
theorem d_M_tell_222 : decode b_M_tell 222 = .ok (.iload_n 3, 1) := by decide +kernel
theorem d_M_tell_223 : decode b_M_tell 223 = .ok (.iadd, 1) := by decide +kernel
theorem d_M_tell_224 : decode b_M_tell 224 = .ok (.aload_n 0, 1) := by decide +kernel
theorem d_M_tell_225 : decode b_M_tell 225 = .ok (.getfield 29, 3) := by decide +kernel
theorem d_M_tell_228 : decode b_M_tell 228 = .ok (.bipush 120, 2) := by decide +kernel
theorem d_M_tell_230 : decode b_M_tell 230 = .ok (.iload_n 3, 1) := by decide +kernel
theorem d_M_tell_231 : decode b_M_tell 231 = .ok (.imul, 1) := by decide +kernel
theorem d_M_tell_232 : decode b_M_tell 232 = .ok (.iload 4, 2) := by decide +kernel
theorem d_M_tell_234 : decode b_M_tell 234 = .ok (.iadd, 1) := by decide +kernel
theorem d_M_tell_235 : decode b_M_tell 235 = .ok (.iaload, 1) := by decide +kernel
theorem d_M_tell_236 : decode b_M_tell 236 = .ok (.iastore, 1) := by decide +kernel
theorem d_M_tell_237 : decode b_M_tell 237 = .ok (.iinc 4 1, 3) := by decide +kernel
theorem d_M_tell_240 : decode b_M_tell 240 = .ok (.goto (-225), 3) := by decide +kernel
theorem d_M_tell_243 : decode b_M_tell 243 = .ok (.iinc 3 1, 3) := by decide +kernel
theorem d_M_tell_246 : decode b_M_tell 246 = .ok (.goto (-242), 3) := by decide +kernel
theorem d_M_tell_249 : decode b_M_tell 249 = .ok (.iload_n 2, 1) := by decide +kernel
theorem d_M_tell_250 : decode b_M_tell 250 = .ok (.ireturn, 1) := by decide +kernel
theorem d_M_leastLike_0 : decode b_M_leastLike 0 = .ok (.iconst 0, 1) := by decide +kernel
theorem d_M_leastLike_1 : decode b_M_leastLike 1 = .ok (.istore_n 2, 1) := by decide +kernel
theorem d_M_leastLike_2 : decode b_M_leastLike 2 = .ok (.aload_n 0, 1) := by decide +kernel
theorem d_M_leastLike_3 : decode b_M_leastLike 3 = .ok (.getfield 26, 3) := by decide +kernel
theorem d_M_leastLike_6 : decode b_M_leastLike 6 = .ok (.bipush 120, 2) := by decide +kernel
theorem d_M_leastLike_8 : decode b_M_leastLike 8 = .ok (.iload_n 1, 1) := by decide +kernel
theorem d_M_leastLike_9 : decode b_M_leastLike 9 = .ok (.imul, 1) := by decide +kernel
theorem d_M_leastLike_10 : decode b_M_leastLike 10 = .ok (.iload_n 2, 1) := by decide +kernel
theorem d_M_leastLike_11 : decode b_M_leastLike 11 = .ok (.iadd, 1) := by decide +kernel
theorem d_M_leastLike_12 : decode b_M_leastLike 12 = .ok (.iaload, 1) := by decide +kernel
theorem d_M_leastLike_13 : decode b_M_leastLike 13 = .ok (.ifCond .le 9, 3) := by decide +kernel
theorem d_M_leastLike_16 : decode b_M_leastLike 16 = .ok (.iinc 2 1, 3) := by decide +kernel
theorem d_M_leastLike_19 : decode b_M_leastLike 19 = .ok (.goto (-17), 3) := by decide +kernel
theorem d_M_leastLike_22 : decode b_M_leastLike 22 = .ok (.iload_n 2, 1) := by decide +kernel
theorem d_M_leastLike_23 : decode b_M_leastLike 23 = .ok (.ireturn, 1) := by decide +kernel
theorem d_W_home_0 : decode b_W_home 0 = .ok (.aload_n 0, 1) := by decide +kernel
theorem d_W_home_1 : decode b_W_home 1 = .ok (.iconst 0, 1) := by decide +kernel
theorem d_W_home_2 : decode b_W_home 2 = .ok (.putfield 23, 3) := by decide +kernel
theorem d_W_home_5 : decode b_W_home 5 = .ok (.return_, 1) := by decide +kernel
theorem d_M_home_0 : decode b_M_home 0 = .ok (.aload_n 0, 1) := by decide +kernel
theorem d_M_home_1 : decode b_M_home 1 = .ok (.iconst 0, 1) := by decide +kernel
theorem d_M_home_2 : decode b_M_home 2 = .ok (.putfield 48, 3) := by decide +kernel
theorem d_M_home_5 : decode b_M_home 5 = .ok (.aload_n 0, 1) := by decide +kernel
theorem d_M_home_6 : decode b_M_home 6 = .ok (.iconst 0, 1) := by decide +kernel
theorem d_M_home_7 : decode b_M_home 7 = .ok (.putfield 92, 3) := by decide +kernel
theorem d_M_home_10 : decode b_M_home 10 = .ok (.return_, 1) := by decide +kernel
theorem d_W_go_0 : decode b_W_go 0 = .ok (.aload_n 0, 1) := by decide +kernel
theorem d_W_go_1 : decode b_W_go 1 = .ok (.aload_n 0, 1) := by decide +kernel
theorem d_W_go_2 : decode b_W_go 2 = .ok (.getfield 23, 3) := by decide +kernel
theorem d_W_go_5 : decode b_W_go 5 = .ok (.iload_n 1, 1) := by decide +kernel
theorem d_W_go_6 : decode b_W_go 6 = .ok (.invokevirtual 69, 3) := by decide +kernel
theorem d_W_go_9 : decode b_W_go 9 = .ok (.istore_n 2, 1) := by decide +kernel
theorem d_W_go_10 : decode b_W_go 10 = .ok (.iload_n 2, 1) := by decide +kernel
theorem d_W_go_11 : decode b_W_go 11 = .ok (.iconst (-1), 1) := by decide +kernel
theorem d_W_go_12 : decode b_W_go 12 = .ok (.if_icmp .eq 8, 3) := by decide +kernel
theorem d_W_go_15 : decode b_W_go 15 = .ok (.aload_n 0, 1) := by decide +kernel
theorem d_W_go_16 : decode b_W_go 16 = .ok (.iload_n 2, 1) := by decide +kernel
theorem d_W_go_17 : decode b_W_go 17 = .ok (.putfield 23, 3) := by decide +kernel
theorem d_W_go_20 : decode b_W_go 20 = .ok (.iload_n 2, 1) := by decide +kernel
theorem d_W_go_21 : decode b_W_go 21 = .ok (.ireturn, 1) := by decide +kernel
theorem d_W_to_0 : decode b_W_to 0 = .ok (.aload_n 0, 1) := by decide +kernel
theorem d_W_to_1 : decode b_W_to 1 = .ok (.getfield 19, 3) := by decide +kernel
theorem d_W_to_4 : decode b_W_to 4 = .ok (.iload_n 1, 1) := by decide +kernel
theorem d_W_to_5 : decode b_W_to 5 = .ok (.invokevirtual 73, 3) := by decide +kernel
theorem d_W_to_8 : decode b_W_to 8 = .ok (.ifCond .eq 14, 3) := by decide +kernel
theorem d_W_to_11 : decode b_W_to 11 = .ok (.aload_n 0, 1) := by decide +kernel
theorem d_W_to_12 : decode b_W_to 12 = .ok (.getfield 19, 3) := by decide +kernel
theorem d_W_to_15 : decode b_W_to 15 = .ok (.iload_n 2, 1) := by decide +kernel
theorem d_W_to_16 : decode b_W_to 16 = .ok (.invokevirtual 76, 3) := by decide +kernel
theorem d_W_to_19 : decode b_W_to 19 = .ok (.ifCond .ne 5, 3) := by decide +kernel
theorem d_W_to_22 : decode b_W_to 22 = .ok (.iconst (-1), 1) := by decide +kernel
theorem d_W_to_23 : decode b_W_to 23 = .ok (.ireturn, 1) := by decide +kernel
theorem d_W_to_24 : decode b_W_to 24 = .ok (.aload_n 0, 1) := by decide +kernel
theorem d_W_to_25 : decode b_W_to 25 = .ok (.getfield 19, 3) := by decide +kernel
theorem d_W_to_28 : decode b_W_to 28 = .ok (.iload_n 1, 1) := by decide +kernel
theorem d_W_to_29 : decode b_W_to 29 = .ok (.iload_n 2, 1) := by decide +kernel
theorem d_W_to_30 : decode b_W_to 30 = .ok (.invokevirtual 77, 3) := by decide +kernel
theorem d_W_to_33 : decode b_W_to 33 = .ok (.ireturn, 1) := by decide +kernel
theorem d_T_hasState_0 : decode b_T_hasState 0 = .ok (.iload_n 1, 1) := by decide +kernel
theorem d_T_hasState_1 : decode b_T_hasState 1 = .ok (.ifCond .lt 15, 3) := by decide +kernel
theorem d_T_hasState_4 : decode b_T_hasState 4 = .ok (.iload_n 1, 1) := by decide +kernel
theorem d_T_hasState_5 : decode b_T_hasState 5 = .ok (.aload_n 0, 1) := by decide +kernel
theorem d_T_hasState_6 : decode b_T_hasState 6 = .ok (.getfield 18, 3) := by decide +kernel
theorem d_T_hasState_9 : decode b_T_hasState 9 = .ok (.if_icmp .ge 7, 3) := by decide +kernel
theorem d_T_hasState_12 : decode b_T_hasState 12 = .ok (.iconst 1, 1) := by decide +kernel
theorem d_T_hasState_13 : decode b_T_hasState 13 = .ok (.goto 4, 3) := by decide +kernel
theorem d_T_hasState_16 : decode b_T_hasState 16 = .ok (.iconst 0, 1) := by decide +kernel
theorem d_T_hasState_17 : decode b_T_hasState 17 = .ok (.ireturn, 1) := by decide +kernel
theorem d_T_hasLetter_0 : decode b_T_hasLetter 0 = .ok (.iload_n 1, 1) := by decide +kernel
theorem d_T_hasLetter_1 : decode b_T_hasLetter 1 = .ok (.ifCond .lt 15, 3) := by decide +kernel
theorem d_T_hasLetter_4 : decode b_T_hasLetter 4 = .ok (.iload_n 1, 1) := by decide +kernel
theorem d_T_hasLetter_5 : decode b_T_hasLetter 5 = .ok (.aload_n 0, 1) := by decide +kernel
theorem d_T_hasLetter_6 : decode b_T_hasLetter 6 = .ok (.getfield 9, 3) := by decide +kernel
theorem d_T_hasLetter_9 : decode b_T_hasLetter 9 = .ok (.if_icmp .ge 7, 3) := by decide +kernel
theorem d_T_hasLetter_12 : decode b_T_hasLetter 12 = .ok (.iconst 1, 1) := by decide +kernel
theorem d_T_hasLetter_13 : decode b_T_hasLetter 13 = .ok (.goto 4, 3) := by decide +kernel
theorem d_T_hasLetter_16 : decode b_T_hasLetter 16 = .ok (.iconst 0, 1) := by decide +kernel
theorem d_T_hasLetter_17 : decode b_T_hasLetter 17 = .ok (.ireturn, 1) := by decide +kernel
theorem d_T_stateAfter_0 : decode b_T_stateAfter 0 = .ok (.aload_n 0, 1) := by decide +kernel
theorem d_T_stateAfter_1 : decode b_T_stateAfter 1 = .ok (.getfield 31, 3) := by decide +kernel
theorem d_T_stateAfter_4 : decode b_T_stateAfter 4 = .ok (.aload_n 0, 1) := by decide +kernel
theorem d_T_stateAfter_5 : decode b_T_stateAfter 5 = .ok (.getfield 43, 3) := by decide +kernel
theorem d_T_stateAfter_8 : decode b_T_stateAfter 8 = .ok (.iload_n 1, 1) := by decide +kernel
theorem d_T_stateAfter_9 : decode b_T_stateAfter 9 = .ok (.iaload, 1) := by decide +kernel
theorem d_T_stateAfter_10 : decode b_T_stateAfter 10 = .ok (.bipush 40, 2) := by decide +kernel
theorem d_T_stateAfter_12 : decode b_T_stateAfter 12 = .ok (.imul, 1) := by decide +kernel
theorem d_T_stateAfter_13 : decode b_T_stateAfter 13 = .ok (.iload_n 2, 1) := by decide +kernel
theorem d_T_stateAfter_14 : decode b_T_stateAfter 14 = .ok (.iadd, 1) := by decide +kernel
theorem d_T_stateAfter_15 : decode b_T_stateAfter 15 = .ok (.iaload, 1) := by decide +kernel
theorem d_T_stateAfter_16 : decode b_T_stateAfter 16 = .ok (.istore_n 3, 1) := by decide +kernel
theorem d_T_stateAfter_17 : decode b_T_stateAfter 17 = .ok (.iload_n 3, 1) := by decide +kernel
theorem d_T_stateAfter_18 : decode b_T_stateAfter 18 = .ok (.iconst (-1), 1) := by decide +kernel
theorem d_T_stateAfter_19 : decode b_T_stateAfter 19 = .ok (.if_icmp .ne 7, 3) := by decide +kernel
theorem d_T_stateAfter_22 : decode b_T_stateAfter 22 = .ok (.iconst (-1), 1) := by decide +kernel
theorem d_T_stateAfter_23 : decode b_T_stateAfter 23 = .ok (.goto 9, 3) := by decide +kernel
theorem d_T_stateAfter_26 : decode b_T_stateAfter 26 = .ok (.aload_n 0, 1) := by decide +kernel
theorem d_T_stateAfter_27 : decode b_T_stateAfter 27 = .ok (.getfield 40, 3) := by decide +kernel
theorem d_T_stateAfter_30 : decode b_T_stateAfter 30 = .ok (.iload_n 3, 1) := by decide +kernel
theorem d_T_stateAfter_31 : decode b_T_stateAfter 31 = .ok (.iaload, 1) := by decide +kernel
theorem d_T_stateAfter_32 : decode b_T_stateAfter 32 = .ok (.ireturn, 1) := by decide +kernel
theorem d_M_go_0 : decode b_M_go 0 = .ok (.aload_n 0, 1) := by decide +kernel
theorem d_M_go_1 : decode b_M_go 1 = .ok (.iconst 0, 1) := by decide +kernel
theorem d_M_go_2 : decode b_M_go 2 = .ok (.putfield 48, 3) := by decide +kernel
theorem d_M_go_5 : decode b_M_go 5 = .ok (.iload_n 1, 1) := by decide +kernel
theorem d_M_go_6 : decode b_M_go 6 = .ok (.ifCond .lt 11, 3) := by decide +kernel
theorem d_M_go_9 : decode b_M_go 9 = .ok (.iload_n 1, 1) := by decide +kernel
theorem d_M_go_10 : decode b_M_go 10 = .ok (.aload_n 0, 1) := by decide +kernel
theorem d_M_go_11 : decode b_M_go 11 = .ok (.getfield 76, 3) := by decide +kernel
theorem d_M_go_14 : decode b_M_go 14 = .ok (.if_icmp .lt 7, 3) := by decide +kernel
theorem d_M_go_17 : decode b_M_go 17 = .ok (.iconst (-1), 1) := by decide +kernel
theorem d_M_go_18 : decode b_M_go 18 = .ok (.goto 12, 3) := by decide +kernel
theorem d_M_go_21 : decode b_M_go 21 = .ok (.aload_n 0, 1) := by decide +kernel
theorem d_M_go_22 : decode b_M_go 22 = .ok (.aload_n 0, 1) := by decide +kernel
theorem d_M_go_23 : decode b_M_go 23 = .ok (.getfield 92, 3) := by decide +kernel
theorem d_M_go_26 : decode b_M_go 26 = .ok (.iload_n 1, 1) := by decide +kernel
theorem d_M_go_27 : decode b_M_go 27 = .ok (.invokevirtual 95, 3) := by decide +kernel
theorem d_M_go_30 : decode b_M_go 30 = .ok (.istore_n 2, 1) := by decide +kernel
theorem d_M_go_31 : decode b_M_go 31 = .ok (.aload_n 0, 1) := by decide +kernel
theorem d_M_go_32 : decode b_M_go 32 = .ok (.iload_n 2, 1) := by decide +kernel
theorem d_M_go_33 : decode b_M_go 33 = .ok (.ifCond .ge 10, 3) := by decide +kernel
theorem d_M_go_36 : decode b_M_go 36 = .ok (.aload_n 0, 1) := by decide +kernel
theorem d_M_go_37 : decode b_M_go 37 = .ok (.getfield 92, 3) := by decide +kernel
theorem d_M_go_40 : decode b_M_go 40 = .ok (.goto 4, 3) := by decide +kernel
theorem d_M_go_43 : decode b_M_go 43 = .ok (.iload_n 2, 1) := by decide +kernel
theorem d_M_go_44 : decode b_M_go 44 = .ok (.putfield 92, 3) := by decide +kernel
theorem d_M_go_47 : decode b_M_go 47 = .ok (.iload_n 2, 1) := by decide +kernel
theorem d_M_go_48 : decode b_M_go 48 = .ok (.ireturn, 1) := by decide +kernel
theorem d_M_next_0 : decode b_M_next 0 = .ok (.aload_n 0, 1) := by decide +kernel
theorem d_M_next_1 : decode b_M_next 1 = .ok (.getfield 23, 3) := by decide +kernel
theorem d_M_next_4 : decode b_M_next 4 = .ok (.bipush 40, 2) := by decide +kernel
theorem d_M_next_6 : decode b_M_next 6 = .ok (.aload_n 0, 1) := by decide +kernel
theorem d_M_next_7 : decode b_M_next 7 = .ok (.getfield 35, 3) := by decide +kernel
theorem d_M_next_10 : decode b_M_next 10 = .ok (.iload_n 1, 1) := by decide +kernel
theorem d_M_next_11 : decode b_M_next 11 = .ok (.iaload, 1) := by decide +kernel
theorem d_M_next_12 : decode b_M_next 12 = .ok (.imul, 1) := by decide +kernel
theorem d_M_next_13 : decode b_M_next 13 = .ok (.iload_n 2, 1) := by decide +kernel
theorem d_M_next_14 : decode b_M_next 14 = .ok (.iadd, 1) := by decide +kernel
theorem d_M_next_15 : decode b_M_next 15 = .ok (.iaload, 1) := by decide +kernel
theorem d_M_next_16 : decode b_M_next 16 = .ok (.istore_n 3, 1) := by decide +kernel
theorem d_M_next_17 : decode b_M_next 17 = .ok (.iload_n 3, 1) := by decide +kernel
theorem d_M_next_18 : decode b_M_next 18 = .ok (.ifCond .ge 7, 3) := by decide +kernel
theorem d_M_next_21 : decode b_M_next 21 = .ok (.iconst (-1), 1) := by decide +kernel
theorem d_M_next_22 : decode b_M_next 22 = .ok (.goto 9, 3) := by decide +kernel
theorem d_M_next_25 : decode b_M_next 25 = .ok (.aload_n 0, 1) := by decide +kernel
theorem d_M_next_26 : decode b_M_next 26 = .ok (.getfield 32, 3) := by decide +kernel
theorem d_M_next_29 : decode b_M_next 29 = .ok (.iload_n 3, 1) := by decide +kernel
theorem d_M_next_30 : decode b_M_next 30 = .ok (.iaload, 1) := by decide +kernel
theorem d_M_next_31 : decode b_M_next 31 = .ok (.ireturn, 1) := by decide +kernel
theorem d_M_to_0 : decode b_M_to 0 = .ok (.aload_n 0, 1) := by decide +kernel
theorem d_M_to_1 : decode b_M_to 1 = .ok (.iconst 0, 1) := by decide +kernel
theorem d_M_to_2 : decode b_M_to 2 = .ok (.putfield 48, 3) := by decide +kernel
theorem d_M_to_5 : decode b_M_to 5 = .ok (.aload_n 0, 1) := by decide +kernel
theorem d_M_to_6 : decode b_M_to 6 = .ok (.iload_n 1, 1) := by decide +kernel
theorem d_M_to_7 : decode b_M_to 7 = .ok (.invokevirtual 98, 3) := by decide +kernel
theorem d_M_to_10 : decode b_M_to 10 = .ok (.ifCond .eq 15, 3) := by decide +kernel
theorem d_M_to_13 : decode b_M_to 13 = .ok (.iload_n 2, 1) := by decide +kernel
theorem d_M_to_14 : decode b_M_to 14 = .ok (.ifCond .lt 11, 3) := by decide +kernel
theorem d_M_to_17 : decode b_M_to 17 = .ok (.iload_n 2, 1) := by decide +kernel
theorem d_M_to_18 : decode b_M_to 18 = .ok (.aload_n 0, 1) := by decide +kernel
theorem d_M_to_19 : decode b_M_to 19 = .ok (.getfield 76, 3) := by decide +kernel
theorem d_M_to_22 : decode b_M_to 22 = .ok (.if_icmp .lt 7, 3) := by decide +kernel
theorem d_M_to_25 : decode b_M_to 25 = .ok (.iconst (-1), 1) := by decide +kernel
theorem d_M_to_26 : decode b_M_to 26 = .ok (.goto 9, 3) := by decide +kernel
theorem d_M_to_29 : decode b_M_to 29 = .ok (.aload_n 0, 1) := by decide +kernel
theorem d_M_to_30 : decode b_M_to 30 = .ok (.iload_n 1, 1) := by decide +kernel
theorem d_M_to_31 : decode b_M_to 31 = .ok (.iload_n 2, 1) := by decide +kernel
theorem d_M_to_32 : decode b_M_to 32 = .ok (.invokevirtual 95, 3) := by decide +kernel
theorem d_M_to_35 : decode b_M_to 35 = .ok (.ireturn, 1) := by decide +kernel
theorem d_M_isState_0 : decode b_M_isState 0 = .ok (.iload_n 1, 1) := by decide +kernel
theorem d_M_isState_1 : decode b_M_isState 1 = .ok (.ifCond .lt 15, 3) := by decide +kernel
theorem d_M_isState_4 : decode b_M_isState 4 = .ok (.iload_n 1, 1) := by decide +kernel
theorem d_M_isState_5 : decode b_M_isState 5 = .ok (.aload_n 0, 1) := by decide +kernel
theorem d_M_isState_6 : decode b_M_isState 6 = .ok (.getfield 85, 3) := by decide +kernel
theorem d_M_isState_9 : decode b_M_isState 9 = .ok (.if_icmp .ge 7, 3) := by decide +kernel
theorem d_M_isState_12 : decode b_M_isState 12 = .ok (.iconst 1, 1) := by decide +kernel
theorem d_M_isState_13 : decode b_M_isState 13 = .ok (.goto 4, 3) := by decide +kernel
theorem d_M_isState_16 : decode b_M_isState 16 = .ok (.iconst 0, 1) := by decide +kernel
theorem d_M_isState_17 : decode b_M_isState 17 = .ok (.ireturn, 1) := by decide +kernel
theorem d_W_nodes_0 : decode b_W_nodes 0 = .ok (.aload_n 0, 1) := by decide +kernel
theorem d_W_nodes_1 : decode b_W_nodes 1 = .ok (.getfield 19, 3) := by decide +kernel
theorem d_W_nodes_4 : decode b_W_nodes 4 = .ok (.iload_n 1, 1) := by decide +kernel
theorem d_W_nodes_5 : decode b_W_nodes 5 = .ok (.invokevirtual 80, 3) := by decide +kernel
theorem d_W_nodes_8 : decode b_W_nodes 8 = .ok (.ifCond .eq 15, 3) := by decide +kernel
theorem d_W_nodes_11 : decode b_W_nodes 11 = .ok (.aload_n 0, 1) := by decide +kernel
theorem d_W_nodes_12 : decode b_W_nodes 12 = .ok (.getfield 19, 3) := by decide +kernel
theorem d_W_nodes_15 : decode b_W_nodes 15 = .ok (.getfield 83, 3) := by decide +kernel
theorem d_W_nodes_18 : decode b_W_nodes 18 = .ok (.iload_n 1, 1) := by decide +kernel
theorem d_W_nodes_19 : decode b_W_nodes 19 = .ok (.iaload, 1) := by decide +kernel
theorem d_W_nodes_20 : decode b_W_nodes 20 = .ok (.goto 4, 3) := by decide +kernel
theorem d_W_nodes_23 : decode b_W_nodes 23 = .ok (.iconst 0, 1) := by decide +kernel
theorem d_W_nodes_24 : decode b_W_nodes 24 = .ok (.ireturn, 1) := by decide +kernel
theorem d_T_hasSet_0 : decode b_T_hasSet 0 = .ok (.iload_n 1, 1) := by decide +kernel
theorem d_T_hasSet_1 : decode b_T_hasSet 1 = .ok (.ifCond .lt 15, 3) := by decide +kernel
theorem d_T_hasSet_4 : decode b_T_hasSet 4 = .ok (.iload_n 1, 1) := by decide +kernel
theorem d_T_hasSet_5 : decode b_T_hasSet 5 = .ok (.aload_n 0, 1) := by decide +kernel
theorem d_T_hasSet_6 : decode b_T_hasSet 6 = .ok (.getfield 15, 3) := by decide +kernel
theorem d_T_hasSet_9 : decode b_T_hasSet 9 = .ok (.if_icmp .ge 7, 3) := by decide +kernel
theorem d_T_hasSet_12 : decode b_T_hasSet 12 = .ok (.iconst 1, 1) := by decide +kernel
theorem d_T_hasSet_13 : decode b_T_hasSet 13 = .ok (.goto 4, 3) := by decide +kernel
theorem d_T_hasSet_16 : decode b_T_hasSet 16 = .ok (.iconst 0, 1) := by decide +kernel
theorem d_T_hasSet_17 : decode b_T_hasSet 17 = .ok (.ireturn, 1) := by decide +kernel
theorem d_M_nodes_0 : decode b_M_nodes 0 = .ok (.aload_n 0, 1) := by decide +kernel
theorem d_M_nodes_1 : decode b_M_nodes 1 = .ok (.iconst 0, 1) := by decide +kernel
theorem d_M_nodes_2 : decode b_M_nodes 2 = .ok (.putfield 48, 3) := by decide +kernel
theorem d_M_nodes_5 : decode b_M_nodes 5 = .ok (.iload_n 1, 1) := by decide +kernel
theorem d_M_nodes_6 : decode b_M_nodes 6 = .ok (.ifCond .lt 11, 3) := by decide +kernel
theorem d_M_nodes_9 : decode b_M_nodes 9 = .ok (.iload_n 1, 1) := by decide +kernel
theorem d_M_nodes_10 : decode b_M_nodes 10 = .ok (.aload_n 0, 1) := by decide +kernel
theorem d_M_nodes_11 : decode b_M_nodes 11 = .ok (.getfield 73, 3) := by decide +kernel
theorem d_M_nodes_14 : decode b_M_nodes 14 = .ok (.if_icmp .lt 7, 3) := by decide +kernel
theorem d_M_nodes_17 : decode b_M_nodes 17 = .ok (.iconst 0, 1) := by decide +kernel
theorem d_M_nodes_18 : decode b_M_nodes 18 = .ok (.goto 9, 3) := by decide +kernel
theorem d_M_nodes_21 : decode b_M_nodes 21 = .ok (.aload_n 0, 1) := by decide +kernel
theorem d_M_nodes_22 : decode b_M_nodes 22 = .ok (.getfield 20, 3) := by decide +kernel
theorem d_M_nodes_25 : decode b_M_nodes 25 = .ok (.iload_n 1, 1) := by decide +kernel
theorem d_M_nodes_26 : decode b_M_nodes 26 = .ok (.iaload, 1) := by decide +kernel
theorem d_M_nodes_27 : decode b_M_nodes 27 = .ok (.ireturn, 1) := by decide +kernel
theorem d_W_state_0 : decode b_W_state 0 = .ok (.aload_n 0, 1) := by decide +kernel
theorem d_W_state_1 : decode b_W_state 1 = .ok (.getfield 19, 3) := by decide +kernel
theorem d_W_state_4 : decode b_W_state 4 = .ok (.iload_n 1, 1) := by decide +kernel
theorem d_W_state_5 : decode b_W_state 5 = .ok (.invokevirtual 80, 3) := by decide +kernel
theorem d_W_state_8 : decode b_W_state 8 = .ok (.ifCond .eq 15, 3) := by decide +kernel
theorem d_W_state_11 : decode b_W_state 11 = .ok (.aload_n 0, 1) := by decide +kernel
theorem d_W_state_12 : decode b_W_state 12 = .ok (.getfield 19, 3) := by decide +kernel
theorem d_W_state_15 : decode b_W_state 15 = .ok (.getfield 87, 3) := by decide +kernel
theorem d_W_state_18 : decode b_W_state 18 = .ok (.iload_n 1, 1) := by decide +kernel
theorem d_W_state_19 : decode b_W_state 19 = .ok (.iaload, 1) := by decide +kernel
theorem d_W_state_20 : decode b_W_state 20 = .ok (.goto 4, 3) := by decide +kernel
theorem d_W_state_23 : decode b_W_state 23 = .ok (.iconst (-1), 1) := by decide +kernel
theorem d_W_state_24 : decode b_W_state 24 = .ok (.ireturn, 1) := by decide +kernel
theorem d_M_state_0 : decode b_M_state 0 = .ok (.aload_n 0, 1) := by decide +kernel
theorem d_M_state_1 : decode b_M_state 1 = .ok (.iconst 0, 1) := by decide +kernel
theorem d_M_state_2 : decode b_M_state 2 = .ok (.putfield 48, 3) := by decide +kernel
theorem d_M_state_5 : decode b_M_state 5 = .ok (.iload_n 1, 1) := by decide +kernel
theorem d_M_state_6 : decode b_M_state 6 = .ok (.ifCond .lt 11, 3) := by decide +kernel
theorem d_M_state_9 : decode b_M_state 9 = .ok (.iload_n 1, 1) := by decide +kernel
theorem d_M_state_10 : decode b_M_state 10 = .ok (.aload_n 0, 1) := by decide +kernel
theorem d_M_state_11 : decode b_M_state 11 = .ok (.getfield 73, 3) := by decide +kernel
theorem d_M_state_14 : decode b_M_state 14 = .ok (.if_icmp .lt 7, 3) := by decide +kernel
theorem d_M_state_17 : decode b_M_state 17 = .ok (.iconst (-1), 1) := by decide +kernel
theorem d_M_state_18 : decode b_M_state 18 = .ok (.goto 9, 3) := by decide +kernel
theorem d_M_state_21 : decode b_M_state 21 = .ok (.aload_n 0, 1) := by decide +kernel
theorem d_M_state_22 : decode b_M_state 22 = .ok (.getfield 32, 3) := by decide +kernel
theorem d_M_state_25 : decode b_M_state 25 = .ok (.iload_n 1, 1) := by decide +kernel
theorem d_M_state_26 : decode b_M_state 26 = .ok (.iaload, 1) := by decide +kernel
theorem d_M_state_27 : decode b_M_state 27 = .ok (.ireturn, 1) := by decide +kernel
theorem d_W_apart_0 : decode b_W_apart 0 = .ok (.aload_n 0, 1) := by decide +kernel
theorem d_W_apart_1 : decode b_W_apart 1 = .ok (.getfield 19, 3) := by decide +kernel
theorem d_W_apart_4 : decode b_W_apart 4 = .ok (.iload_n 1, 1) := by decide +kernel
theorem d_W_apart_5 : decode b_W_apart 5 = .ok (.invokevirtual 73, 3) := by decide +kernel
theorem d_W_apart_8 : decode b_W_apart 8 = .ok (.ifCond .eq 14, 3) := by decide +kernel
theorem d_W_apart_11 : decode b_W_apart 11 = .ok (.aload_n 0, 1) := by decide +kernel
theorem d_W_apart_12 : decode b_W_apart 12 = .ok (.getfield 19, 3) := by decide +kernel
theorem d_W_apart_15 : decode b_W_apart 15 = .ok (.iload_n 2, 1) := by decide +kernel
theorem d_W_apart_16 : decode b_W_apart 16 = .ok (.invokevirtual 73, 3) := by decide +kernel
theorem d_W_apart_19 : decode b_W_apart 19 = .ok (.ifCond .ne 5, 3) := by decide +kernel
theorem d_W_apart_22 : decode b_W_apart 22 = .ok (.iconst (-1), 1) := by decide +kernel
theorem d_W_apart_23 : decode b_W_apart 23 = .ok (.ireturn, 1) := by decide +kernel
theorem d_W_apart_24 : decode b_W_apart 24 = .ok (.aload_n 0, 1) := by decide +kernel
theorem d_W_apart_25 : decode b_W_apart 25 = .ok (.getfield 19, 3) := by decide +kernel
theorem d_W_apart_28 : decode b_W_apart 28 = .ok (.iload_n 1, 1) := by decide +kernel
theorem d_W_apart_29 : decode b_W_apart 29 = .ok (.iload_n 2, 1) := by decide +kernel
theorem d_W_apart_30 : decode b_W_apart 30 = .ok (.invokevirtual 90, 3) := by decide +kernel
theorem d_W_apart_33 : decode b_W_apart 33 = .ok (.ireturn, 1) := by decide +kernel
theorem d_T_rowLength_0 : decode b_T_rowLength 0 = .ok (.iload_n 1, 1) := by decide +kernel
theorem d_T_rowLength_1 : decode b_T_rowLength 1 = .ok (.iload_n 2, 1) := by decide +kernel
theorem d_T_rowLength_2 : decode b_T_rowLength 2 = .ok (.if_icmp .ne 7, 3) := by decide +kernel
theorem d_T_rowLength_5 : decode b_T_rowLength 5 = .ok (.iconst 0, 1) := by decide +kernel
theorem d_T_rowLength_6 : decode b_T_rowLength 6 = .ok (.goto 23, 3) := by decide +kernel
theorem d_T_rowLength_9 : decode b_T_rowLength 9 = .ok (.aload_n 0, 1) := by decide +kernel
theorem d_T_rowLength_10 : decode b_T_rowLength 10 = .ok (.getfield 46, 3) := by decide +kernel
theorem d_T_rowLength_13 : decode b_T_rowLength 13 = .ok (.aload_n 0, 1) := by decide +kernel
theorem d_T_rowLength_14 : decode b_T_rowLength 14 = .ok (.getfield 43, 3) := by decide +kernel
theorem d_T_rowLength_17 : decode b_T_rowLength 17 = .ok (.iload_n 1, 1) := by decide +kernel
theorem d_T_rowLength_18 : decode b_T_rowLength 18 = .ok (.iaload, 1) := by decide +kernel
theorem d_T_rowLength_19 : decode b_T_rowLength 19 = .ok (.aload_n 0, 1) := by decide +kernel
theorem d_T_rowLength_20 : decode b_T_rowLength 20 = .ok (.getfield 43, 3) := by decide +kernel
theorem d_T_rowLength_23 : decode b_T_rowLength 23 = .ok (.iload_n 2, 1) := by decide +kernel
theorem d_T_rowLength_24 : decode b_T_rowLength 24 = .ok (.iaload, 1) := by decide +kernel
theorem d_T_rowLength_25 : decode b_T_rowLength 25 = .ok (.invokestatic 108, 3) := by decide +kernel
theorem d_T_rowLength_28 : decode b_T_rowLength 28 = .ok (.iaload, 1) := by decide +kernel
theorem d_T_rowLength_29 : decode b_T_rowLength 29 = .ok (.ireturn, 1) := by decide +kernel
theorem d_M_apart_0 : decode b_M_apart 0 = .ok (.aload_n 0, 1) := by decide +kernel
theorem d_M_apart_1 : decode b_M_apart 1 = .ok (.iconst 0, 1) := by decide +kernel
theorem d_M_apart_2 : decode b_M_apart 2 = .ok (.putfield 48, 3) := by decide +kernel
theorem d_M_apart_5 : decode b_M_apart 5 = .ok (.aload_n 0, 1) := by decide +kernel
theorem d_M_apart_6 : decode b_M_apart 6 = .ok (.iload_n 1, 1) := by decide +kernel
theorem d_M_apart_7 : decode b_M_apart 7 = .ok (.invokevirtual 98, 3) := by decide +kernel
theorem d_M_apart_10 : decode b_M_apart 10 = .ok (.ifCond .eq 59, 3) := by decide +kernel
theorem d_M_apart_13 : decode b_M_apart 13 = .ok (.aload_n 0, 1) := by decide +kernel
theorem d_M_apart_14 : decode b_M_apart 14 = .ok (.iload_n 2, 1) := by decide +kernel
theorem d_M_apart_15 : decode b_M_apart 15 = .ok (.invokevirtual 98, 3) := by decide +kernel
theorem d_M_apart_18 : decode b_M_apart 18 = .ok (.ifCond .eq 51, 3) := by decide +kernel
theorem d_M_apart_21 : decode b_M_apart 21 = .ok (.aload_n 0, 1) := by decide +kernel
theorem d_M_apart_22 : decode b_M_apart 22 = .ok (.getfield 26, 3) := by decide +kernel
theorem d_M_apart_25 : decode b_M_apart 25 = .ok (.bipush 120, 2) := by decide +kernel
theorem d_M_apart_27 : decode b_M_apart 27 = .ok (.aload_n 0, 1) := by decide +kernel
theorem d_M_apart_28 : decode b_M_apart 28 = .ok (.getfield 35, 3) := by decide +kernel
theorem d_M_apart_31 : decode b_M_apart 31 = .ok (.aload_n 0, 1) := by decide +kernel
theorem d_M_apart_32 : decode b_M_apart 32 = .ok (.iload_n 1, 1) := by decide +kernel
theorem d_M_apart_33 : decode b_M_apart 33 = .ok (.invokevirtual 98, 3) := by decide +kernel
theorem d_M_apart_36 : decode b_M_apart 36 = .ok (.ifCond .eq 7, 3) := by decide +kernel
theorem d_M_apart_39 : decode b_M_apart 39 = .ok (.iload_n 1, 1) := by decide +kernel
theorem d_M_apart_40 : decode b_M_apart 40 = .ok (.goto 4, 3) := by decide +kernel
theorem d_M_apart_43 : decode b_M_apart 43 = .ok (.iconst 0, 1) := by decide +kernel
theorem d_M_apart_44 : decode b_M_apart 44 = .ok (.iaload, 1) := by decide +kernel
theorem d_M_apart_45 : decode b_M_apart 45 = .ok (.imul, 1) := by decide +kernel
theorem d_M_apart_46 : decode b_M_apart 46 = .ok (.aload_n 0, 1) := by decide +kernel
theorem d_M_apart_47 : decode b_M_apart 47 = .ok (.getfield 35, 3) := by decide +kernel
theorem d_M_apart_50 : decode b_M_apart 50 = .ok (.aload_n 0, 1) := by decide +kernel
theorem d_M_apart_51 : decode b_M_apart 51 = .ok (.iload_n 2, 1) := by decide +kernel
theorem d_M_apart_52 : decode b_M_apart 52 = .ok (.invokevirtual 98, 3) := by decide +kernel
theorem d_M_apart_55 : decode b_M_apart 55 = .ok (.ifCond .eq 7, 3) := by decide +kernel
theorem d_M_apart_58 : decode b_M_apart 58 = .ok (.iload_n 2, 1) := by decide +kernel
theorem d_M_apart_59 : decode b_M_apart 59 = .ok (.goto 4, 3) := by decide +kernel
theorem d_M_apart_62 : decode b_M_apart 62 = .ok (.iconst 0, 1) := by decide +kernel
theorem d_M_apart_63 : decode b_M_apart 63 = .ok (.iaload, 1) := by decide +kernel
theorem d_M_apart_64 : decode b_M_apart 64 = .ok (.iadd, 1) := by decide +kernel
theorem d_M_apart_65 : decode b_M_apart 65 = .ok (.iaload, 1) := by decide +kernel
theorem d_M_apart_66 : decode b_M_apart 66 = .ok (.goto 4, 3) := by decide +kernel
theorem d_M_apart_69 : decode b_M_apart 69 = .ok (.iconst (-1), 1) := by decide +kernel
theorem d_M_apart_70 : decode b_M_apart 70 = .ok (.ireturn, 1) := by decide +kernel
theorem d_W_apartBy_0 : decode b_W_apartBy 0 = .ok (.iload_n 3, 1) := by decide +kernel
end
section
theorem d_W_apartBy_1 : decode b_W_apartBy 1 = .ok (.ifCond .lt 13, 3) := by decide +kernel
theorem d_W_apartBy_4 : decode b_W_apartBy 4 = .ok (.iload_n 3, 1) := by decide +kernel
theorem d_W_apartBy_5 : decode b_W_apartBy 5 = .ok (.aload_n 0, 1) := by decide +kernel
theorem d_W_apartBy_6 : decode b_W_apartBy 6 = .ok (.iload_n 1, 1) := by decide +kernel
theorem d_W_apartBy_7 : decode b_W_apartBy 7 = .ok (.iload_n 2, 1) := by decide +kernel
theorem d_W_apartBy_8 : decode b_W_apartBy 8 = .ok (.invokevirtual 93, 3) := by decide +kernel
theorem d_W_apartBy_11 : decode b_W_apartBy 11 = .ok (.if_icmp .lt 5, 3) := by decide +kernel
theorem d_W_apartBy_14 : decode b_W_apartBy 14 = .ok (.iconst (-1), 1) := by decide +kernel
theorem d_W_apartBy_15 : decode b_W_apartBy 15 = .ok (.ireturn, 1) := by decide +kernel
theorem d_W_apartBy_16 : decode b_W_apartBy 16 = .ok (.aload_n 0, 1) := by decide +kernel
theorem d_W_apartBy_17 : decode b_W_apartBy 17 = .ok (.getfield 19, 3) := by decide +kernel
theorem d_W_apartBy_20 : decode b_W_apartBy 20 = .ok (.iload_n 1, 1) := by decide +kernel
theorem d_W_apartBy_21 : decode b_W_apartBy 21 = .ok (.iload_n 2, 1) := by decide +kernel
theorem d_W_apartBy_22 : decode b_W_apartBy 22 = .ok (.iload_n 3, 1) := by decide +kernel
theorem d_W_apartBy_23 : decode b_W_apartBy 23 = .ok (.invokevirtual 96, 3) := by decide +kernel
theorem d_W_apartBy_26 : decode b_W_apartBy 26 = .ok (.ireturn, 1) := by decide +kernel
theorem d_T_rowLetter_0 : decode b_T_rowLetter 0 = .ok (.aload_n 0, 1) := by decide +kernel
theorem d_T_rowLetter_1 : decode b_T_rowLetter 1 = .ok (.getfield 43, 3) := by decide +kernel
theorem d_T_rowLetter_4 : decode b_T_rowLetter 4 = .ok (.iload_n 1, 1) := by decide +kernel
theorem d_T_rowLetter_5 : decode b_T_rowLetter 5 = .ok (.iaload, 1) := by decide +kernel
theorem d_T_rowLetter_6 : decode b_T_rowLetter 6 = .ok (.istore 4, 2) := by decide +kernel
theorem d_T_rowLetter_8 : decode b_T_rowLetter 8 = .ok (.aload_n 0, 1) := by decide +kernel
theorem d_T_rowLetter_9 : decode b_T_rowLetter 9 = .ok (.getfield 43, 3) := by decide +kernel
theorem d_T_rowLetter_12 : decode b_T_rowLetter 12 = .ok (.iload_n 2, 1) := by decide +kernel
theorem d_T_rowLetter_13 : decode b_T_rowLetter 13 = .ok (.iaload, 1) := by decide +kernel
theorem d_T_rowLetter_14 : decode b_T_rowLetter 14 = .ok (.istore 5, 2) := by decide +kernel
theorem d_T_rowLetter_16 : decode b_T_rowLetter 16 = .ok (.aload_n 0, 1) := by decide +kernel
theorem d_T_rowLetter_17 : decode b_T_rowLetter 17 = .ok (.iload_n 1, 1) := by decide +kernel
theorem d_T_rowLetter_18 : decode b_T_rowLetter 18 = .ok (.iload_n 2, 1) := by decide +kernel
theorem d_T_rowLetter_19 : decode b_T_rowLetter 19 = .ok (.invokevirtual 126, 3) := by decide +kernel
theorem d_T_rowLetter_22 : decode b_T_rowLetter 22 = .ok (.iconst 1, 1) := by decide +kernel
theorem d_T_rowLetter_23 : decode b_T_rowLetter 23 = .ok (.isub, 1) := by decide +kernel
theorem d_T_rowLetter_24 : decode b_T_rowLetter 24 = .ok (.istore 6, 2) := by decide +kernel
theorem d_T_rowLetter_26 : decode b_T_rowLetter 26 = .ok (.aload_n 0, 1) := by decide +kernel
theorem d_T_rowLetter_27 : decode b_T_rowLetter 27 = .ok (.iload 4, 2) := by decide +kernel
theorem d_T_rowLetter_29 : decode b_T_rowLetter 29 = .ok (.iload 5, 2) := by decide +kernel
theorem d_T_rowLetter_31 : decode b_T_rowLetter 31 = .ok (.iload 6, 2) := by decide +kernel
theorem d_T_rowLetter_33 : decode b_T_rowLetter 33 = .ok (.invokevirtual 129, 3) := by decide +kernel
theorem d_T_rowLetter_36 : decode b_T_rowLetter 36 = .ok (.istore 7, 2) := by decide +kernel
theorem d_T_rowLetter_38 : decode b_T_rowLetter 38 = .ok (.iconst 0, 1) := by decide +kernel
theorem d_T_rowLetter_39 : decode b_T_rowLetter 39 = .ok (.istore 8, 2) := by decide +kernel
theorem d_T_rowLetter_41 : decode b_T_rowLetter 41 = .ok (.iload 8, 2) := by decide +kernel
theorem d_T_rowLetter_43 : decode b_T_rowLetter 43 = .ok (.iload_n 3, 1) := by decide +kernel
theorem d_T_rowLetter_44 : decode b_T_rowLetter 44 = .ok (.if_icmp .ge 72, 3) := by decide +kernel
theorem d_T_rowLetter_47 : decode b_T_rowLetter 47 = .ok (.iload 7, 2) := by decide +kernel
theorem d_T_rowLetter_49 : decode b_T_rowLetter 49 = .ok (.iconst (-1), 1) := by decide +kernel
theorem d_T_rowLetter_50 : decode b_T_rowLetter 50 = .ok (.if_icmp .eq 66, 3) := by decide +kernel
theorem d_T_rowLetter_53 : decode b_T_rowLetter 53 = .ok (.aload_n 0, 1) := by decide +kernel
theorem d_T_rowLetter_54 : decode b_T_rowLetter 54 = .ok (.aload_n 0, 1) := by decide +kernel
theorem d_T_rowLetter_55 : decode b_T_rowLetter 55 = .ok (.getfield 34, 3) := by decide +kernel
theorem d_T_rowLetter_58 : decode b_T_rowLetter 58 = .ok (.iload 4, 2) := by decide +kernel
theorem d_T_rowLetter_60 : decode b_T_rowLetter 60 = .ok (.iload 7, 2) := by decide +kernel
theorem d_T_rowLetter_62 : decode b_T_rowLetter 62 = .ok (.invokevirtual 105, 3) := by decide +kernel
theorem d_T_rowLetter_65 : decode b_T_rowLetter 65 = .ok (.istore 4, 2) := by decide +kernel
theorem d_T_rowLetter_67 : decode b_T_rowLetter 67 = .ok (.aload_n 0, 1) := by decide +kernel
theorem d_T_rowLetter_68 : decode b_T_rowLetter 68 = .ok (.aload_n 0, 1) := by decide +kernel
theorem d_T_rowLetter_69 : decode b_T_rowLetter 69 = .ok (.getfield 34, 3) := by decide +kernel
theorem d_T_rowLetter_72 : decode b_T_rowLetter 72 = .ok (.iload 5, 2) := by decide +kernel
theorem d_T_rowLetter_74 : decode b_T_rowLetter 74 = .ok (.iload 7, 2) := by decide +kernel
theorem d_T_rowLetter_76 : decode b_T_rowLetter 76 = .ok (.invokevirtual 105, 3) := by decide +kernel
theorem d_T_rowLetter_79 : decode b_T_rowLetter 79 = .ok (.istore 5, 2) := by decide +kernel
theorem d_T_rowLetter_81 : decode b_T_rowLetter 81 = .ok (.iload 4, 2) := by decide +kernel
theorem d_T_rowLetter_83 : decode b_T_rowLetter 83 = .ok (.iconst (-1), 1) := by decide +kernel
theorem d_T_rowLetter_84 : decode b_T_rowLetter 84 = .ok (.if_icmp .eq 9, 3) := by decide +kernel
theorem d_T_rowLetter_87 : decode b_T_rowLetter 87 = .ok (.iload 5, 2) := by decide +kernel
theorem d_T_rowLetter_89 : decode b_T_rowLetter 89 = .ok (.iconst (-1), 1) := by decide +kernel
theorem d_T_rowLetter_90 : decode b_T_rowLetter 90 = .ok (.if_icmp .ne 5, 3) := by decide +kernel
theorem d_T_rowLetter_93 : decode b_T_rowLetter 93 = .ok (.iconst (-1), 1) := by decide +kernel
theorem d_T_rowLetter_94 : decode b_T_rowLetter 94 = .ok (.ireturn, 1) := by decide +kernel
theorem d_T_rowLetter_95 : decode b_T_rowLetter 95 = .ok (.iinc 6 (-1), 3) := by decide +kernel
theorem d_T_rowLetter_98 : decode b_T_rowLetter 98 = .ok (.aload_n 0, 1) := by decide +kernel
theorem d_T_rowLetter_99 : decode b_T_rowLetter 99 = .ok (.iload 4, 2) := by decide +kernel
theorem d_T_rowLetter_101 : decode b_T_rowLetter 101 = .ok (.iload 5, 2) := by decide +kernel
theorem d_T_rowLetter_103 : decode b_T_rowLetter 103 = .ok (.iload 6, 2) := by decide +kernel
theorem d_T_rowLetter_105 : decode b_T_rowLetter 105 = .ok (.invokevirtual 129, 3) := by decide +kernel
theorem d_T_rowLetter_108 : decode b_T_rowLetter 108 = .ok (.istore 7, 2) := by decide +kernel
theorem d_T_rowLetter_110 : decode b_T_rowLetter 110 = .ok (.iinc 8 1, 3) := by decide +kernel
theorem d_T_rowLetter_113 : decode b_T_rowLetter 113 = .ok (.goto (-72), 3) := by decide +kernel
theorem d_T_rowLetter_116 : decode b_T_rowLetter 116 = .ok (.iload 7, 2) := by decide +kernel
theorem d_T_rowLetter_118 : decode b_T_rowLetter 118 = .ok (.ireturn, 1) := by decide +kernel
theorem d_T_leastLetter_0 : decode b_T_leastLetter 0 = .ok (.iconst 0, 1) := by decide +kernel
theorem d_T_leastLetter_1 : decode b_T_leastLetter 1 = .ok (.istore 4, 2) := by decide +kernel
theorem d_T_leastLetter_3 : decode b_T_leastLetter 3 = .ok (.iload 4, 2) := by decide +kernel
theorem d_T_leastLetter_5 : decode b_T_leastLetter 5 = .ok (.aload_n 0, 1) := by decide +kernel
theorem d_T_leastLetter_6 : decode b_T_leastLetter 6 = .ok (.getfield 9, 3) := by decide +kernel
theorem d_T_leastLetter_9 : decode b_T_leastLetter 9 = .ok (.if_icmp .ge 57, 3) := by decide +kernel
theorem d_T_leastLetter_12 : decode b_T_leastLetter 12 = .ok (.aload_n 0, 1) := by decide +kernel
theorem d_T_leastLetter_13 : decode b_T_leastLetter 13 = .ok (.aload_n 0, 1) := by decide +kernel
theorem d_T_leastLetter_14 : decode b_T_leastLetter 14 = .ok (.getfield 34, 3) := by decide +kernel
theorem d_T_leastLetter_17 : decode b_T_leastLetter 17 = .ok (.iload_n 1, 1) := by decide +kernel
theorem d_T_leastLetter_18 : decode b_T_leastLetter 18 = .ok (.iload 4, 2) := by decide +kernel
theorem d_T_leastLetter_20 : decode b_T_leastLetter 20 = .ok (.invokevirtual 105, 3) := by decide +kernel
theorem d_T_leastLetter_23 : decode b_T_leastLetter 23 = .ok (.istore 5, 2) := by decide +kernel
theorem d_T_leastLetter_25 : decode b_T_leastLetter 25 = .ok (.aload_n 0, 1) := by decide +kernel
theorem d_T_leastLetter_26 : decode b_T_leastLetter 26 = .ok (.aload_n 0, 1) := by decide +kernel
theorem d_T_leastLetter_27 : decode b_T_leastLetter 27 = .ok (.getfield 34, 3) := by decide +kernel
theorem d_T_leastLetter_30 : decode b_T_leastLetter 30 = .ok (.iload_n 2, 1) := by decide +kernel
theorem d_T_leastLetter_31 : decode b_T_leastLetter 31 = .ok (.iload 4, 2) := by decide +kernel
theorem d_T_leastLetter_33 : decode b_T_leastLetter 33 = .ok (.invokevirtual 105, 3) := by decide +kernel
theorem d_T_leastLetter_36 : decode b_T_leastLetter 36 = .ok (.istore 6, 2) := by decide +kernel
theorem d_T_leastLetter_38 : decode b_T_leastLetter 38 = .ok (.iload 5, 2) := by decide +kernel
theorem d_T_leastLetter_40 : decode b_T_leastLetter 40 = .ok (.iload 6, 2) := by decide +kernel
theorem d_T_leastLetter_42 : decode b_T_leastLetter 42 = .ok (.if_icmp .eq 18, 3) := by decide +kernel
theorem d_T_leastLetter_45 : decode b_T_leastLetter 45 = .ok (.aload_n 0, 1) := by decide +kernel
theorem d_T_leastLetter_46 : decode b_T_leastLetter 46 = .ok (.iload 5, 2) := by decide +kernel
theorem d_T_leastLetter_48 : decode b_T_leastLetter 48 = .ok (.iload 6, 2) := by decide +kernel
theorem d_T_leastLetter_50 : decode b_T_leastLetter 50 = .ok (.invokevirtual 133, 3) := by decide +kernel
theorem d_T_leastLetter_53 : decode b_T_leastLetter 53 = .ok (.iload_n 3, 1) := by decide +kernel
theorem d_T_leastLetter_54 : decode b_T_leastLetter 54 = .ok (.if_icmp .ne 6, 3) := by decide +kernel
theorem d_T_leastLetter_57 : decode b_T_leastLetter 57 = .ok (.iload 4, 2) := by decide +kernel
theorem d_T_leastLetter_59 : decode b_T_leastLetter 59 = .ok (.ireturn, 1) := by decide +kernel
theorem d_T_leastLetter_60 : decode b_T_leastLetter 60 = .ok (.iinc 4 1, 3) := by decide +kernel
theorem d_T_leastLetter_63 : decode b_T_leastLetter 63 = .ok (.goto (-60), 3) := by decide +kernel
theorem d_T_leastLetter_66 : decode b_T_leastLetter 66 = .ok (.iconst (-1), 1) := by decide +kernel
theorem d_T_leastLetter_67 : decode b_T_leastLetter 67 = .ok (.ireturn, 1) := by decide +kernel
theorem d_T_lengthBehind_0 : decode b_T_lengthBehind 0 = .ok (.iload_n 1, 1) := by decide +kernel
theorem d_T_lengthBehind_1 : decode b_T_lengthBehind 1 = .ok (.iconst (-1), 1) := by decide +kernel
theorem d_T_lengthBehind_2 : decode b_T_lengthBehind 2 = .ok (.if_icmp .eq 8, 3) := by decide +kernel
theorem d_T_lengthBehind_5 : decode b_T_lengthBehind 5 = .ok (.iload_n 2, 1) := by decide +kernel
theorem d_T_lengthBehind_6 : decode b_T_lengthBehind 6 = .ok (.iconst (-1), 1) := by decide +kernel
theorem d_T_lengthBehind_7 : decode b_T_lengthBehind 7 = .ok (.if_icmp .ne 5, 3) := by decide +kernel
theorem d_T_lengthBehind_10 : decode b_T_lengthBehind 10 = .ok (.iconst 0, 1) := by decide +kernel
theorem d_T_lengthBehind_11 : decode b_T_lengthBehind 11 = .ok (.ireturn, 1) := by decide +kernel
theorem d_T_lengthBehind_12 : decode b_T_lengthBehind 12 = .ok (.aload_n 0, 1) := by decide +kernel
theorem d_T_lengthBehind_13 : decode b_T_lengthBehind 13 = .ok (.getfield 46, 3) := by decide +kernel
theorem d_T_lengthBehind_16 : decode b_T_lengthBehind 16 = .ok (.iload_n 1, 1) := by decide +kernel
theorem d_T_lengthBehind_17 : decode b_T_lengthBehind 17 = .ok (.iload_n 2, 1) := by decide +kernel
theorem d_T_lengthBehind_18 : decode b_T_lengthBehind 18 = .ok (.invokestatic 108, 3) := by decide +kernel
theorem d_T_lengthBehind_21 : decode b_T_lengthBehind 21 = .ok (.iaload, 1) := by decide +kernel
theorem d_T_lengthBehind_22 : decode b_T_lengthBehind 22 = .ok (.ireturn, 1) := by decide +kernel
theorem d_M_apartBy_0 : decode b_M_apartBy 0 = .ok (.aload_n 0, 1) := by decide +kernel
theorem d_M_apartBy_1 : decode b_M_apartBy 1 = .ok (.iconst 0, 1) := by decide +kernel
theorem d_M_apartBy_2 : decode b_M_apartBy 2 = .ok (.putfield 48, 3) := by decide +kernel
theorem d_M_apartBy_5 : decode b_M_apartBy 5 = .ok (.aload_n 0, 1) := by decide +kernel
theorem d_M_apartBy_6 : decode b_M_apartBy 6 = .ok (.iload_n 1, 1) := by decide +kernel
theorem d_M_apartBy_7 : decode b_M_apartBy 7 = .ok (.invokevirtual 98, 3) := by decide +kernel
theorem d_M_apartBy_10 : decode b_M_apartBy 10 = .ok (.ifCond .eq 40, 3) := by decide +kernel
theorem d_M_apartBy_13 : decode b_M_apartBy 13 = .ok (.aload_n 0, 1) := by decide +kernel
theorem d_M_apartBy_14 : decode b_M_apartBy 14 = .ok (.iload_n 2, 1) := by decide +kernel
theorem d_M_apartBy_15 : decode b_M_apartBy 15 = .ok (.invokevirtual 98, 3) := by decide +kernel
theorem d_M_apartBy_18 : decode b_M_apartBy 18 = .ok (.ifCond .eq 32, 3) := by decide +kernel
theorem d_M_apartBy_21 : decode b_M_apartBy 21 = .ok (.iload_n 3, 1) := by decide +kernel
theorem d_M_apartBy_22 : decode b_M_apartBy 22 = .ok (.ifCond .lt 28, 3) := by decide +kernel
theorem d_M_apartBy_25 : decode b_M_apartBy 25 = .ok (.iload_n 3, 1) := by decide +kernel
theorem d_M_apartBy_26 : decode b_M_apartBy 26 = .ok (.aload_n 0, 1) := by decide +kernel
theorem d_M_apartBy_27 : decode b_M_apartBy 27 = .ok (.getfield 26, 3) := by decide +kernel
theorem d_M_apartBy_30 : decode b_M_apartBy 30 = .ok (.bipush 120, 2) := by decide +kernel
theorem d_M_apartBy_32 : decode b_M_apartBy 32 = .ok (.aload_n 0, 1) := by decide +kernel
theorem d_M_apartBy_33 : decode b_M_apartBy 33 = .ok (.getfield 35, 3) := by decide +kernel
theorem d_M_apartBy_36 : decode b_M_apartBy 36 = .ok (.iload_n 1, 1) := by decide +kernel
theorem d_M_apartBy_37 : decode b_M_apartBy 37 = .ok (.iaload, 1) := by decide +kernel
theorem d_M_apartBy_38 : decode b_M_apartBy 38 = .ok (.imul, 1) := by decide +kernel
theorem d_M_apartBy_39 : decode b_M_apartBy 39 = .ok (.aload_n 0, 1) := by decide +kernel
theorem d_M_apartBy_40 : decode b_M_apartBy 40 = .ok (.getfield 35, 3) := by decide +kernel
theorem d_M_apartBy_43 : decode b_M_apartBy 43 = .ok (.iload_n 2, 1) := by decide +kernel
theorem d_M_apartBy_44 : decode b_M_apartBy 44 = .ok (.iaload, 1) := by decide +kernel
theorem d_M_apartBy_45 : decode b_M_apartBy 45 = .ok (.iadd, 1) := by decide +kernel
theorem d_M_apartBy_46 : decode b_M_apartBy 46 = .ok (.iaload, 1) := by decide +kernel
theorem d_M_apartBy_47 : decode b_M_apartBy 47 = .ok (.if_icmp .lt 5, 3) := by decide +kernel
theorem d_M_apartBy_50 : decode b_M_apartBy 50 = .ok (.iconst (-1), 1) := by decide +kernel
theorem d_M_apartBy_51 : decode b_M_apartBy 51 = .ok (.ireturn, 1) := by decide +kernel
theorem d_M_apartBy_52 : decode b_M_apartBy 52 = .ok (.aload_n 0, 1) := by decide +kernel
theorem d_M_apartBy_53 : decode b_M_apartBy 53 = .ok (.getfield 35, 3) := by decide +kernel
theorem d_M_apartBy_56 : decode b_M_apartBy 56 = .ok (.iload_n 1, 1) := by decide +kernel
theorem d_M_apartBy_57 : decode b_M_apartBy 57 = .ok (.iaload, 1) := by decide +kernel
theorem d_M_apartBy_58 : decode b_M_apartBy 58 = .ok (.istore 4, 2) := by decide +kernel
theorem d_M_apartBy_60 : decode b_M_apartBy 60 = .ok (.aload_n 0, 1) := by decide +kernel
theorem d_M_apartBy_61 : decode b_M_apartBy 61 = .ok (.getfield 35, 3) := by decide +kernel
theorem d_M_apartBy_64 : decode b_M_apartBy 64 = .ok (.iload_n 2, 1) := by decide +kernel
theorem d_M_apartBy_65 : decode b_M_apartBy 65 = .ok (.iaload, 1) := by decide +kernel
theorem d_M_apartBy_66 : decode b_M_apartBy 66 = .ok (.istore 5, 2) := by decide +kernel
theorem d_M_apartBy_68 : decode b_M_apartBy 68 = .ok (.iconst 0, 1) := by decide +kernel
theorem d_M_apartBy_69 : decode b_M_apartBy 69 = .ok (.istore 6, 2) := by decide +kernel
theorem d_M_apartBy_71 : decode b_M_apartBy 71 = .ok (.iload 6, 2) := by decide +kernel
theorem d_M_apartBy_73 : decode b_M_apartBy 73 = .ok (.iload_n 3, 1) := by decide +kernel
theorem d_M_apartBy_74 : decode b_M_apartBy 74 = .ok (.if_icmp .ge 54, 3) := by decide +kernel
theorem d_M_apartBy_77 : decode b_M_apartBy 77 = .ok (.aload_n 0, 1) := by decide +kernel
theorem d_M_apartBy_78 : decode b_M_apartBy 78 = .ok (.getfield 29, 3) := by decide +kernel
theorem d_M_apartBy_81 : decode b_M_apartBy 81 = .ok (.bipush 120, 2) := by decide +kernel
theorem d_M_apartBy_83 : decode b_M_apartBy 83 = .ok (.iload 4, 2) := by decide +kernel
theorem d_M_apartBy_85 : decode b_M_apartBy 85 = .ok (.imul, 1) := by decide +kernel
theorem d_M_apartBy_86 : decode b_M_apartBy 86 = .ok (.iload 5, 2) := by decide +kernel
theorem d_M_apartBy_88 : decode b_M_apartBy 88 = .ok (.iadd, 1) := by decide +kernel
theorem d_M_apartBy_89 : decode b_M_apartBy 89 = .ok (.iaload, 1) := by decide +kernel
theorem d_M_apartBy_90 : decode b_M_apartBy 90 = .ok (.istore 7, 2) := by decide +kernel
theorem d_M_apartBy_92 : decode b_M_apartBy 92 = .ok (.aload_n 0, 1) := by decide +kernel
theorem d_M_apartBy_93 : decode b_M_apartBy 93 = .ok (.getfield 23, 3) := by decide +kernel
theorem d_M_apartBy_96 : decode b_M_apartBy 96 = .ok (.bipush 40, 2) := by decide +kernel
theorem d_M_apartBy_98 : decode b_M_apartBy 98 = .ok (.iload 4, 2) := by decide +kernel
theorem d_M_apartBy_100 : decode b_M_apartBy 100 = .ok (.imul, 1) := by decide +kernel
theorem d_M_apartBy_101 : decode b_M_apartBy 101 = .ok (.iload 7, 2) := by decide +kernel
theorem d_M_apartBy_103 : decode b_M_apartBy 103 = .ok (.iadd, 1) := by decide +kernel
theorem d_M_apartBy_104 : decode b_M_apartBy 104 = .ok (.iaload, 1) := by decide +kernel
theorem d_M_apartBy_105 : decode b_M_apartBy 105 = .ok (.istore 4, 2) := by decide +kernel
theorem d_M_apartBy_107 : decode b_M_apartBy 107 = .ok (.aload_n 0, 1) := by decide +kernel
theorem d_M_apartBy_108 : decode b_M_apartBy 108 = .ok (.getfield 23, 3) := by decide +kernel
theorem d_M_apartBy_111 : decode b_M_apartBy 111 = .ok (.bipush 40, 2) := by decide +kernel
theorem d_M_apartBy_113 : decode b_M_apartBy 113 = .ok (.iload 5, 2) := by decide +kernel
theorem d_M_apartBy_115 : decode b_M_apartBy 115 = .ok (.imul, 1) := by decide +kernel
theorem d_M_apartBy_116 : decode b_M_apartBy 116 = .ok (.iload 7, 2) := by decide +kernel
theorem d_M_apartBy_118 : decode b_M_apartBy 118 = .ok (.iadd, 1) := by decide +kernel
theorem d_M_apartBy_119 : decode b_M_apartBy 119 = .ok (.iaload, 1) := by decide +kernel
theorem d_M_apartBy_120 : decode b_M_apartBy 120 = .ok (.istore 5, 2) := by decide +kernel
theorem d_M_apartBy_122 : decode b_M_apartBy 122 = .ok (.iinc 6 1, 3) := by decide +kernel
theorem d_M_apartBy_125 : decode b_M_apartBy 125 = .ok (.goto (-54), 3) := by decide +kernel
theorem d_M_apartBy_128 : decode b_M_apartBy 128 = .ok (.aload_n 0, 1) := by decide +kernel
theorem d_M_apartBy_129 : decode b_M_apartBy 129 = .ok (.getfield 29, 3) := by decide +kernel
theorem d_M_apartBy_132 : decode b_M_apartBy 132 = .ok (.bipush 120, 2) := by decide +kernel
theorem d_M_apartBy_134 : decode b_M_apartBy 134 = .ok (.iload 4, 2) := by decide +kernel
theorem d_M_apartBy_136 : decode b_M_apartBy 136 = .ok (.imul, 1) := by decide +kernel
theorem d_M_apartBy_137 : decode b_M_apartBy 137 = .ok (.iload 5, 2) := by decide +kernel
theorem d_M_apartBy_139 : decode b_M_apartBy 139 = .ok (.iadd, 1) := by decide +kernel
theorem d_M_apartBy_140 : decode b_M_apartBy 140 = .ok (.iaload, 1) := by decide +kernel
theorem d_M_apartBy_141 : decode b_M_apartBy 141 = .ok (.ireturn, 1) := by decide +kernel
theorem d_W_is_0 : decode b_W_is 0 = .ok (.aload_n 0, 1) := by decide +kernel
theorem d_W_is_1 : decode b_W_is 1 = .ok (.getfield 12, 3) := by decide +kernel
theorem d_W_is_4 : decode b_W_is 4 = .ok (.iload_n 1, 1) := by decide +kernel
theorem d_W_is_5 : decode b_W_is 5 = .ok (.iload_n 2, 1) := by decide +kernel
theorem d_W_is_6 : decode b_W_is 6 = .ok (.iload_n 3, 1) := by decide +kernel
theorem d_W_is_7 : decode b_W_is 7 = .ok (.invokevirtual 31, 3) := by decide +kernel
theorem d_W_is_10 : decode b_W_is 10 = .ok (.ifCond .eq 20, 3) := by decide +kernel
theorem d_W_is_13 : decode b_W_is 13 = .ok (.aload_n 0, 1) := by decide +kernel
theorem d_W_is_14 : decode b_W_is 14 = .ok (.getfield 12, 3) := by decide +kernel
theorem d_W_is_17 : decode b_W_is 17 = .ok (.iload_n 1, 1) := by decide +kernel
theorem d_W_is_18 : decode b_W_is 18 = .ok (.iload_n 2, 1) := by decide +kernel
theorem d_W_is_19 : decode b_W_is 19 = .ok (.iload_n 3, 1) := by decide +kernel
theorem d_W_is_20 : decode b_W_is 20 = .ok (.invokevirtual 35, 3) := by decide +kernel
theorem d_W_is_23 : decode b_W_is 23 = .ok (.ifCond .eq 7, 3) := by decide +kernel
theorem d_W_is_26 : decode b_W_is 26 = .ok (.iconst 1, 1) := by decide +kernel
theorem d_W_is_27 : decode b_W_is 27 = .ok (.goto 4, 3) := by decide +kernel
theorem d_W_is_30 : decode b_W_is 30 = .ok (.iconst 0, 1) := by decide +kernel
theorem d_W_is_31 : decode b_W_is 31 = .ok (.ireturn, 1) := by decide +kernel
theorem d_W_look_0 : decode b_W_look 0 = .ok (.iload_n 1, 1) := by decide +kernel
theorem d_W_look_1 : decode b_W_look 1 = .ok (.tableswitch 132 0 9 #[55, 63, 71, 79, 87, 95, 103, 111, 119, 127], 55) := by decide +kernel
theorem d_W_look_56 : decode b_W_look 56 = .ok (.aload_n 0, 1) := by decide +kernel
theorem d_W_look_57 : decode b_W_look 57 = .ok (.getfield 12, 3) := by decide +kernel
theorem d_W_look_60 : decode b_W_look 60 = .ok (.getfield 49, 3) := by decide +kernel
theorem d_W_look_63 : decode b_W_look 63 = .ok (.ireturn, 1) := by decide +kernel
theorem d_W_look_64 : decode b_W_look 64 = .ok (.aload_n 0, 1) := by decide +kernel
theorem d_W_look_65 : decode b_W_look 65 = .ok (.getfield 12, 3) := by decide +kernel
theorem d_W_look_68 : decode b_W_look 68 = .ok (.getfield 52, 3) := by decide +kernel
theorem d_W_look_71 : decode b_W_look 71 = .ok (.ireturn, 1) := by decide +kernel
theorem d_W_look_72 : decode b_W_look 72 = .ok (.aload_n 0, 1) := by decide +kernel
theorem d_W_look_73 : decode b_W_look 73 = .ok (.getfield 12, 3) := by decide +kernel
theorem d_W_look_76 : decode b_W_look 76 = .ok (.invokevirtual 100, 3) := by decide +kernel
theorem d_W_look_79 : decode b_W_look 79 = .ok (.ireturn, 1) := by decide +kernel
theorem d_W_look_80 : decode b_W_look 80 = .ok (.aload_n 0, 1) := by decide +kernel
theorem d_W_look_81 : decode b_W_look 81 = .ok (.getfield 12, 3) := by decide +kernel
theorem d_W_look_84 : decode b_W_look 84 = .ok (.getfield 59, 3) := by decide +kernel
theorem d_W_look_87 : decode b_W_look 87 = .ok (.ireturn, 1) := by decide +kernel
theorem d_W_look_88 : decode b_W_look 88 = .ok (.aload_n 0, 1) := by decide +kernel
theorem d_W_look_89 : decode b_W_look 89 = .ok (.getfield 19, 3) := by decide +kernel
theorem d_W_look_92 : decode b_W_look 92 = .ok (.getfield 104, 3) := by decide +kernel
theorem d_W_look_95 : decode b_W_look 95 = .ok (.ireturn, 1) := by decide +kernel
theorem d_W_look_96 : decode b_W_look 96 = .ok (.aload_n 0, 1) := by decide +kernel
theorem d_W_look_97 : decode b_W_look 97 = .ok (.getfield 19, 3) := by decide +kernel
theorem d_W_look_100 : decode b_W_look 100 = .ok (.getfield 66, 3) := by decide +kernel
theorem d_W_look_103 : decode b_W_look 103 = .ok (.ireturn, 1) := by decide +kernel
theorem d_W_look_104 : decode b_W_look 104 = .ok (.aload_n 0, 1) := by decide +kernel
theorem d_W_look_105 : decode b_W_look 105 = .ok (.getfield 19, 3) := by decide +kernel
theorem d_W_look_108 : decode b_W_look 108 = .ok (.getfield 107, 3) := by decide +kernel
theorem d_W_look_111 : decode b_W_look 111 = .ok (.ireturn, 1) := by decide +kernel
theorem d_W_look_112 : decode b_W_look 112 = .ok (.aload_n 0, 1) := by decide +kernel
theorem d_W_look_113 : decode b_W_look 113 = .ok (.getfield 19, 3) := by decide +kernel
theorem d_W_look_116 : decode b_W_look 116 = .ok (.invokevirtual 108, 3) := by decide +kernel
theorem d_W_look_119 : decode b_W_look 119 = .ok (.ireturn, 1) := by decide +kernel
theorem d_W_look_120 : decode b_W_look 120 = .ok (.aload_n 0, 1) := by decide +kernel
theorem d_W_look_121 : decode b_W_look 121 = .ok (.getfield 19, 3) := by decide +kernel
theorem d_W_look_124 : decode b_W_look 124 = .ok (.getfield 111, 3) := by decide +kernel
theorem d_W_look_127 : decode b_W_look 127 = .ok (.ireturn, 1) := by decide +kernel
theorem d_W_look_128 : decode b_W_look 128 = .ok (.aload_n 0, 1) := by decide +kernel
theorem d_W_look_129 : decode b_W_look 129 = .ok (.getfield 23, 3) := by decide +kernel
theorem d_W_look_132 : decode b_W_look 132 = .ok (.ireturn, 1) := by decide +kernel
theorem d_W_look_133 : decode b_W_look 133 = .ok (.iconst (-1), 1) := by decide +kernel
theorem d_W_look_134 : decode b_W_look 134 = .ok (.ireturn, 1) := by decide +kernel
theorem d_G_countWays_0 : decode b_G_countWays 0 = .ok (.iconst 0, 1) := by decide +kernel
theorem d_G_countWays_1 : decode b_G_countWays 1 = .ok (.istore_n 1, 1) := by decide +kernel
theorem d_G_countWays_2 : decode b_G_countWays 2 = .ok (.iconst 0, 1) := by decide +kernel
theorem d_G_countWays_3 : decode b_G_countWays 3 = .ok (.istore_n 2, 1) := by decide +kernel
theorem d_G_countWays_4 : decode b_G_countWays 4 = .ok (.iload_n 2, 1) := by decide +kernel
theorem d_G_countWays_5 : decode b_G_countWays 5 = .ok (.aload_n 0, 1) := by decide +kernel
theorem d_G_countWays_6 : decode b_G_countWays 6 = .ok (.getfield 21, 3) := by decide +kernel
theorem d_G_countWays_9 : decode b_G_countWays 9 = .ok (.arraylength, 1) := by decide +kernel
theorem d_G_countWays_10 : decode b_G_countWays 10 = .ok (.if_icmp .ge 21, 3) := by decide +kernel
theorem d_G_countWays_13 : decode b_G_countWays 13 = .ok (.iload_n 1, 1) := by decide +kernel
theorem d_G_countWays_14 : decode b_G_countWays 14 = .ok (.aload_n 0, 1) := by decide +kernel
theorem d_G_countWays_15 : decode b_G_countWays 15 = .ok (.getfield 21, 3) := by decide +kernel
theorem d_G_countWays_18 : decode b_G_countWays 18 = .ok (.iload_n 2, 1) := by decide +kernel
theorem d_G_countWays_19 : decode b_G_countWays 19 = .ok (.iaload, 1) := by decide +kernel
theorem d_G_countWays_20 : decode b_G_countWays 20 = .ok (.invokestatic 50, 3) := by decide +kernel
theorem d_G_countWays_23 : decode b_G_countWays 23 = .ok (.iadd, 1) := by decide +kernel
theorem d_G_countWays_24 : decode b_G_countWays 24 = .ok (.istore_n 1, 1) := by decide +kernel
theorem d_G_countWays_25 : decode b_G_countWays 25 = .ok (.iinc 2 1, 3) := by decide +kernel
theorem d_G_countWays_28 : decode b_G_countWays 28 = .ok (.goto (-24), 3) := by decide +kernel
theorem d_G_countWays_31 : decode b_G_countWays 31 = .ok (.iload_n 1, 1) := by decide +kernel
theorem d_G_countWays_32 : decode b_G_countWays 32 = .ok (.ireturn, 1) := by decide +kernel
theorem d_I_bitCount1_0 : decode b_I_bitCount1 0 = .ok (.iload_n 0, 1) := by decide +kernel
theorem d_I_bitCount1_1 : decode b_I_bitCount1 1 = .ok (.iload_n 0, 1) := by decide +kernel
theorem d_I_bitCount1_2 : decode b_I_bitCount1 2 = .ok (.iconst 1, 1) := by decide +kernel
theorem d_I_bitCount1_3 : decode b_I_bitCount1 3 = .ok (.iushr, 1) := by decide +kernel
theorem d_I_bitCount1_4 : decode b_I_bitCount1 4 = .ok (.ldc_w 265, 3) := by decide +kernel
theorem d_I_bitCount1_7 : decode b_I_bitCount1 7 = .ok (.iand, 1) := by decide +kernel
theorem d_I_bitCount1_8 : decode b_I_bitCount1 8 = .ok (.isub, 1) := by decide +kernel
theorem d_I_bitCount1_9 : decode b_I_bitCount1 9 = .ok (.istore_n 0, 1) := by decide +kernel
theorem d_I_bitCount1_10 : decode b_I_bitCount1 10 = .ok (.iload_n 0, 1) := by decide +kernel
theorem d_I_bitCount1_11 : decode b_I_bitCount1 11 = .ok (.ldc_w 266, 3) := by decide +kernel
theorem d_I_bitCount1_14 : decode b_I_bitCount1 14 = .ok (.iand, 1) := by decide +kernel
theorem d_I_bitCount1_15 : decode b_I_bitCount1 15 = .ok (.iload_n 0, 1) := by decide +kernel
theorem d_I_bitCount1_16 : decode b_I_bitCount1 16 = .ok (.iconst 2, 1) := by decide +kernel
theorem d_I_bitCount1_17 : decode b_I_bitCount1 17 = .ok (.iushr, 1) := by decide +kernel
theorem d_I_bitCount1_18 : decode b_I_bitCount1 18 = .ok (.ldc_w 266, 3) := by decide +kernel
theorem d_I_bitCount1_21 : decode b_I_bitCount1 21 = .ok (.iand, 1) := by decide +kernel
theorem d_I_bitCount1_22 : decode b_I_bitCount1 22 = .ok (.iadd, 1) := by decide +kernel
theorem d_I_bitCount1_23 : decode b_I_bitCount1 23 = .ok (.istore_n 0, 1) := by decide +kernel
theorem d_I_bitCount1_24 : decode b_I_bitCount1 24 = .ok (.iload_n 0, 1) := by decide +kernel
theorem d_I_bitCount1_25 : decode b_I_bitCount1 25 = .ok (.iload_n 0, 1) := by decide +kernel
theorem d_I_bitCount1_26 : decode b_I_bitCount1 26 = .ok (.iconst 4, 1) := by decide +kernel
theorem d_I_bitCount1_27 : decode b_I_bitCount1 27 = .ok (.iushr, 1) := by decide +kernel
theorem d_I_bitCount1_28 : decode b_I_bitCount1 28 = .ok (.iadd, 1) := by decide +kernel
theorem d_I_bitCount1_29 : decode b_I_bitCount1 29 = .ok (.ldc_w 267, 3) := by decide +kernel
theorem d_I_bitCount1_32 : decode b_I_bitCount1 32 = .ok (.iand, 1) := by decide +kernel
theorem d_I_bitCount1_33 : decode b_I_bitCount1 33 = .ok (.istore_n 0, 1) := by decide +kernel
theorem d_I_bitCount1_34 : decode b_I_bitCount1 34 = .ok (.iload_n 0, 1) := by decide +kernel
theorem d_I_bitCount1_35 : decode b_I_bitCount1 35 = .ok (.iload_n 0, 1) := by decide +kernel
theorem d_I_bitCount1_36 : decode b_I_bitCount1 36 = .ok (.bipush 8, 2) := by decide +kernel
theorem d_I_bitCount1_38 : decode b_I_bitCount1 38 = .ok (.iushr, 1) := by decide +kernel
theorem d_I_bitCount1_39 : decode b_I_bitCount1 39 = .ok (.iadd, 1) := by decide +kernel
theorem d_I_bitCount1_40 : decode b_I_bitCount1 40 = .ok (.istore_n 0, 1) := by decide +kernel
theorem d_I_bitCount1_41 : decode b_I_bitCount1 41 = .ok (.iload_n 0, 1) := by decide +kernel
theorem d_I_bitCount1_42 : decode b_I_bitCount1 42 = .ok (.iload_n 0, 1) := by decide +kernel
theorem d_I_bitCount1_43 : decode b_I_bitCount1 43 = .ok (.bipush 16, 2) := by decide +kernel
theorem d_I_bitCount1_45 : decode b_I_bitCount1 45 = .ok (.iushr, 1) := by decide +kernel
theorem d_I_bitCount1_46 : decode b_I_bitCount1 46 = .ok (.iadd, 1) := by decide +kernel
theorem d_I_bitCount1_47 : decode b_I_bitCount1 47 = .ok (.istore_n 0, 1) := by decide +kernel
theorem d_I_bitCount1_48 : decode b_I_bitCount1 48 = .ok (.iload_n 0, 1) := by decide +kernel
theorem d_I_bitCount1_49 : decode b_I_bitCount1 49 = .ok (.bipush 63, 2) := by decide +kernel
theorem d_I_bitCount1_51 : decode b_I_bitCount1 51 = .ok (.iand, 1) := by decide +kernel
theorem d_I_bitCount1_52 : decode b_I_bitCount1 52 = .ok (.ireturn, 1) := by decide +kernel
theorem d_T_countGoing_0 : decode b_T_countGoing 0 = .ok (.iconst 0, 1) := by decide +kernel
theorem d_T_countGoing_1 : decode b_T_countGoing 1 = .ok (.istore_n 1, 1) := by decide +kernel
theorem d_T_countGoing_2 : decode b_T_countGoing 2 = .ok (.iconst 0, 1) := by decide +kernel
theorem d_T_countGoing_3 : decode b_T_countGoing 3 = .ok (.istore_n 2, 1) := by decide +kernel
theorem d_T_countGoing_4 : decode b_T_countGoing 4 = .ok (.iload_n 2, 1) := by decide +kernel
theorem d_T_countGoing_5 : decode b_T_countGoing 5 = .ok (.aload_n 0, 1) := by decide +kernel
theorem d_T_countGoing_6 : decode b_T_countGoing 6 = .ok (.getfield 18, 3) := by decide +kernel
theorem d_T_countGoing_9 : decode b_T_countGoing 9 = .ok (.if_icmp .ge 38, 3) := by decide +kernel
theorem d_T_countGoing_12 : decode b_T_countGoing 12 = .ok (.iconst 0, 1) := by decide +kernel
theorem d_T_countGoing_13 : decode b_T_countGoing 13 = .ok (.istore_n 3, 1) := by decide +kernel
theorem d_T_countGoing_14 : decode b_T_countGoing 14 = .ok (.iload_n 3, 1) := by decide +kernel
theorem d_T_countGoing_15 : decode b_T_countGoing 15 = .ok (.aload_n 0, 1) := by decide +kernel
theorem d_T_countGoing_16 : decode b_T_countGoing 16 = .ok (.getfield 9, 3) := by decide +kernel
theorem d_T_countGoing_19 : decode b_T_countGoing 19 = .ok (.if_icmp .ge 22, 3) := by decide +kernel
theorem d_T_countGoing_22 : decode b_T_countGoing 22 = .ok (.aload_n 0, 1) := by decide +kernel
theorem d_T_countGoing_23 : decode b_T_countGoing 23 = .ok (.iload_n 2, 1) := by decide +kernel
theorem d_T_countGoing_24 : decode b_T_countGoing 24 = .ok (.iload_n 3, 1) := by decide +kernel
theorem d_T_countGoing_25 : decode b_T_countGoing 25 = .ok (.invokevirtual 123, 3) := by decide +kernel
theorem d_T_countGoing_28 : decode b_T_countGoing 28 = .ok (.iconst (-1), 1) := by decide +kernel
theorem d_T_countGoing_29 : decode b_T_countGoing 29 = .ok (.if_icmp .eq 6, 3) := by decide +kernel
theorem d_T_countGoing_32 : decode b_T_countGoing 32 = .ok (.iinc 1 1, 3) := by decide +kernel
theorem d_T_countGoing_35 : decode b_T_countGoing 35 = .ok (.iinc 3 1, 3) := by decide +kernel
theorem d_T_countGoing_38 : decode b_T_countGoing 38 = .ok (.goto (-24), 3) := by decide +kernel
theorem d_T_countGoing_41 : decode b_T_countGoing 41 = .ok (.iinc 2 1, 3) := by decide +kernel
theorem d_T_countGoing_44 : decode b_T_countGoing 44 = .ok (.goto (-40), 3) := by decide +kernel
theorem d_T_countGoing_47 : decode b_T_countGoing 47 = .ok (.iload_n 1, 1) := by decide +kernel
theorem d_T_countGoing_48 : decode b_T_countGoing 48 = .ok (.ireturn, 1) := by decide +kernel
theorem d_M_look_0 : decode b_M_look 0 = .ok (.aload_n 0, 1) := by decide +kernel
theorem d_M_look_1 : decode b_M_look 1 = .ok (.iconst 0, 1) := by decide +kernel
theorem d_M_look_2 : decode b_M_look 2 = .ok (.putfield 48, 3) := by decide +kernel
theorem d_M_look_5 : decode b_M_look 5 = .ok (.iload_n 1, 1) := by decide +kernel
theorem d_M_look_6 : decode b_M_look 6 = .ok (.tableswitch 104 0 9 #[54, 59, 64, 69, 74, 79, 84, 89, 94, 99], 54) := by decide +kernel
theorem d_M_look_60 : decode b_M_look 60 = .ok (.aload_n 0, 1) := by decide +kernel
theorem d_M_look_61 : decode b_M_look 61 = .ok (.getfield 7, 3) := by decide +kernel
theorem d_M_look_64 : decode b_M_look 64 = .ok (.ireturn, 1) := by decide +kernel
theorem d_M_look_65 : decode b_M_look 65 = .ok (.aload_n 0, 1) := by decide +kernel
theorem d_M_look_66 : decode b_M_look 66 = .ok (.getfield 13, 3) := by decide +kernel
theorem d_M_look_69 : decode b_M_look 69 = .ok (.ireturn, 1) := by decide +kernel
theorem d_M_look_70 : decode b_M_look 70 = .ok (.aload_n 0, 1) := by decide +kernel
theorem d_M_look_71 : decode b_M_look 71 = .ok (.invokevirtual 101, 3) := by decide +kernel
theorem d_M_look_74 : decode b_M_look 74 = .ok (.ireturn, 1) := by decide +kernel
theorem d_M_look_75 : decode b_M_look 75 = .ok (.aload_n 0, 1) := by decide +kernel
theorem d_M_look_76 : decode b_M_look 76 = .ok (.getfield 51, 3) := by decide +kernel
theorem d_M_look_79 : decode b_M_look 79 = .ok (.ireturn, 1) := by decide +kernel
theorem d_M_look_80 : decode b_M_look 80 = .ok (.aload_n 0, 1) := by decide +kernel
theorem d_M_look_81 : decode b_M_look 81 = .ok (.getfield 73, 3) := by decide +kernel
theorem d_M_look_84 : decode b_M_look 84 = .ok (.ireturn, 1) := by decide +kernel
theorem d_M_look_85 : decode b_M_look 85 = .ok (.aload_n 0, 1) := by decide +kernel
theorem d_M_look_86 : decode b_M_look 86 = .ok (.getfield 85, 3) := by decide +kernel
theorem d_M_look_89 : decode b_M_look 89 = .ok (.ireturn, 1) := by decide +kernel
theorem d_M_look_90 : decode b_M_look 90 = .ok (.aload_n 0, 1) := by decide +kernel
theorem d_M_look_91 : decode b_M_look 91 = .ok (.getfield 76, 3) := by decide +kernel
theorem d_M_look_94 : decode b_M_look 94 = .ok (.ireturn, 1) := by decide +kernel
theorem d_M_look_95 : decode b_M_look 95 = .ok (.aload_n 0, 1) := by decide +kernel
theorem d_M_look_96 : decode b_M_look 96 = .ok (.invokevirtual 104, 3) := by decide +kernel
theorem d_M_look_99 : decode b_M_look 99 = .ok (.ireturn, 1) := by decide +kernel
theorem d_M_look_100 : decode b_M_look 100 = .ok (.aload_n 0, 1) := by decide +kernel
theorem d_M_look_101 : decode b_M_look 101 = .ok (.invokevirtual 107, 3) := by decide +kernel
theorem d_M_look_104 : decode b_M_look 104 = .ok (.ireturn, 1) := by decide +kernel
theorem d_M_look_105 : decode b_M_look 105 = .ok (.aload_n 0, 1) := by decide +kernel
theorem d_M_look_106 : decode b_M_look 106 = .ok (.getfield 92, 3) := by decide +kernel
theorem d_M_look_109 : decode b_M_look 109 = .ok (.ireturn, 1) := by decide +kernel
theorem d_M_look_110 : decode b_M_look 110 = .ok (.iconst (-1), 1) := by decide +kernel
theorem d_M_look_111 : decode b_M_look 111 = .ok (.ireturn, 1) := by decide +kernel
theorem d_M_wayMany_0 : decode b_M_wayMany 0 = .ok (.iconst 0, 1) := by decide +kernel
theorem d_M_wayMany_1 : decode b_M_wayMany 1 = .ok (.istore_n 1, 1) := by decide +kernel
theorem d_M_wayMany_2 : decode b_M_wayMany 2 = .ok (.iconst 0, 1) := by decide +kernel
theorem d_M_wayMany_3 : decode b_M_wayMany 3 = .ok (.istore_n 2, 1) := by decide +kernel
theorem d_M_wayMany_4 : decode b_M_wayMany 4 = .ok (.iload_n 2, 1) := by decide +kernel
theorem d_M_wayMany_5 : decode b_M_wayMany 5 = .ok (.bipush 24, 2) := by decide +kernel
theorem d_M_wayMany_7 : decode b_M_wayMany 7 = .ok (.aload_n 0, 1) := by decide +kernel
theorem d_M_wayMany_8 : decode b_M_wayMany 8 = .ok (.getfield 13, 3) := by decide +kernel
theorem d_M_wayMany_11 : decode b_M_wayMany 11 = .ok (.imul, 1) := by decide +kernel
theorem d_M_wayMany_12 : decode b_M_wayMany 12 = .ok (.if_icmp .ge 38, 3) := by decide +kernel
theorem d_M_wayMany_15 : decode b_M_wayMany 15 = .ok (.iconst 0, 1) := by decide +kernel
theorem d_M_wayMany_16 : decode b_M_wayMany 16 = .ok (.istore_n 3, 1) := by decide +kernel
theorem d_M_wayMany_17 : decode b_M_wayMany 17 = .ok (.iload_n 3, 1) := by decide +kernel
theorem d_M_wayMany_18 : decode b_M_wayMany 18 = .ok (.aload_n 0, 1) := by decide +kernel
theorem d_M_wayMany_19 : decode b_M_wayMany 19 = .ok (.getfield 7, 3) := by decide +kernel
theorem d_M_wayMany_22 : decode b_M_wayMany 22 = .ok (.if_icmp .ge 22, 3) := by decide +kernel
theorem d_M_wayMany_25 : decode b_M_wayMany 25 = .ok (.iload_n 1, 1) := by decide +kernel
theorem d_M_wayMany_26 : decode b_M_wayMany 26 = .ok (.aload_n 0, 1) := by decide +kernel
theorem d_M_wayMany_27 : decode b_M_wayMany 27 = .ok (.getfield 16, 3) := by decide +kernel
theorem d_M_wayMany_30 : decode b_M_wayMany 30 = .ok (.iload_n 2, 1) := by decide +kernel
theorem d_M_wayMany_31 : decode b_M_wayMany 31 = .ok (.iaload, 1) := by decide +kernel
theorem d_M_wayMany_32 : decode b_M_wayMany 32 = .ok (.iload_n 3, 1) := by decide +kernel
theorem d_M_wayMany_33 : decode b_M_wayMany 33 = .ok (.ishr, 1) := by decide +kernel
theorem d_M_wayMany_34 : decode b_M_wayMany 34 = .ok (.iconst 1, 1) := by decide +kernel
theorem d_M_wayMany_35 : decode b_M_wayMany 35 = .ok (.iand, 1) := by decide +kernel
theorem d_M_wayMany_36 : decode b_M_wayMany 36 = .ok (.iadd, 1) := by decide +kernel
theorem d_M_wayMany_37 : decode b_M_wayMany 37 = .ok (.istore_n 1, 1) := by decide +kernel
theorem d_M_wayMany_38 : decode b_M_wayMany 38 = .ok (.iinc 3 1, 3) := by decide +kernel
theorem d_M_wayMany_41 : decode b_M_wayMany 41 = .ok (.goto (-24), 3) := by decide +kernel
theorem d_M_wayMany_44 : decode b_M_wayMany 44 = .ok (.iinc 2 1, 3) := by decide +kernel
theorem d_M_wayMany_47 : decode b_M_wayMany 47 = .ok (.goto (-43), 3) := by decide +kernel
theorem d_M_wayMany_50 : decode b_M_wayMany 50 = .ok (.iload_n 1, 1) := by decide +kernel
theorem d_M_wayMany_51 : decode b_M_wayMany 51 = .ok (.ireturn, 1) := by decide +kernel
theorem d_M_somewhere_0 : decode b_M_somewhere 0 = .ok (.iconst 0, 1) := by decide +kernel
theorem d_M_somewhere_1 : decode b_M_somewhere 1 = .ok (.istore_n 1, 1) := by decide +kernel
theorem d_M_somewhere_2 : decode b_M_somewhere 2 = .ok (.iconst 0, 1) := by decide +kernel
theorem d_M_somewhere_3 : decode b_M_somewhere 3 = .ok (.istore_n 2, 1) := by decide +kernel
theorem d_M_somewhere_4 : decode b_M_somewhere 4 = .ok (.iload_n 2, 1) := by decide +kernel
theorem d_M_somewhere_5 : decode b_M_somewhere 5 = .ok (.aload_n 0, 1) := by decide +kernel
theorem d_M_somewhere_6 : decode b_M_somewhere 6 = .ok (.getfield 85, 3) := by decide +kernel
theorem d_M_somewhere_9 : decode b_M_somewhere 9 = .ok (.if_icmp .ge 42, 3) := by decide +kernel
theorem d_M_somewhere_12 : decode b_M_somewhere 12 = .ok (.iconst 0, 1) := by decide +kernel
theorem d_M_somewhere_13 : decode b_M_somewhere 13 = .ok (.istore_n 3, 1) := by decide +kernel
theorem d_M_somewhere_14 : decode b_M_somewhere 14 = .ok (.iload_n 3, 1) := by decide +kernel
theorem d_M_somewhere_15 : decode b_M_somewhere 15 = .ok (.aload_n 0, 1) := by decide +kernel
theorem d_M_somewhere_16 : decode b_M_somewhere 16 = .ok (.getfield 76, 3) := by decide +kernel
theorem d_M_somewhere_19 : decode b_M_somewhere 19 = .ok (.if_icmp .ge 26, 3) := by decide +kernel
theorem d_M_somewhere_22 : decode b_M_somewhere 22 = .ok (.iload_n 1, 1) := by decide +kernel
theorem d_M_somewhere_23 : decode b_M_somewhere 23 = .ok (.aload_n 0, 1) := by decide +kernel
theorem d_M_somewhere_24 : decode b_M_somewhere 24 = .ok (.iload_n 2, 1) := by decide +kernel
theorem d_M_somewhere_25 : decode b_M_somewhere 25 = .ok (.iload_n 3, 1) := by decide +kernel
theorem d_M_somewhere_26 : decode b_M_somewhere 26 = .ok (.invokevirtual 95, 3) := by decide +kernel
theorem d_M_somewhere_29 : decode b_M_somewhere 29 = .ok (.ifCond .lt 7, 3) := by decide +kernel
theorem d_M_somewhere_32 : decode b_M_somewhere 32 = .ok (.iconst 1, 1) := by decide +kernel
theorem d_M_somewhere_33 : decode b_M_somewhere 33 = .ok (.goto 4, 3) := by decide +kernel
theorem d_M_somewhere_36 : decode b_M_somewhere 36 = .ok (.iconst 0, 1) := by decide +kernel
theorem d_M_somewhere_37 : decode b_M_somewhere 37 = .ok (.iadd, 1) := by decide +kernel
theorem d_M_somewhere_38 : decode b_M_somewhere 38 = .ok (.istore_n 1, 1) := by decide +kernel
theorem d_M_somewhere_39 : decode b_M_somewhere 39 = .ok (.iinc 3 1, 3) := by decide +kernel
theorem d_M_somewhere_42 : decode b_M_somewhere 42 = .ok (.goto (-28), 3) := by decide +kernel
theorem d_M_somewhere_45 : decode b_M_somewhere 45 = .ok (.iinc 2 1, 3) := by decide +kernel
theorem d_M_somewhere_48 : decode b_M_somewhere 48 = .ok (.goto (-44), 3) := by decide +kernel
theorem d_M_somewhere_51 : decode b_M_somewhere 51 = .ok (.iload_n 1, 1) := by decide +kernel
theorem d_M_somewhere_52 : decode b_M_somewhere 52 = .ok (.ireturn, 1) := by decide +kernel
theorem d_M_longest_0 : decode b_M_longest 0 = .ok (.iconst 0, 1) := by decide +kernel
theorem d_M_longest_1 : decode b_M_longest 1 = .ok (.istore_n 1, 1) := by decide +kernel
theorem d_M_longest_2 : decode b_M_longest 2 = .ok (.iconst 0, 1) := by decide +kernel
theorem d_M_longest_3 : decode b_M_longest 3 = .ok (.istore_n 2, 1) := by decide +kernel
theorem d_M_longest_4 : decode b_M_longest 4 = .ok (.iload_n 2, 1) := by decide +kernel
theorem d_M_longest_5 : decode b_M_longest 5 = .ok (.aload_n 0, 1) := by decide +kernel
theorem d_M_longest_6 : decode b_M_longest 6 = .ok (.getfield 85, 3) := by decide +kernel
theorem d_M_longest_9 : decode b_M_longest 9 = .ok (.if_icmp .ge 58, 3) := by decide +kernel
theorem d_M_longest_12 : decode b_M_longest 12 = .ok (.iconst 0, 1) := by decide +kernel
theorem d_M_longest_13 : decode b_M_longest 13 = .ok (.istore_n 3, 1) := by decide +kernel
theorem d_M_longest_14 : decode b_M_longest 14 = .ok (.iload_n 3, 1) := by decide +kernel
theorem d_M_longest_15 : decode b_M_longest 15 = .ok (.iload_n 2, 1) := by decide +kernel
theorem d_M_longest_16 : decode b_M_longest 16 = .ok (.if_icmp .ge 45, 3) := by decide +kernel
theorem d_M_longest_19 : decode b_M_longest 19 = .ok (.aload_n 0, 1) := by decide +kernel
theorem d_M_longest_20 : decode b_M_longest 20 = .ok (.getfield 26, 3) := by decide +kernel
theorem d_M_longest_23 : decode b_M_longest 23 = .ok (.bipush 120, 2) := by decide +kernel
theorem d_M_longest_25 : decode b_M_longest 25 = .ok (.aload_n 0, 1) := by decide +kernel
theorem d_M_longest_26 : decode b_M_longest 26 = .ok (.getfield 35, 3) := by decide +kernel
theorem d_M_longest_29 : decode b_M_longest 29 = .ok (.iload_n 2, 1) := by decide +kernel
theorem d_M_longest_30 : decode b_M_longest 30 = .ok (.iaload, 1) := by decide +kernel
theorem d_M_longest_31 : decode b_M_longest 31 = .ok (.imul, 1) := by decide +kernel
theorem d_M_longest_32 : decode b_M_longest 32 = .ok (.aload_n 0, 1) := by decide +kernel
theorem d_M_longest_33 : decode b_M_longest 33 = .ok (.getfield 35, 3) := by decide +kernel
theorem d_M_longest_36 : decode b_M_longest 36 = .ok (.iload_n 3, 1) := by decide +kernel
theorem d_M_longest_37 : decode b_M_longest 37 = .ok (.iaload, 1) := by decide +kernel
theorem d_M_longest_38 : decode b_M_longest 38 = .ok (.iadd, 1) := by decide +kernel
theorem d_M_longest_39 : decode b_M_longest 39 = .ok (.iaload, 1) := by decide +kernel
theorem d_M_longest_40 : decode b_M_longest 40 = .ok (.istore 4, 2) := by decide +kernel
theorem d_M_longest_42 : decode b_M_longest 42 = .ok (.iload 4, 2) := by decide +kernel
theorem d_M_longest_44 : decode b_M_longest 44 = .ok (.iload_n 1, 1) := by decide +kernel
theorem d_M_longest_45 : decode b_M_longest 45 = .ok (.if_icmp .le 8, 3) := by decide +kernel
theorem d_M_longest_48 : decode b_M_longest 48 = .ok (.iload 4, 2) := by decide +kernel
theorem d_M_longest_50 : decode b_M_longest 50 = .ok (.goto 4, 3) := by decide +kernel
theorem d_M_longest_53 : decode b_M_longest 53 = .ok (.iload_n 1, 1) := by decide +kernel
theorem d_M_longest_54 : decode b_M_longest 54 = .ok (.istore_n 1, 1) := by decide +kernel
theorem d_M_longest_55 : decode b_M_longest 55 = .ok (.iinc 3 1, 3) := by decide +kernel
theorem d_M_longest_58 : decode b_M_longest 58 = .ok (.goto (-44), 3) := by decide +kernel
theorem d_M_longest_61 : decode b_M_longest 61 = .ok (.iinc 2 1, 3) := by decide +kernel
theorem d_M_longest_64 : decode b_M_longest 64 = .ok (.goto (-60), 3) := by decide +kernel
theorem d_M_longest_67 : decode b_M_longest 67 = .ok (.iload_n 1, 1) := by decide +kernel
theorem d_M_longest_68 : decode b_M_longest 68 = .ok (.ireturn, 1) := by decide +kernel
theorem d_G_init_0 : decode b_G_init 0 = .ok (.aload_n 0, 1) := by decide +kernel
theorem d_G_init_1 : decode b_G_init 1 = .ok (.invokespecial 3, 3) := by decide +kernel
theorem d_G_init_4 : decode b_G_init 4 = .ok (.aload_n 0, 1) := by decide +kernel
theorem d_G_init_5 : decode b_G_init 5 = .ok (.iconst 1, 1) := by decide +kernel
theorem d_G_init_6 : decode b_G_init 6 = .ok (.putfield 9, 3) := by decide +kernel
theorem d_G_init_9 : decode b_G_init 9 = .ok (.aload_n 0, 1) := by decide +kernel
theorem d_G_init_10 : decode b_G_init 10 = .ok (.iconst 1, 1) := by decide +kernel
theorem d_G_init_11 : decode b_G_init 11 = .ok (.putfield 15, 3) := by decide +kernel
theorem d_G_init_14 : decode b_G_init 14 = .ok (.aload_n 0, 1) := by decide +kernel
theorem d_G_init_15 : decode b_G_init 15 = .ok (.iconst 0, 1) := by decide +kernel
theorem d_G_init_16 : decode b_G_init 16 = .ok (.putfield 18, 3) := by decide +kernel
theorem d_G_init_19 : decode b_G_init 19 = .ok (.aload_n 0, 1) := by decide +kernel
theorem d_G_init_20 : decode b_G_init 20 = .ok (.sipush 960, 3) := by decide +kernel
theorem d_G_init_23 : decode b_G_init 23 = .ok (.newarray .int, 2) := by decide +kernel
theorem d_G_init_25 : decode b_G_init 25 = .ok (.putfield 21, 3) := by decide +kernel
theorem d_G_init_28 : decode b_G_init 28 = .ok (.return_, 1) := by decide +kernel
theorem d_T_init_0 : decode b_T_init 0 = .ok (.aload_n 0, 1) := by decide +kernel
theorem d_T_init_1 : decode b_T_init 1 = .ok (.invokespecial 3, 3) := by decide +kernel
theorem d_T_init_4 : decode b_T_init 4 = .ok (.aload_n 0, 1) := by decide +kernel
theorem d_T_init_5 : decode b_T_init 5 = .ok (.iconst 1, 1) := by decide +kernel
theorem d_T_init_6 : decode b_T_init 6 = .ok (.putfield 9, 3) := by decide +kernel
theorem d_T_init_9 : decode b_T_init 9 = .ok (.aload_n 0, 1) := by decide +kernel
theorem d_T_init_10 : decode b_T_init 10 = .ok (.iconst 1, 1) := by decide +kernel
theorem d_T_init_11 : decode b_T_init 11 = .ok (.putfield 15, 3) := by decide +kernel
theorem d_T_init_14 : decode b_T_init 14 = .ok (.aload_n 0, 1) := by decide +kernel
theorem d_T_init_15 : decode b_T_init 15 = .ok (.iconst 1, 1) := by decide +kernel
theorem d_T_init_16 : decode b_T_init 16 = .ok (.putfield 18, 3) := by decide +kernel
theorem d_T_init_19 : decode b_T_init 19 = .ok (.aload_n 0, 1) := by decide +kernel
theorem d_T_init_20 : decode b_T_init 20 = .ok (.iconst 0, 1) := by decide +kernel
theorem d_T_init_21 : decode b_T_init 21 = .ok (.putfield 21, 3) := by decide +kernel
theorem d_T_init_24 : decode b_T_init 24 = .ok (.aload_n 0, 1) := by decide +kernel
theorem d_T_init_25 : decode b_T_init 25 = .ok (.bipush 120, 2) := by decide +kernel
theorem d_T_init_27 : decode b_T_init 27 = .ok (.newarray .int, 2) := by decide +kernel
theorem d_T_init_29 : decode b_T_init 29 = .ok (.putfield 24, 3) := by decide +kernel
theorem d_T_init_32 : decode b_T_init 32 = .ok (.aload_n 0, 1) := by decide +kernel
theorem d_T_init_33 : decode b_T_init 33 = .ok (.bipush 120, 2) := by decide +kernel
theorem d_T_init_35 : decode b_T_init 35 = .ok (.newarray .int, 2) := by decide +kernel
theorem d_T_init_37 : decode b_T_init 37 = .ok (.putfield 28, 3) := by decide +kernel
theorem d_T_init_40 : decode b_T_init 40 = .ok (.aload_n 0, 1) := by decide +kernel
theorem d_T_init_41 : decode b_T_init 41 = .ok (.sipush 4800, 3) := by decide +kernel
theorem d_T_init_44 : decode b_T_init 44 = .ok (.newarray .int, 2) := by decide +kernel
theorem d_T_init_46 : decode b_T_init 46 = .ok (.putfield 31, 3) := by decide +kernel
theorem d_T_init_49 : decode b_T_init 49 = .ok (.aload_n 0, 1) := by decide +kernel
theorem d_T_init_50 : decode b_T_init 50 = .ok (.bipush 120, 2) := by decide +kernel
theorem d_T_init_52 : decode b_T_init 52 = .ok (.newarray .int, 2) := by decide +kernel
theorem d_T_init_54 : decode b_T_init 54 = .ok (.putfield 34, 3) := by decide +kernel
theorem d_T_init_57 : decode b_T_init 57 = .ok (.aload_n 0, 1) := by decide +kernel
theorem d_T_init_58 : decode b_T_init 58 = .ok (.bipush 120, 2) := by decide +kernel
theorem d_T_init_60 : decode b_T_init 60 = .ok (.newarray .int, 2) := by decide +kernel
theorem d_T_init_62 : decode b_T_init 62 = .ok (.putfield 37, 3) := by decide +kernel
theorem d_T_init_65 : decode b_T_init 65 = .ok (.aload_n 0, 1) := by decide +kernel
theorem d_T_init_66 : decode b_T_init 66 = .ok (.bipush 120, 2) := by decide +kernel
theorem d_T_init_68 : decode b_T_init 68 = .ok (.newarray .int, 2) := by decide +kernel
theorem d_T_init_70 : decode b_T_init 70 = .ok (.putfield 40, 3) := by decide +kernel
theorem d_T_init_73 : decode b_T_init 73 = .ok (.aload_n 0, 1) := by decide +kernel
theorem d_T_init_74 : decode b_T_init 74 = .ok (.bipush 120, 2) := by decide +kernel
theorem d_T_init_76 : decode b_T_init 76 = .ok (.newarray .int, 2) := by decide +kernel
theorem d_T_init_78 : decode b_T_init 78 = .ok (.putfield 43, 3) := by decide +kernel
theorem d_T_init_81 : decode b_T_init 81 = .ok (.aload_n 0, 1) := by decide +kernel
theorem d_T_init_82 : decode b_T_init 82 = .ok (.sipush 7140, 3) := by decide +kernel
theorem d_T_init_85 : decode b_T_init 85 = .ok (.newarray .int, 2) := by decide +kernel
theorem d_T_init_87 : decode b_T_init 87 = .ok (.putfield 46, 3) := by decide +kernel
theorem d_T_init_90 : decode b_T_init 90 = .ok (.aload_n 0, 1) := by decide +kernel
theorem d_T_init_91 : decode b_T_init 91 = .ok (.getfield 24, 3) := by decide +kernel
theorem d_T_init_94 : decode b_T_init 94 = .ok (.iconst 0, 1) := by decide +kernel
theorem d_T_init_95 : decode b_T_init 95 = .ok (.iconst 1, 1) := by decide +kernel
theorem d_T_init_96 : decode b_T_init 96 = .ok (.iastore, 1) := by decide +kernel
theorem d_T_init_97 : decode b_T_init 97 = .ok (.aload_n 0, 1) := by decide +kernel
theorem d_T_init_98 : decode b_T_init 98 = .ok (.getfield 31, 3) := by decide +kernel
theorem d_T_init_101 : decode b_T_init 101 = .ok (.iconst 0, 1) := by decide +kernel
theorem d_T_init_102 : decode b_T_init 102 = .ok (.iconst (-1), 1) := by decide +kernel
theorem d_T_init_103 : decode b_T_init 103 = .ok (.iastore, 1) := by decide +kernel
theorem d_T_init_104 : decode b_T_init 104 = .ok (.return_, 1) := by decide +kernel
theorem d_W_init_0 : decode b_W_init 0 = .ok (.aload_n 0, 1) := by decide +kernel
theorem d_W_init_1 : decode b_W_init 1 = .ok (.invokespecial 3, 3) := by decide +kernel
theorem d_W_init_4 : decode b_W_init 4 = .ok (.aload_n 0, 1) := by decide +kernel
theorem d_W_init_5 : decode b_W_init 5 = .ok (.new 9, 3) := by decide +kernel
theorem d_W_init_8 : decode b_W_init 8 = .ok (.dup, 1) := by decide +kernel
theorem d_W_init_9 : decode b_W_init 9 = .ok (.invokespecial 11, 3) := by decide +kernel
theorem d_W_init_12 : decode b_W_init 12 = .ok (.putfield 12, 3) := by decide +kernel
theorem d_W_init_15 : decode b_W_init 15 = .ok (.aload_n 0, 1) := by decide +kernel
theorem d_W_init_16 : decode b_W_init 16 = .ok (.new 16, 3) := by decide +kernel
theorem d_W_init_19 : decode b_W_init 19 = .ok (.dup, 1) := by decide +kernel
theorem d_W_init_20 : decode b_W_init 20 = .ok (.invokespecial 18, 3) := by decide +kernel
theorem d_W_init_23 : decode b_W_init 23 = .ok (.putfield 19, 3) := by decide +kernel
theorem d_W_init_26 : decode b_W_init 26 = .ok (.aload_n 0, 1) := by decide +kernel
theorem d_W_init_27 : decode b_W_init 27 = .ok (.iconst 0, 1) := by decide +kernel
theorem d_W_init_28 : decode b_W_init 28 = .ok (.putfield 23, 3) := by decide +kernel
theorem d_W_init_31 : decode b_W_init 31 = .ok (.return_, 1) := by decide +kernel
theorem d_M_init_0 : decode b_M_init 0 = .ok (.aload_n 0, 1) := by decide +kernel
theorem d_M_init_1 : decode b_M_init 1 = .ok (.invokespecial 1, 3) := by decide +kernel
theorem d_M_init_4 : decode b_M_init 4 = .ok (.aload_n 0, 1) := by decide +kernel
theorem d_M_init_5 : decode b_M_init 5 = .ok (.iconst 1, 1) := by decide +kernel
end
section
theorem d_M_init_6 : decode b_M_init 6 = .ok (.putfield 7, 3) := by decide +kernel
theorem d_M_init_9 : decode b_M_init 9 = .ok (.aload_n 0, 1) := by decide +kernel
theorem d_M_init_10 : decode b_M_init 10 = .ok (.iconst 1, 1) := by decide +kernel
theorem d_M_init_11 : decode b_M_init 11 = .ok (.putfield 13, 3) := by decide +kernel
theorem d_M_init_14 : decode b_M_init 14 = .ok (.aload_n 0, 1) := by decide +kernel
theorem d_M_init_15 : decode b_M_init 15 = .ok (.sipush 960, 3) := by decide +kernel
theorem d_M_init_18 : decode b_M_init 18 = .ok (.newarray .int, 2) := by decide +kernel
theorem d_M_init_20 : decode b_M_init 20 = .ok (.putfield 16, 3) := by decide +kernel
theorem d_M_init_23 : decode b_M_init 23 = .ok (.aload_n 0, 1) := by decide +kernel
theorem d_M_init_24 : decode b_M_init 24 = .ok (.bipush 120, 2) := by decide +kernel
theorem d_M_init_26 : decode b_M_init 26 = .ok (.newarray .int, 2) := by decide +kernel
theorem d_M_init_28 : decode b_M_init 28 = .ok (.putfield 20, 3) := by decide +kernel
theorem d_M_init_31 : decode b_M_init 31 = .ok (.aload_n 0, 1) := by decide +kernel
theorem d_M_init_32 : decode b_M_init 32 = .ok (.sipush 4800, 3) := by decide +kernel
theorem d_M_init_35 : decode b_M_init 35 = .ok (.newarray .int, 2) := by decide +kernel
theorem d_M_init_37 : decode b_M_init 37 = .ok (.putfield 23, 3) := by decide +kernel
theorem d_M_init_40 : decode b_M_init 40 = .ok (.aload_n 0, 1) := by decide +kernel
theorem d_M_init_41 : decode b_M_init 41 = .ok (.sipush 14400, 3) := by decide +kernel
theorem d_M_init_44 : decode b_M_init 44 = .ok (.newarray .int, 2) := by decide +kernel
theorem d_M_init_46 : decode b_M_init 46 = .ok (.putfield 26, 3) := by decide +kernel
theorem d_M_init_49 : decode b_M_init 49 = .ok (.aload_n 0, 1) := by decide +kernel
theorem d_M_init_50 : decode b_M_init 50 = .ok (.sipush 14400, 3) := by decide +kernel
theorem d_M_init_53 : decode b_M_init 53 = .ok (.newarray .int, 2) := by decide +kernel
theorem d_M_init_55 : decode b_M_init 55 = .ok (.putfield 29, 3) := by decide +kernel
theorem d_M_init_58 : decode b_M_init 58 = .ok (.aload_n 0, 1) := by decide +kernel
theorem d_M_init_59 : decode b_M_init 59 = .ok (.bipush 120, 2) := by decide +kernel
theorem d_M_init_61 : decode b_M_init 61 = .ok (.newarray .int, 2) := by decide +kernel
theorem d_M_init_63 : decode b_M_init 63 = .ok (.putfield 32, 3) := by decide +kernel
theorem d_M_init_66 : decode b_M_init 66 = .ok (.aload_n 0, 1) := by decide +kernel
theorem d_M_init_67 : decode b_M_init 67 = .ok (.bipush 120, 2) := by decide +kernel
theorem d_M_init_69 : decode b_M_init 69 = .ok (.newarray .int, 2) := by decide +kernel
theorem d_M_init_71 : decode b_M_init 71 = .ok (.putfield 35, 3) := by decide +kernel
theorem d_M_init_74 : decode b_M_init 74 = .ok (.aload_n 0, 1) := by decide +kernel
theorem d_M_init_75 : decode b_M_init 75 = .ok (.bipush 121, 2) := by decide +kernel
theorem d_M_init_77 : decode b_M_init 77 = .ok (.newarray .int, 2) := by decide +kernel
theorem d_M_init_79 : decode b_M_init 79 = .ok (.putfield 38, 3) := by decide +kernel
theorem d_M_init_82 : decode b_M_init 82 = .ok (.aload_n 0, 1) := by decide +kernel
theorem d_M_init_83 : decode b_M_init 83 = .ok (.sipush 4800, 3) := by decide +kernel
theorem d_M_init_86 : decode b_M_init 86 = .ok (.newarray .int, 2) := by decide +kernel
theorem d_M_init_88 : decode b_M_init 88 = .ok (.putfield 41, 3) := by decide +kernel
theorem d_M_init_91 : decode b_M_init 91 = .ok (.aload_n 0, 1) := by decide +kernel
theorem d_M_init_92 : decode b_M_init 92 = .ok (.invokevirtual 44, 3) := by decide +kernel
theorem d_M_init_95 : decode b_M_init 95 = .ok (.istore_n 1, 1) := by decide +kernel
theorem d_M_init_96 : decode b_M_init 96 = .ok (.return_, 1) := by decide +kernel
end
section
theorem d_law_0 : decode code 0 = .ok (.new 7, 3) := by decide +kernel
theorem d_law_3 : decode code 3 = .ok (.dup, 1) := by decide +kernel
theorem d_law_4 : decode code 4 = .ok (.invokespecial 9, 3) := by decide +kernel
theorem d_law_7 : decode code 7 = .ok (.astore_n 1, 1) := by decide +kernel
theorem d_law_8 : decode code 8 = .ok (.new 10, 3) := by decide +kernel
theorem d_law_11 : decode code 11 = .ok (.dup, 1) := by decide +kernel
theorem d_law_12 : decode code 12 = .ok (.invokespecial 12, 3) := by decide +kernel
theorem d_law_15 : decode code 15 = .ok (.astore_n 2, 1) := by decide +kernel
theorem d_law_16 : decode code 16 = .ok (.iconst 0, 1) := by decide +kernel
theorem d_law_17 : decode code 17 = .ok (.istore_n 3, 1) := by decide +kernel
theorem d_law_18 : decode code 18 = .ok (.iload_n 3, 1) := by decide +kernel
theorem d_law_19 : decode code 19 = .ok (.aload_n 0, 1) := by decide +kernel
theorem d_law_20 : decode code 20 = .ok (.arraylength, 1) := by decide +kernel
theorem d_law_21 : decode code 21 = .ok (.iconst 5, 1) := by decide +kernel
theorem d_law_22 : decode code 22 = .ok (.isub, 1) := by decide +kernel
theorem d_law_23 : decode code 23 = .ok (.if_icmp .gt 528, 3) := by decide +kernel
theorem d_law_26 : decode code 26 = .ok (.aload_n 0, 1) := by decide +kernel
theorem d_law_27 : decode code 27 = .ok (.iload_n 3, 1) := by decide +kernel
theorem d_law_28 : decode code 28 = .ok (.iaload, 1) := by decide +kernel
theorem d_law_29 : decode code 29 = .ok (.bipush 15, 2) := by decide +kernel
theorem d_law_31 : decode code 31 = .ok (.iand, 1) := by decide +kernel
theorem d_law_32 : decode code 32 = .ok (.tableswitch 513 0 14 #[76, 109, 178, 211, 222, 245, 258, 269, 292, 325, 348, 371, 404, 447, 490], 76) := by decide +kernel
theorem d_law_108 : decode code 108 = .ok (.aload_n 1, 1) := by decide +kernel
theorem d_law_109 : decode code 109 = .ok (.aload_n 0, 1) := by decide +kernel
theorem d_law_110 : decode code 110 = .ok (.iload_n 3, 1) := by decide +kernel
theorem d_law_111 : decode code 111 = .ok (.iconst 1, 1) := by decide +kernel
theorem d_law_112 : decode code 112 = .ok (.iadd, 1) := by decide +kernel
theorem d_law_113 : decode code 113 = .ok (.iaload, 1) := by decide +kernel
theorem d_law_114 : decode code 114 = .ok (.aload_n 0, 1) := by decide +kernel
theorem d_law_115 : decode code 115 = .ok (.iload_n 3, 1) := by decide +kernel
theorem d_law_116 : decode code 116 = .ok (.iconst 2, 1) := by decide +kernel
theorem d_law_117 : decode code 117 = .ok (.iadd, 1) := by decide +kernel
theorem d_law_118 : decode code 118 = .ok (.iaload, 1) := by decide +kernel
theorem d_law_119 : decode code 119 = .ok (.invokevirtual 13, 3) := by decide +kernel
theorem d_law_122 : decode code 122 = .ok (.aload_n 2, 1) := by decide +kernel
theorem d_law_123 : decode code 123 = .ok (.aload_n 0, 1) := by decide +kernel
theorem d_law_124 : decode code 124 = .ok (.iload_n 3, 1) := by decide +kernel
theorem d_law_125 : decode code 125 = .ok (.iconst 1, 1) := by decide +kernel
theorem d_law_126 : decode code 126 = .ok (.iadd, 1) := by decide +kernel
theorem d_law_127 : decode code 127 = .ok (.iaload, 1) := by decide +kernel
theorem d_law_128 : decode code 128 = .ok (.aload_n 0, 1) := by decide +kernel
theorem d_law_129 : decode code 129 = .ok (.iload_n 3, 1) := by decide +kernel
theorem d_law_130 : decode code 130 = .ok (.iconst 2, 1) := by decide +kernel
theorem d_law_131 : decode code 131 = .ok (.iadd, 1) := by decide +kernel
theorem d_law_132 : decode code 132 = .ok (.iaload, 1) := by decide +kernel
theorem d_law_133 : decode code 133 = .ok (.invokevirtual 17, 3) := by decide +kernel
theorem d_law_136 : decode code 136 = .ok (.if_icmp .eq 409, 3) := by decide +kernel
theorem d_law_141 : decode code 141 = .ok (.aload_n 1, 1) := by decide +kernel
theorem d_law_142 : decode code 142 = .ok (.aload_n 0, 1) := by decide +kernel
theorem d_law_143 : decode code 143 = .ok (.iload_n 3, 1) := by decide +kernel
theorem d_law_144 : decode code 144 = .ok (.iconst 1, 1) := by decide +kernel
theorem d_law_145 : decode code 145 = .ok (.iadd, 1) := by decide +kernel
theorem d_law_146 : decode code 146 = .ok (.iaload, 1) := by decide +kernel
theorem d_law_147 : decode code 147 = .ok (.aload_n 0, 1) := by decide +kernel
theorem d_law_148 : decode code 148 = .ok (.iload_n 3, 1) := by decide +kernel
theorem d_law_149 : decode code 149 = .ok (.iconst 2, 1) := by decide +kernel
theorem d_law_150 : decode code 150 = .ok (.iadd, 1) := by decide +kernel
theorem d_law_151 : decode code 151 = .ok (.iaload, 1) := by decide +kernel
theorem d_law_152 : decode code 152 = .ok (.aload_n 0, 1) := by decide +kernel
theorem d_law_153 : decode code 153 = .ok (.iload_n 3, 1) := by decide +kernel
theorem d_law_154 : decode code 154 = .ok (.iconst 3, 1) := by decide +kernel
theorem d_law_155 : decode code 155 = .ok (.iadd, 1) := by decide +kernel
theorem d_law_156 : decode code 156 = .ok (.iaload, 1) := by decide +kernel
theorem d_law_157 : decode code 157 = .ok (.aload_n 0, 1) := by decide +kernel
theorem d_law_158 : decode code 158 = .ok (.iload_n 3, 1) := by decide +kernel
theorem d_law_159 : decode code 159 = .ok (.iconst 4, 1) := by decide +kernel
theorem d_law_160 : decode code 160 = .ok (.iadd, 1) := by decide +kernel
theorem d_law_161 : decode code 161 = .ok (.iaload, 1) := by decide +kernel
theorem d_law_162 : decode code 162 = .ok (.ifCond .eq 7, 3) := by decide +kernel
theorem d_law_165 : decode code 165 = .ok (.iconst 1, 1) := by decide +kernel
theorem d_law_166 : decode code 166 = .ok (.goto 4, 3) := by decide +kernel
theorem d_law_169 : decode code 169 = .ok (.iconst 0, 1) := by decide +kernel
theorem d_law_170 : decode code 170 = .ok (.invokevirtual 18, 3) := by decide +kernel
theorem d_law_173 : decode code 173 = .ok (.aload_n 2, 1) := by decide +kernel
theorem d_law_174 : decode code 174 = .ok (.aload_n 0, 1) := by decide +kernel
theorem d_law_175 : decode code 175 = .ok (.iload_n 3, 1) := by decide +kernel
theorem d_law_176 : decode code 176 = .ok (.iconst 1, 1) := by decide +kernel
theorem d_law_177 : decode code 177 = .ok (.iadd, 1) := by decide +kernel
theorem d_law_178 : decode code 178 = .ok (.iaload, 1) := by decide +kernel
theorem d_law_179 : decode code 179 = .ok (.aload_n 0, 1) := by decide +kernel
theorem d_law_180 : decode code 180 = .ok (.iload_n 3, 1) := by decide +kernel
theorem d_law_181 : decode code 181 = .ok (.iconst 2, 1) := by decide +kernel
theorem d_law_182 : decode code 182 = .ok (.iadd, 1) := by decide +kernel
theorem d_law_183 : decode code 183 = .ok (.iaload, 1) := by decide +kernel
theorem d_law_184 : decode code 184 = .ok (.aload_n 0, 1) := by decide +kernel
theorem d_law_185 : decode code 185 = .ok (.iload_n 3, 1) := by decide +kernel
theorem d_law_186 : decode code 186 = .ok (.iconst 3, 1) := by decide +kernel
theorem d_law_187 : decode code 187 = .ok (.iadd, 1) := by decide +kernel
theorem d_law_188 : decode code 188 = .ok (.iaload, 1) := by decide +kernel
theorem d_law_189 : decode code 189 = .ok (.aload_n 0, 1) := by decide +kernel
theorem d_law_190 : decode code 190 = .ok (.iload_n 3, 1) := by decide +kernel
theorem d_law_191 : decode code 191 = .ok (.iconst 4, 1) := by decide +kernel
theorem d_law_192 : decode code 192 = .ok (.iadd, 1) := by decide +kernel
theorem d_law_193 : decode code 193 = .ok (.iaload, 1) := by decide +kernel
theorem d_law_194 : decode code 194 = .ok (.ifCond .eq 7, 3) := by decide +kernel
theorem d_law_197 : decode code 197 = .ok (.iconst 1, 1) := by decide +kernel
theorem d_law_198 : decode code 198 = .ok (.goto 4, 3) := by decide +kernel
theorem d_law_201 : decode code 201 = .ok (.iconst 0, 1) := by decide +kernel
theorem d_law_202 : decode code 202 = .ok (.invokevirtual 22, 3) := by decide +kernel
theorem d_law_205 : decode code 205 = .ok (.if_icmp .eq 340, 3) := by decide +kernel
theorem d_law_210 : decode code 210 = .ok (.aload_n 1, 1) := by decide +kernel
theorem d_law_211 : decode code 211 = .ok (.aload_n 0, 1) := by decide +kernel
theorem d_law_212 : decode code 212 = .ok (.iload_n 3, 1) := by decide +kernel
theorem d_law_213 : decode code 213 = .ok (.iconst 1, 1) := by decide +kernel
theorem d_law_214 : decode code 214 = .ok (.iadd, 1) := by decide +kernel
theorem d_law_215 : decode code 215 = .ok (.iaload, 1) := by decide +kernel
theorem d_law_216 : decode code 216 = .ok (.aload_n 0, 1) := by decide +kernel
theorem d_law_217 : decode code 217 = .ok (.iload_n 3, 1) := by decide +kernel
theorem d_law_218 : decode code 218 = .ok (.iconst 2, 1) := by decide +kernel
theorem d_law_219 : decode code 219 = .ok (.iadd, 1) := by decide +kernel
theorem d_law_220 : decode code 220 = .ok (.iaload, 1) := by decide +kernel
theorem d_law_221 : decode code 221 = .ok (.invokevirtual 23, 3) := by decide +kernel
theorem d_law_224 : decode code 224 = .ok (.aload_n 2, 1) := by decide +kernel
theorem d_law_225 : decode code 225 = .ok (.aload_n 0, 1) := by decide +kernel
theorem d_law_226 : decode code 226 = .ok (.iload_n 3, 1) := by decide +kernel
theorem d_law_227 : decode code 227 = .ok (.iconst 1, 1) := by decide +kernel
theorem d_law_228 : decode code 228 = .ok (.iadd, 1) := by decide +kernel
theorem d_law_229 : decode code 229 = .ok (.iaload, 1) := by decide +kernel
theorem d_law_230 : decode code 230 = .ok (.aload_n 0, 1) := by decide +kernel
theorem d_law_231 : decode code 231 = .ok (.iload_n 3, 1) := by decide +kernel
theorem d_law_232 : decode code 232 = .ok (.iconst 2, 1) := by decide +kernel
theorem d_law_233 : decode code 233 = .ok (.iadd, 1) := by decide +kernel
theorem d_law_234 : decode code 234 = .ok (.iaload, 1) := by decide +kernel
theorem d_law_235 : decode code 235 = .ok (.invokevirtual 27, 3) := by decide +kernel
theorem d_law_238 : decode code 238 = .ok (.if_icmp .eq 307, 3) := by decide +kernel
theorem d_law_243 : decode code 243 = .ok (.aload_n 1, 1) := by decide +kernel
theorem d_law_244 : decode code 244 = .ok (.invokevirtual 28, 3) := by decide +kernel
theorem d_law_247 : decode code 247 = .ok (.aload_n 2, 1) := by decide +kernel
theorem d_law_248 : decode code 248 = .ok (.invokevirtual 31, 3) := by decide +kernel
theorem d_law_251 : decode code 251 = .ok (.goto 294, 3) := by decide +kernel
theorem d_law_254 : decode code 254 = .ok (.aload_n 1, 1) := by decide +kernel
theorem d_law_255 : decode code 255 = .ok (.aload_n 0, 1) := by decide +kernel
theorem d_law_256 : decode code 256 = .ok (.iload_n 3, 1) := by decide +kernel
theorem d_law_257 : decode code 257 = .ok (.iconst 1, 1) := by decide +kernel
theorem d_law_258 : decode code 258 = .ok (.iadd, 1) := by decide +kernel
theorem d_law_259 : decode code 259 = .ok (.iaload, 1) := by decide +kernel
theorem d_law_260 : decode code 260 = .ok (.invokevirtual 32, 3) := by decide +kernel
theorem d_law_263 : decode code 263 = .ok (.aload_n 2, 1) := by decide +kernel
theorem d_law_264 : decode code 264 = .ok (.aload_n 0, 1) := by decide +kernel
theorem d_law_265 : decode code 265 = .ok (.iload_n 3, 1) := by decide +kernel
theorem d_law_266 : decode code 266 = .ok (.iconst 1, 1) := by decide +kernel
theorem d_law_267 : decode code 267 = .ok (.iadd, 1) := by decide +kernel
theorem d_law_268 : decode code 268 = .ok (.iaload, 1) := by decide +kernel
theorem d_law_269 : decode code 269 = .ok (.invokevirtual 36, 3) := by decide +kernel
theorem d_law_272 : decode code 272 = .ok (.if_icmp .eq 273, 3) := by decide +kernel
theorem d_law_277 : decode code 277 = .ok (.aload_n 1, 1) := by decide +kernel
theorem d_law_278 : decode code 278 = .ok (.invokevirtual 37, 3) := by decide +kernel
theorem d_law_281 : decode code 281 = .ok (.aload_n 2, 1) := by decide +kernel
theorem d_law_282 : decode code 282 = .ok (.invokevirtual 41, 3) := by decide +kernel
theorem d_law_285 : decode code 285 = .ok (.if_icmp .eq 260, 3) := by decide +kernel
end
section
theorem d_law_290 : decode code 290 = .ok (.aload_n 1, 1) := by decide +kernel
theorem d_law_291 : decode code 291 = .ok (.invokevirtual 42, 3) := by decide +kernel
theorem d_law_294 : decode code 294 = .ok (.aload_n 2, 1) := by decide +kernel
theorem d_law_295 : decode code 295 = .ok (.invokevirtual 45, 3) := by decide +kernel
theorem d_law_298 : decode code 298 = .ok (.goto 247, 3) := by decide +kernel
theorem d_law_301 : decode code 301 = .ok (.aload_n 1, 1) := by decide +kernel
theorem d_law_302 : decode code 302 = .ok (.aload_n 0, 1) := by decide +kernel
theorem d_law_303 : decode code 303 = .ok (.iload_n 3, 1) := by decide +kernel
theorem d_law_304 : decode code 304 = .ok (.iconst 1, 1) := by decide +kernel
theorem d_law_305 : decode code 305 = .ok (.iadd, 1) := by decide +kernel
theorem d_law_306 : decode code 306 = .ok (.iaload, 1) := by decide +kernel
theorem d_law_307 : decode code 307 = .ok (.invokevirtual 46, 3) := by decide +kernel
theorem d_law_310 : decode code 310 = .ok (.aload_n 2, 1) := by decide +kernel
theorem d_law_311 : decode code 311 = .ok (.aload_n 0, 1) := by decide +kernel
theorem d_law_312 : decode code 312 = .ok (.iload_n 3, 1) := by decide +kernel
theorem d_law_313 : decode code 313 = .ok (.iconst 1, 1) := by decide +kernel
theorem d_law_314 : decode code 314 = .ok (.iadd, 1) := by decide +kernel
theorem d_law_315 : decode code 315 = .ok (.iaload, 1) := by decide +kernel
theorem d_law_316 : decode code 316 = .ok (.invokevirtual 50, 3) := by decide +kernel
theorem d_law_319 : decode code 319 = .ok (.if_icmp .eq 226, 3) := by decide +kernel
theorem d_law_324 : decode code 324 = .ok (.aload_n 1, 1) := by decide +kernel
theorem d_law_325 : decode code 325 = .ok (.aload_n 0, 1) := by decide +kernel
theorem d_law_326 : decode code 326 = .ok (.iload_n 3, 1) := by decide +kernel
theorem d_law_327 : decode code 327 = .ok (.iconst 1, 1) := by decide +kernel
theorem d_law_328 : decode code 328 = .ok (.iadd, 1) := by decide +kernel
theorem d_law_329 : decode code 329 = .ok (.iaload, 1) := by decide +kernel
theorem d_law_330 : decode code 330 = .ok (.aload_n 0, 1) := by decide +kernel
theorem d_law_331 : decode code 331 = .ok (.iload_n 3, 1) := by decide +kernel
theorem d_law_332 : decode code 332 = .ok (.iconst 2, 1) := by decide +kernel
theorem d_law_333 : decode code 333 = .ok (.iadd, 1) := by decide +kernel
theorem d_law_334 : decode code 334 = .ok (.iaload, 1) := by decide +kernel
theorem d_law_335 : decode code 335 = .ok (.invokevirtual 51, 3) := by decide +kernel
theorem d_law_338 : decode code 338 = .ok (.aload_n 2, 1) := by decide +kernel
theorem d_law_339 : decode code 339 = .ok (.aload_n 0, 1) := by decide +kernel
theorem d_law_340 : decode code 340 = .ok (.iload_n 3, 1) := by decide +kernel
theorem d_law_341 : decode code 341 = .ok (.iconst 1, 1) := by decide +kernel
theorem d_law_342 : decode code 342 = .ok (.iadd, 1) := by decide +kernel
theorem d_law_343 : decode code 343 = .ok (.iaload, 1) := by decide +kernel
theorem d_law_344 : decode code 344 = .ok (.aload_n 0, 1) := by decide +kernel
theorem d_law_345 : decode code 345 = .ok (.iload_n 3, 1) := by decide +kernel
theorem d_law_346 : decode code 346 = .ok (.iconst 2, 1) := by decide +kernel
theorem d_law_347 : decode code 347 = .ok (.iadd, 1) := by decide +kernel
theorem d_law_348 : decode code 348 = .ok (.iaload, 1) := by decide +kernel
theorem d_law_349 : decode code 349 = .ok (.invokevirtual 54, 3) := by decide +kernel
theorem d_law_352 : decode code 352 = .ok (.if_icmp .eq 193, 3) := by decide +kernel
theorem d_law_357 : decode code 357 = .ok (.aload_n 1, 1) := by decide +kernel
theorem d_law_358 : decode code 358 = .ok (.aload_n 0, 1) := by decide +kernel
theorem d_law_359 : decode code 359 = .ok (.iload_n 3, 1) := by decide +kernel
theorem d_law_360 : decode code 360 = .ok (.iconst 1, 1) := by decide +kernel
theorem d_law_361 : decode code 361 = .ok (.iadd, 1) := by decide +kernel
theorem d_law_362 : decode code 362 = .ok (.iaload, 1) := by decide +kernel
theorem d_law_363 : decode code 363 = .ok (.invokevirtual 55, 3) := by decide +kernel
theorem d_law_366 : decode code 366 = .ok (.aload_n 2, 1) := by decide +kernel
theorem d_law_367 : decode code 367 = .ok (.aload_n 0, 1) := by decide +kernel
theorem d_law_368 : decode code 368 = .ok (.iload_n 3, 1) := by decide +kernel
theorem d_law_369 : decode code 369 = .ok (.iconst 1, 1) := by decide +kernel
theorem d_law_370 : decode code 370 = .ok (.iadd, 1) := by decide +kernel
theorem d_law_371 : decode code 371 = .ok (.iaload, 1) := by decide +kernel
theorem d_law_372 : decode code 372 = .ok (.invokevirtual 58, 3) := by decide +kernel
theorem d_law_375 : decode code 375 = .ok (.if_icmp .eq 170, 3) := by decide +kernel
theorem d_law_380 : decode code 380 = .ok (.aload_n 1, 1) := by decide +kernel
theorem d_law_381 : decode code 381 = .ok (.aload_n 0, 1) := by decide +kernel
theorem d_law_382 : decode code 382 = .ok (.iload_n 3, 1) := by decide +kernel
theorem d_law_383 : decode code 383 = .ok (.iconst 1, 1) := by decide +kernel
theorem d_law_384 : decode code 384 = .ok (.iadd, 1) := by decide +kernel
theorem d_law_385 : decode code 385 = .ok (.iaload, 1) := by decide +kernel
theorem d_law_386 : decode code 386 = .ok (.invokevirtual 59, 3) := by decide +kernel
theorem d_law_389 : decode code 389 = .ok (.aload_n 2, 1) := by decide +kernel
theorem d_law_390 : decode code 390 = .ok (.aload_n 0, 1) := by decide +kernel
theorem d_law_391 : decode code 391 = .ok (.iload_n 3, 1) := by decide +kernel
theorem d_law_392 : decode code 392 = .ok (.iconst 1, 1) := by decide +kernel
theorem d_law_393 : decode code 393 = .ok (.iadd, 1) := by decide +kernel
theorem d_law_394 : decode code 394 = .ok (.iaload, 1) := by decide +kernel
theorem d_law_395 : decode code 395 = .ok (.invokevirtual 62, 3) := by decide +kernel
theorem d_law_398 : decode code 398 = .ok (.if_icmp .eq 147, 3) := by decide +kernel
theorem d_law_403 : decode code 403 = .ok (.aload_n 1, 1) := by decide +kernel
theorem d_law_404 : decode code 404 = .ok (.aload_n 0, 1) := by decide +kernel
theorem d_law_405 : decode code 405 = .ok (.iload_n 3, 1) := by decide +kernel
theorem d_law_406 : decode code 406 = .ok (.iconst 1, 1) := by decide +kernel
theorem d_law_407 : decode code 407 = .ok (.iadd, 1) := by decide +kernel
theorem d_law_408 : decode code 408 = .ok (.iaload, 1) := by decide +kernel
theorem d_law_409 : decode code 409 = .ok (.aload_n 0, 1) := by decide +kernel
theorem d_law_410 : decode code 410 = .ok (.iload_n 3, 1) := by decide +kernel
theorem d_law_411 : decode code 411 = .ok (.iconst 2, 1) := by decide +kernel
theorem d_law_412 : decode code 412 = .ok (.iadd, 1) := by decide +kernel
theorem d_law_413 : decode code 413 = .ok (.iaload, 1) := by decide +kernel
theorem d_law_414 : decode code 414 = .ok (.invokevirtual 63, 3) := by decide +kernel
theorem d_law_417 : decode code 417 = .ok (.aload_n 2, 1) := by decide +kernel
theorem d_law_418 : decode code 418 = .ok (.aload_n 0, 1) := by decide +kernel
theorem d_law_419 : decode code 419 = .ok (.iload_n 3, 1) := by decide +kernel
theorem d_law_420 : decode code 420 = .ok (.iconst 1, 1) := by decide +kernel
theorem d_law_421 : decode code 421 = .ok (.iadd, 1) := by decide +kernel
theorem d_law_422 : decode code 422 = .ok (.iaload, 1) := by decide +kernel
theorem d_law_423 : decode code 423 = .ok (.aload_n 0, 1) := by decide +kernel
theorem d_law_424 : decode code 424 = .ok (.iload_n 3, 1) := by decide +kernel
theorem d_law_425 : decode code 425 = .ok (.iconst 2, 1) := by decide +kernel
theorem d_law_426 : decode code 426 = .ok (.iadd, 1) := by decide +kernel
theorem d_law_427 : decode code 427 = .ok (.iaload, 1) := by decide +kernel
theorem d_law_428 : decode code 428 = .ok (.invokevirtual 66, 3) := by decide +kernel
theorem d_law_431 : decode code 431 = .ok (.if_icmp .eq 114, 3) := by decide +kernel
theorem d_law_436 : decode code 436 = .ok (.aload_n 1, 1) := by decide +kernel
theorem d_law_437 : decode code 437 = .ok (.aload_n 0, 1) := by decide +kernel
theorem d_law_438 : decode code 438 = .ok (.iload_n 3, 1) := by decide +kernel
theorem d_law_439 : decode code 439 = .ok (.iconst 1, 1) := by decide +kernel
theorem d_law_440 : decode code 440 = .ok (.iadd, 1) := by decide +kernel
theorem d_law_441 : decode code 441 = .ok (.iaload, 1) := by decide +kernel
theorem d_law_442 : decode code 442 = .ok (.aload_n 0, 1) := by decide +kernel
theorem d_law_443 : decode code 443 = .ok (.iload_n 3, 1) := by decide +kernel
theorem d_law_444 : decode code 444 = .ok (.iconst 2, 1) := by decide +kernel
theorem d_law_445 : decode code 445 = .ok (.iadd, 1) := by decide +kernel
theorem d_law_446 : decode code 446 = .ok (.iaload, 1) := by decide +kernel
theorem d_law_447 : decode code 447 = .ok (.aload_n 0, 1) := by decide +kernel
theorem d_law_448 : decode code 448 = .ok (.iload_n 3, 1) := by decide +kernel
theorem d_law_449 : decode code 449 = .ok (.iconst 3, 1) := by decide +kernel
theorem d_law_450 : decode code 450 = .ok (.iadd, 1) := by decide +kernel
theorem d_law_451 : decode code 451 = .ok (.iaload, 1) := by decide +kernel
theorem d_law_452 : decode code 452 = .ok (.invokevirtual 67, 3) := by decide +kernel
theorem d_law_455 : decode code 455 = .ok (.aload_n 2, 1) := by decide +kernel
theorem d_law_456 : decode code 456 = .ok (.aload_n 0, 1) := by decide +kernel
theorem d_law_457 : decode code 457 = .ok (.iload_n 3, 1) := by decide +kernel
theorem d_law_458 : decode code 458 = .ok (.iconst 1, 1) := by decide +kernel
theorem d_law_459 : decode code 459 = .ok (.iadd, 1) := by decide +kernel
theorem d_law_460 : decode code 460 = .ok (.iaload, 1) := by decide +kernel
theorem d_law_461 : decode code 461 = .ok (.aload_n 0, 1) := by decide +kernel
theorem d_law_462 : decode code 462 = .ok (.iload_n 3, 1) := by decide +kernel
theorem d_law_463 : decode code 463 = .ok (.iconst 2, 1) := by decide +kernel
theorem d_law_464 : decode code 464 = .ok (.iadd, 1) := by decide +kernel
theorem d_law_465 : decode code 465 = .ok (.iaload, 1) := by decide +kernel
theorem d_law_466 : decode code 466 = .ok (.aload_n 0, 1) := by decide +kernel
theorem d_law_467 : decode code 467 = .ok (.iload_n 3, 1) := by decide +kernel
theorem d_law_468 : decode code 468 = .ok (.iconst 3, 1) := by decide +kernel
theorem d_law_469 : decode code 469 = .ok (.iadd, 1) := by decide +kernel
theorem d_law_470 : decode code 470 = .ok (.iaload, 1) := by decide +kernel
theorem d_law_471 : decode code 471 = .ok (.invokevirtual 71, 3) := by decide +kernel
theorem d_law_474 : decode code 474 = .ok (.if_icmp .eq 71, 3) := by decide +kernel
theorem d_law_479 : decode code 479 = .ok (.aload_n 1, 1) := by decide +kernel
theorem d_law_480 : decode code 480 = .ok (.aload_n 0, 1) := by decide +kernel
theorem d_law_481 : decode code 481 = .ok (.iload_n 3, 1) := by decide +kernel
theorem d_law_482 : decode code 482 = .ok (.iconst 1, 1) := by decide +kernel
theorem d_law_483 : decode code 483 = .ok (.iadd, 1) := by decide +kernel
theorem d_law_484 : decode code 484 = .ok (.iaload, 1) := by decide +kernel
theorem d_law_485 : decode code 485 = .ok (.aload_n 0, 1) := by decide +kernel
theorem d_law_486 : decode code 486 = .ok (.iload_n 3, 1) := by decide +kernel
theorem d_law_487 : decode code 487 = .ok (.iconst 2, 1) := by decide +kernel
theorem d_law_488 : decode code 488 = .ok (.iadd, 1) := by decide +kernel
theorem d_law_489 : decode code 489 = .ok (.iaload, 1) := by decide +kernel
theorem d_law_490 : decode code 490 = .ok (.aload_n 0, 1) := by decide +kernel
theorem d_law_491 : decode code 491 = .ok (.iload_n 3, 1) := by decide +kernel
theorem d_law_492 : decode code 492 = .ok (.iconst 3, 1) := by decide +kernel
theorem d_law_493 : decode code 493 = .ok (.iadd, 1) := by decide +kernel
end
section
theorem d_law_494 : decode code 494 = .ok (.iaload, 1) := by decide +kernel
theorem d_law_495 : decode code 495 = .ok (.invokevirtual 72, 3) := by decide +kernel
theorem d_law_498 : decode code 498 = .ok (.aload_n 2, 1) := by decide +kernel
theorem d_law_499 : decode code 499 = .ok (.aload_n 0, 1) := by decide +kernel
theorem d_law_500 : decode code 500 = .ok (.iload_n 3, 1) := by decide +kernel
theorem d_law_501 : decode code 501 = .ok (.iconst 1, 1) := by decide +kernel
theorem d_law_502 : decode code 502 = .ok (.iadd, 1) := by decide +kernel
theorem d_law_503 : decode code 503 = .ok (.iaload, 1) := by decide +kernel
theorem d_law_504 : decode code 504 = .ok (.aload_n 0, 1) := by decide +kernel
theorem d_law_505 : decode code 505 = .ok (.iload_n 3, 1) := by decide +kernel
theorem d_law_506 : decode code 506 = .ok (.iconst 2, 1) := by decide +kernel
theorem d_law_507 : decode code 507 = .ok (.iadd, 1) := by decide +kernel
theorem d_law_508 : decode code 508 = .ok (.iaload, 1) := by decide +kernel
theorem d_law_509 : decode code 509 = .ok (.aload_n 0, 1) := by decide +kernel
theorem d_law_510 : decode code 510 = .ok (.iload_n 3, 1) := by decide +kernel
theorem d_law_511 : decode code 511 = .ok (.iconst 3, 1) := by decide +kernel
theorem d_law_512 : decode code 512 = .ok (.iadd, 1) := by decide +kernel
theorem d_law_513 : decode code 513 = .ok (.iaload, 1) := by decide +kernel
theorem d_law_514 : decode code 514 = .ok (.invokevirtual 76, 3) := by decide +kernel
theorem d_law_517 : decode code 517 = .ok (.if_icmp .eq 28, 3) := by decide +kernel
theorem d_law_522 : decode code 522 = .ok (.aload_n 1, 1) := by decide +kernel
theorem d_law_523 : decode code 523 = .ok (.aload_n 0, 1) := by decide +kernel
theorem d_law_524 : decode code 524 = .ok (.iload_n 3, 1) := by decide +kernel
theorem d_law_525 : decode code 525 = .ok (.iconst 1, 1) := by decide +kernel
theorem d_law_526 : decode code 526 = .ok (.iadd, 1) := by decide +kernel
theorem d_law_527 : decode code 527 = .ok (.iaload, 1) := by decide +kernel
theorem d_law_528 : decode code 528 = .ok (.invokevirtual 77, 3) := by decide +kernel
theorem d_law_531 : decode code 531 = .ok (.aload_n 2, 1) := by decide +kernel
theorem d_law_532 : decode code 532 = .ok (.aload_n 0, 1) := by decide +kernel
theorem d_law_533 : decode code 533 = .ok (.iload_n 3, 1) := by decide +kernel
theorem d_law_534 : decode code 534 = .ok (.iconst 1, 1) := by decide +kernel
theorem d_law_535 : decode code 535 = .ok (.iadd, 1) := by decide +kernel
theorem d_law_536 : decode code 536 = .ok (.iaload, 1) := by decide +kernel
theorem d_law_537 : decode code 537 = .ok (.invokevirtual 80, 3) := by decide +kernel
theorem d_law_540 : decode code 540 = .ok (.if_icmp .eq 5, 3) := by decide +kernel
theorem d_law_545 : decode code 545 = .ok (.iinc 3 5, 3) := by decide +kernel
theorem d_law_548 : decode code 548 = .ok (.goto (-530), 3) := by decide +kernel
theorem d_law_551 : decode code 551 = .ok (.iconst 1, 1) := by decide +kernel
theorem d_law_552 : decode code 552 = .ok (.ireturn, 1) := by decide +kernel
end
section
def L_A_fill2_2_5 (post : St → Prop) : Nat → Int32 → Int32 → Int32 → St → Prop
  | 0, _, _, _, _ => False
  | n + 1, x1, x2, x3, σ => ((x3 ≤ x2 → post σ) ∧ (¬ x3 ≤ x2 → (vp_in x2 960 ∧ L_A_fill2_2_5 post n x1 (x2 + 1) x3 (ua σ 0 x2.toNatClampNeg x1))))
def wp_A_fill2_2 (x1 : Int32) (σ : St) (post : St → Prop) : Prop := ∃ n2, L_A_fill2_2_5 post n2 x1 0 (nI 960) σ
def wp_G_clear (x1 x2 : Int32) (σ : St) (post : St → Prop) : Prop := (wp_A_fill2_2 0 (us (us (us σ 1 x1) 2 x2) 3 0) (fun σ1 => post σ1))
def wp_W_begin (x1 x2 : Int32) (σ : St) (post : Int32 → St → Prop) : Prop := ((x1 < 1 → post 0 σ) ∧ (¬ x1 < 1 → (((nI 24) < x1 → post 0 σ) ∧ (¬ (nI 24) < x1 → ((x2 < 1 → post 0 σ) ∧ (¬ x2 < 1 → ((x2 ≤ (nI 40) → (wp_G_clear x1 x2 σ (fun σ1 => post 1 σ1))) ∧ (¬ x2 ≤ (nI 40) → post 0 σ))))))))
def L_M_begin_46 (post : Int32 → St → Prop) : Nat → Int32 → Int32 → Int32 → St → Prop
  | 0, _, _, _, _ => False
  | n + 1, x1, x2, x3, σ => (((nI 960) ≤ x3 → post 1 σ) ∧ (¬ (nI 960) ≤ x3 → (vp_in x3 960 ∧ L_M_begin_46 post n x1 x2 (x3 + 1) (ua σ 0 x3.toNatClampNeg 0))))
def wp_M_begin (x1 x2 : Int32) (σ : St) (post : Int32 → St → Prop) : Prop := ((x1 < 1 → post 0 (us σ 0 0)) ∧ (¬ x1 < 1 → (((nI 24) < x1 → post 0 (us σ 0 0)) ∧ (¬ (nI 24) < x1 → ((x2 < 1 → post 0 (us σ 0 0)) ∧ (¬ x2 < 1 → ((x2 ≤ (nI 40) → ∃ n2, L_M_begin_46 post n2 x1 x2 0 (us (us (us (us σ 0 0) 1 x1) 2 x2) 3 0)) ∧ (¬ x2 ≤ (nI 40) → post 0 (us σ 0 0)))))))))
def wp_G_hasNode (x1 : Int32) (σ : St) (post : Int32 → St → Prop) : Prop := ((x1 < 0 → post 0 σ) ∧ (¬ x1 < 0 → (((σ.1 1) ≤ x1 → post 0 σ) ∧ (¬ (σ.1 1) ≤ x1 → post 1 σ))))
def wp_G_hasLetter (x1 : Int32) (σ : St) (post : Int32 → St → Prop) : Prop := ((x1 < 0 → post 0 σ) ∧ (¬ x1 < 0 → (((σ.1 2) ≤ x1 → post 0 σ) ∧ (¬ (σ.1 2) ≤ x1 → post 1 σ))))
def wp_G_canHold (x1 x2 x3 : Int32) (σ : St) (post : Int32 → St → Prop) : Prop := (wp_G_hasNode x1 σ (fun r1 σ1 => ((r1 = 0 → post 0 σ1) ∧ (¬ r1 = 0 → (wp_G_hasLetter x2 σ1 (fun r2 σ2 => ((r2 = 0 → post 0 σ2) ∧ (¬ r2 = 0 → (wp_G_hasNode x3 σ2 (fun r3 σ3 => ((r3 = 0 → post 0 σ3) ∧ (¬ r3 = 0 → post 1 σ3))))))))))))
def wp_G_place (x0 x1 : Int32) (σ : St) (post : Int32 → St → Prop) : Prop := post ((x1 * (nI 24)) + x0) σ
def wp_G_holds (x1 x2 x3 : Int32) (σ : St) (post : Int32 → St → Prop) : Prop := (wp_G_place x1 x2 σ (fun r1 σ1 => (vp_in r1 960 ∧ ((((ush (σ1.2 0 r1.toNatClampNeg) x3) &&& 1) = 0 → post 0 σ1) ∧ (¬ ((ush (σ1.2 0 r1.toNatClampNeg) x3) &&& 1) = 0 → post 1 σ1)))))
def wp_G_flip (x1 x2 x3 : Int32) (σ : St) (post : St → Prop) : Prop := (wp_G_place x1 x2 σ (fun r1 σ1 => (vp_in r1 960 ∧ (vp_in r1 960 ∧ post (ua σ1 0 r1.toNatClampNeg ((σ1.2 0 r1.toNatClampNeg) ^^^ (1 <<< (x3 &&& 31))))))))
def wp_W_way (x1 x2 x3 x4 : Int32) (σ : St) (post : Int32 → St → Prop) : Prop := (wp_G_canHold x1 x2 x3 σ (fun r1 σ1 => ((r1 = 0 → post 0 σ1) ∧ (¬ r1 = 0 → (wp_G_holds x1 x2 x3 σ1 (fun r2 σ2 => ((¬ r2 = x4 → (wp_G_flip x1 x2 x3 σ2 (fun σ3 => post 1 σ3))) ∧ (r2 = x4 → post 0 σ2))))))))
def wp_M_isNode (x1 : Int32) (σ : St) (post : Int32 → St → Prop) : Prop := ((x1 < 0 → post 0 σ) ∧ (¬ x1 < 0 → (((σ.1 1) ≤ x1 → post 0 σ) ∧ (¬ (σ.1 1) ≤ x1 → post 1 σ))))
def wp_M_isLetter (x1 : Int32) (σ : St) (post : Int32 → St → Prop) : Prop := ((x1 < 0 → post 0 σ) ∧ (¬ x1 < 0 → (((σ.1 2) ≤ x1 → post 0 σ) ∧ (¬ (σ.1 2) ≤ x1 → post 1 σ))))
def wp_M_is (x1 x2 x3 : Int32) (σ : St) (post : Int32 → St → Prop) : Prop := (wp_M_isNode x1 (us σ 0 0) (fun r1 σ1 => ((r1 = 0 → post 0 σ1) ∧ (¬ r1 = 0 → (wp_M_isLetter x2 σ1 (fun r2 σ2 => ((r2 = 0 → post 0 σ2) ∧ (¬ r2 = 0 → (wp_M_isNode x3 σ2 (fun r3 σ3 => ((r3 = 0 → post 0 σ3) ∧ (¬ r3 = 0 → (wp_M_isNode x1 σ3 (fun r4 σ4 => ((r4 = 0 → (vp_in 0 960 ∧ ((¬ (((σ4.2 0 ((0 : Int32).toNatClampNeg)) >>> (x3 &&& 31)) &&& 1) = 1 → post 0 σ4) ∧ ((((σ4.2 0 ((0 : Int32).toNatClampNeg)) >>> (x3 &&& 31)) &&& 1) = 1 → post 1 σ4)))) ∧ (¬ r4 = 0 → (wp_M_isLetter x2 σ4 (fun r6 σ6 => ((r6 = 0 → (vp_in 0 960 ∧ ((¬ (((σ6.2 0 ((0 : Int32).toNatClampNeg)) >>> (x3 &&& 31)) &&& 1) = 1 → post 0 σ6) ∧ ((((σ6.2 0 ((0 : Int32).toNatClampNeg)) >>> (x3 &&& 31)) &&& 1) = 1 → post 1 σ6)))) ∧ (¬ r6 = 0 → (vp_in (((nI 24) * x2) + x1) 960 ∧ ((¬ (((σ6.2 0 (((nI 24) * x2) + x1).toNatClampNeg) >>> (x3 &&& 31)) &&& 1) = 1 → post 0 σ6) ∧ ((((σ6.2 0 (((nI 24) * x2) + x1).toNatClampNeg) >>> (x3 &&& 31)) &&& 1) = 1 → post 1 σ6)))))))))))))))))))))))
def wp_M_way (x1 x2 x3 x4 : Int32) (σ : St) (post : Int32 → St → Prop) : Prop := (wp_M_isNode x1 (us σ 0 0) (fun r1 σ1 => ((r1 = 0 → post 0 σ1) ∧ (¬ r1 = 0 → (wp_M_isLetter x2 σ1 (fun r2 σ2 => ((r2 = 0 → post 0 σ2) ∧ (¬ r2 = 0 → (wp_M_isNode x3 σ2 (fun r3 σ3 => ((r3 = 0 → post 0 σ3) ∧ (¬ r3 = 0 → (wp_M_is x1 x2 x3 σ3 (fun r4 σ4 => ((¬ r4 = x4 → (vp_in (((nI 24) * x2) + x1) 960 ∧ (vp_in (((nI 24) * x2) + x1) 960 ∧ post 1 (ua σ4 0 (((nI 24) * x2) + x1).toNatClampNeg ((σ4.2 0 (((nI 24) * x2) + x1).toNatClampNeg) ^^^ (1 <<< (x3 &&& 31))))))) ∧ (r4 = x4 → post 0 σ4))))))))))))))))
def L_W_fill_29 (post : Int32 → St → Prop) : Nat → Int32 → Int32 → Int32 → Int32 → St → Prop
  | 0, _, _, _, _, _ => False
  | n + 1, x1, x2, x3, x4, σ => (((σ.1 1) ≤ x4 → post x3 σ) ∧ (¬ (σ.1 1) ≤ x4 → (wp_G_holds x4 x1 x2 σ (fun r3 σ3 => ((¬ r3 = 0 → L_W_fill_29 post n x1 x2 x3 (x4 + 1) σ3) ∧ (r3 = 0 → (wp_G_flip x4 x1 x2 σ3 (fun σ4 => L_W_fill_29 post n x1 x2 (x3 + 1) (x4 + 1) σ4))))))))
def wp_W_fill (x1 x2 : Int32) (σ : St) (post : Int32 → St → Prop) : Prop := (wp_G_hasLetter x1 σ (fun r1 σ1 => ((r1 = 0 → post (-1) σ1) ∧ (¬ r1 = 0 → (wp_G_hasNode x2 σ1 (fun r2 σ2 => ((¬ r2 = 0 → ∃ n2, L_W_fill_29 post n2 x1 x2 0 0 σ2) ∧ (r2 = 0 → post (-1) σ2))))))))
def L_M_fill_28 (post : Int32 → St → Prop) : Nat → Int32 → Int32 → Int32 → Int32 → St → Prop
  | 0, _, _, _, _, _ => False
  | n + 1, x1, x2, x3, x4, σ => (((σ.1 1) ≤ x4 → post x3 σ) ∧ (¬ (σ.1 1) ≤ x4 → (wp_M_way x4 x1 x2 1 σ (fun r3 σ3 => ((r3 = 0 → L_M_fill_28 post n x1 x2 (x3 + 0) (x4 + 1) σ3) ∧ (¬ r3 = 0 → L_M_fill_28 post n x1 x2 (x3 + 1) (x4 + 1) σ3))))))
def wp_M_fill (x1 x2 : Int32) (σ : St) (post : Int32 → St → Prop) : Prop := (wp_M_isLetter x1 (us σ 0 0) (fun r1 σ1 => ((r1 = 0 → post (-1) σ1) ∧ (¬ r1 = 0 → (wp_M_isNode x2 σ1 (fun r2 σ2 => ((¬ r2 = 0 → ∃ n2, L_M_fill_28 post n2 x1 x2 0 0 σ2) ∧ (r2 = 0 → post (-1) σ2))))))))
def L_G_transpose_12 (post : St → Prop) (K : Int32 → Int32 → St → Prop) : Nat → Int32 → Int32 → Int32 → St → Prop
  | 0, _, _, _, _ => False
  | n + 1, x1, x2, x3, σ => ((x2 ≤ x3 → K x1 (x2 + 1) σ) ∧ (¬ x2 ≤ x3 → (wp_G_holds x2 x1 x3 σ (fun r1 σ1 => (wp_G_holds x3 x1 x2 σ1 (fun r2 σ2 => ((r1 = r2 → L_G_transpose_12 post K n x1 x2 (x3 + 1) σ2) ∧ (¬ r1 = r2 → (wp_G_flip x2 x1 x3 σ2 (fun σ3 => (wp_G_flip x3 x1 x2 σ3 (fun σ4 => L_G_transpose_12 post K n x1 x2 (x3 + 1) σ4))))))))))))
def L_G_transpose_2 (post : St → Prop) : Nat → Int32 → Int32 → St → Prop
  | 0, _, _, _ => False
  | n + 1, x1, x2, σ => (((σ.1 1) ≤ x2 → post σ) ∧ (¬ (σ.1 1) ≤ x2 → ∃ n2, L_G_transpose_12 post (fun y0 y1 σ => L_G_transpose_2 post n y0 y1 σ) n2 x1 x2 0 σ))
def wp_G_transpose (x1 : Int32) (σ : St) (post : St → Prop) : Prop := ∃ n2, L_G_transpose_2 post n2 x1 1 σ
def L_W_turn_2 (post : St → Prop) : Nat → Int32 → St → Prop
  | 0, _, _ => False
  | n + 1, x1, σ => (((σ.1 2) ≤ x1 → post σ) ∧ (¬ (σ.1 2) ≤ x1 → (wp_G_transpose x1 σ (fun σ1 => L_W_turn_2 post n (x1 + 1) σ1))))
def wp_W_turn (σ : St) (post : St → Prop) : Prop := ∃ n2, L_W_turn_2 post n2 0 σ
def L_M_turn_27 (post : St → Prop) (K : Int32 → Int32 → St → Prop) : Nat → Int32 → Int32 → Int32 → St → Prop
  | 0, _, _, _, _ => False
  | n + 1, x1, x2, x3, σ => ((x2 ≤ x3 → K x1 (x2 + 1) σ) ∧ (¬ x2 ≤ x3 → (vp_in (((nI 24) * x1) + x2) 960 ∧ (vp_in (((nI 24) * x1) + x3) 960 ∧ (((((σ.2 0 (((nI 24) * x1) + x2).toNatClampNeg) >>> (x3 &&& 31)) &&& 1) = (((σ.2 0 (((nI 24) * x1) + x3).toNatClampNeg) >>> (x2 &&& 31)) &&& 1) → L_M_turn_27 post K n x1 x2 (x3 + 1) σ) ∧ (¬ (((σ.2 0 (((nI 24) * x1) + x2).toNatClampNeg) >>> (x3 &&& 31)) &&& 1) = (((σ.2 0 (((nI 24) * x1) + x3).toNatClampNeg) >>> (x2 &&& 31)) &&& 1) → (vp_in (((nI 24) * x1) + x2) 960 ∧ (vp_in (((nI 24) * x1) + x2) 960 ∧ (vp_in (((nI 24) * x1) + x3) 960 ∧ (vp_in (((nI 24) * x1) + x3) 960 ∧ L_M_turn_27 post K n x1 x2 (x3 + 1) (ua (ua σ 0 (((nI 24) * x1) + x2).toNatClampNeg ((σ.2 0 (((nI 24) * x1) + x2).toNatClampNeg) ^^^ (1 <<< (x3 &&& 31)))) 0 (((nI 24) * x1) + x3).toNatClampNeg (((ua σ 0 (((nI 24) * x1) + x2).toNatClampNeg ((σ.2 0 (((nI 24) * x1) + x2).toNatClampNeg) ^^^ (1 <<< (x3 &&& 31)))).2 0 (((nI 24) * x1) + x3).toNatClampNeg) ^^^ (1 <<< (x2 &&& 31))))))))))))))
def L_M_turn_17 (post : St → Prop) (K : Int32 → St → Prop) : Nat → Int32 → Int32 → St → Prop
  | 0, _, _, _ => False
  | n + 1, x1, x2, σ => (((σ.1 1) ≤ x2 → K (x1 + 1) σ) ∧ (¬ (σ.1 1) ≤ x2 → ∃ n2, L_M_turn_27 post (fun y0 y1 σ => L_M_turn_17 post K n y0 y1 σ) n2 x1 x2 0 σ))
def L_M_turn_7 (post : St → Prop) : Nat → Int32 → St → Prop
  | 0, _, _ => False
  | n + 1, x1, σ => (((σ.1 2) ≤ x1 → post σ) ∧ (¬ (σ.1 2) ≤ x1 → ∃ n2, L_M_turn_17 post (fun y0 σ => L_M_turn_7 post n y0 σ) n2 x1 0 σ))
def wp_M_turn (σ : St) (post : St → Prop) : Prop := ∃ n2, L_M_turn_7 post n2 0 (us σ 0 0)
def wp_W_start (x1 : Int32) (σ : St) (post : Int32 → St → Prop) : Prop := (wp_G_hasNode x1 σ (fun r1 σ1 => ((¬ r1 = 0 → post 1 (us σ1 3 x1)) ∧ (r1 = 0 → post 0 σ1))))
def wp_M_start (x1 : Int32) (σ : St) (post : Int32 → St → Prop) : Prop := (wp_M_isNode x1 (us σ 0 0) (fun r1 σ1 => ((¬ r1 = 0 → post 1 (us σ1 3 x1)) ∧ (r1 = 0 → post 0 σ1))))
def L_G_reach_5 (post : Int32 → St → Prop) : Nat → Int32 → Int32 → Int32 → Int32 → St → Prop
  | 0, _, _, _, _, _ => False
  | n + 1, x1, x2, x3, x4, σ => (((σ.1 1) ≤ x4 → post x3 σ) ∧ (¬ (σ.1 1) ≤ x4 → ((((ush x1 x4) &&& 1) = 0 → L_G_reach_5 post n x1 x2 x3 (x4 + 1) σ) ∧ (¬ ((ush x1 x4) &&& 1) = 0 → (wp_G_place x4 x2 σ (fun r1 σ1 => (vp_in r1 960 ∧ L_G_reach_5 post n x1 x2 (x3 ||| (σ1.2 0 r1.toNatClampNeg)) (x4 + 1) σ1)))))))
def wp_G_reach (x1 x2 : Int32) (σ : St) (post : Int32 → St → Prop) : Prop := ∃ n2, L_G_reach_5 post n2 x1 x2 0 0 σ
def L_T_indexOf_5_2 (post : Int32 → St → Prop) : Nat → Int32 → Int32 → Int32 → St → Prop
  | 0, _, _, _, _ => False
  | n + 1, x1, x2, x3, σ => ((x1 ≤ x3 → post (-1) σ) ∧ (¬ x1 ≤ x3 → (vp_in x3 120 ∧ ((¬ (σ.2 2 x3.toNatClampNeg) = x2 → L_T_indexOf_5_2 post n x1 x2 (x3 + 1) σ) ∧ ((σ.2 2 x3.toNatClampNeg) = x2 → post x3 σ)))))
def wp_T_indexOf_5 (x1 x2 : Int32) (σ : St) (post : Int32 → St → Prop) : Prop := ∃ n2, L_T_indexOf_5_2 post n2 x1 x2 0 σ
def L_T_findSets_1_24 (post : Int32 → St → Prop) (K : Int32 → Int32 → St → Prop) : Nat → Int32 → Int32 → Int32 → St → Prop
  | 0, _, _, _, _ => False
  | n + 1, x2, x3, x4, σ => (((σ.1 2) ≤ x4 → K x2 (x3 + 1) σ) ∧ (¬ (σ.1 2) ≤ x4 → (vp_in x3 120 ∧ (wp_G_reach (σ.2 2 x3.toNatClampNeg) x4 σ (fun r3 σ3 => ((r3 = 0 → L_T_findSets_1_24 post K n x2 x3 (x4 + 1) σ3) ∧ (¬ r3 = 0 → (wp_T_indexOf_5 x2 r3 σ3 (fun r4 σ4 => ((¬ r4 = (-1) → L_T_findSets_1_24 post K n x2 x3 (x4 + 1) σ4) ∧ (r4 = (-1) → ((x2 < (nI 120) → (vp_in x2 120 ∧ L_T_findSets_1_24 post K n (x2 + 1) x3 (x4 + 1) (ua σ4 2 x2.toNatClampNeg r3))) ∧ (¬ x2 < (nI 120) → post (-1) σ4)))))))))))))
def L_T_findSets_1_16 (post : Int32 → St → Prop) : Nat → Int32 → Int32 → St → Prop
  | 0, _, _, _ => False
  | n + 1, x2, x3, σ => ((x2 ≤ x3 → post x2 σ) ∧ (¬ x2 ≤ x3 → ∃ n2, L_T_findSets_1_24 post (fun y0 y1 σ => L_T_findSets_1_16 post n y0 y1 σ) n2 x2 x3 0 σ))
def wp_T_findSets_1 (σ : St) (post : Int32 → St → Prop) : Prop := (vp_in 0 120 ∧ ∃ n2, L_T_findSets_1_16 post n2 1 0 (ua σ 2 ((0 : Int32).toNatClampNeg) (1 <<< ((σ.1 3) &&& 31))))
def L_T_indexOf_4_2 (post : Int32 → St → Prop) : Nat → Int32 → Int32 → Int32 → St → Prop
  | 0, _, _, _, _ => False
  | n + 1, x1, x2, x3, σ => ((x1 ≤ x3 → post (-1) σ) ∧ (¬ x1 ≤ x3 → (vp_in x3 120 ∧ ((¬ (σ.2 1 x3.toNatClampNeg) = x2 → L_T_indexOf_4_2 post n x1 x2 (x3 + 1) σ) ∧ ((σ.2 1 x3.toNatClampNeg) = x2 → post x3 σ)))))
def wp_T_indexOf_4 (x1 x2 : Int32) (σ : St) (post : Int32 → St → Prop) : Prop := ∃ n2, L_T_indexOf_4_2 post n2 x1 x2 0 σ
def L_T_laySteps_1_12 (post : St → Prop) (K : Int32 → St → Prop) : Nat → Int32 → Int32 → St → Prop
  | 0, _, _, _ => False
  | n + 1, x2, x3, σ => (((σ.1 4) ≤ x3 → K (x2 + 1) σ) ∧ (¬ (σ.1 4) ≤ x3 → (vp_in x2 120 ∧ (wp_G_reach (σ.2 1 x2.toNatClampNeg) x3 σ (fun r2 σ2 => ((¬ r2 = 0 → (wp_T_indexOf_4 (σ2.1 5) r2 σ2 (fun r3 σ3 => (vp_in ((x2 * (nI 40)) + x3) 4800 ∧ L_T_laySteps_1_12 post K n x2 (x3 + 1) (ua σ3 3 ((x2 * (nI 40)) + x3).toNatClampNeg r3))))) ∧ (r2 = 0 → (vp_in ((x2 * (nI 40)) + x3) 4800 ∧ L_T_laySteps_1_12 post K n x2 (x3 + 1) (ua σ2 3 ((x2 * (nI 40)) + x3).toNatClampNeg (-1))))))))))
def L_T_laySteps_1_2 (post : St → Prop) : Nat → Int32 → St → Prop
  | 0, _, _ => False
  | n + 1, x2, σ => (((σ.1 5) ≤ x2 → post σ) ∧ (¬ (σ.1 5) ≤ x2 → ∃ n2, L_T_laySteps_1_12 post (fun y0 σ => L_T_laySteps_1_2 post n y0 σ) n2 x2 0 σ))
def wp_T_laySteps_1 (σ : St) (post : St → Prop) : Prop := ∃ n2, L_T_laySteps_1_2 post n2 0 σ
def wp_A_rangeCheck3 (x0 x1 x2 : Int32) (σ : St) (post : St → Prop) : Prop := ((x1 ≤ x2 → ((0 ≤ x1 → ((x2 ≤ x0 → post σ) ∧ (¬ x2 ≤ x0 → False))) ∧ (¬ 0 ≤ x1 → False))) ∧ (¬ x1 ≤ x2 → False))
def L_A_fill4_7_10 (post : St → Prop) : Nat → Int32 → Int32 → Int32 → Int32 → St → Prop
  | 0, _, _, _, _, _ => False
  | n + 1, x1, x2, x3, x4, σ => ((x2 ≤ x4 → post σ) ∧ (¬ x2 ≤ x4 → (vp_in x4 120 ∧ L_A_fill4_7_10 post n x1 x2 x3 (x4 + 1) (ua σ 4 x4.toNatClampNeg x3))))
def wp_A_fill4_7 (x1 x2 x3 : Int32) (σ : St) (post : St → Prop) : Prop := (wp_A_rangeCheck3 (nI 120) x1 x2 σ (fun σ1 => ∃ n2, L_A_fill4_7_10 post n2 x1 x2 x3 x1 σ1))
def wp_T_leaderAfter_8 (x2 x3 : Int32) (σ : St) (post : Int32 → St → Prop) : Prop := (vp_in ((x2 * (nI 40)) + x3) 4800 ∧ ((¬ (σ.2 3 ((x2 * (nI 40)) + x3).toNatClampNeg) = (-1) → (vp_in (σ.2 3 ((x2 * (nI 40)) + x3).toNatClampNeg) 120 ∧ post (σ.2 5 (σ.2 3 ((x2 * (nI 40)) + x3).toNatClampNeg).toNatClampNeg) σ)) ∧ ((σ.2 3 ((x2 * (nI 40)) + x3).toNatClampNeg) = (-1) → post (-1) σ)))
def L_T_goAlike_2 (post : Int32 → St → Prop) : Nat → Int32 → Int32 → Int32 → St → Prop
  | 0, _, _, _, _ => False
  | n + 1, x1, x2, x3, σ => (((σ.1 4) ≤ x3 → post 1 σ) ∧ (¬ (σ.1 4) ≤ x3 → (wp_T_leaderAfter_8 x1 x3 σ (fun r1 σ1 => (wp_T_leaderAfter_8 x2 x3 σ1 (fun r2 σ2 => ((r1 = r2 → L_T_goAlike_2 post n x1 x2 (x3 + 1) σ2) ∧ (¬ r1 = r2 → post 0 σ2))))))))
def wp_T_goAlike (x1 x2 : Int32) (σ : St) (post : Int32 → St → Prop) : Prop := ∃ n2, L_T_goAlike_2 post n2 x1 x2 0 σ
def L_T_findLeader_9 (post : Int32 → St → Prop) : Nat → Int32 → Int32 → Int32 → St → Prop
  | 0, _, _, _, _ => False
  | n + 1, x1, x2, x3, σ => ((x1 ≤ x3 → post x1 σ) ∧ (¬ x1 ≤ x3 → (vp_in x3 120 ∧ ((¬ (σ.2 4 x3.toNatClampNeg) = x3 → L_T_findLeader_9 post n x1 x2 (x3 + 1) σ) ∧ ((σ.2 4 x3.toNatClampNeg) = x3 → (vp_in x3 120 ∧ ((¬ (σ.2 5 x3.toNatClampNeg) = x2 → L_T_findLeader_9 post n x1 x2 (x3 + 1) σ) ∧ ((σ.2 5 x3.toNatClampNeg) = x2 → (wp_T_goAlike x3 x1 σ (fun r4 σ4 => ((r4 = 0 → L_T_findLeader_9 post n x1 x2 (x3 + 1) σ4) ∧ (¬ r4 = 0 → post x3 σ4))))))))))))
def wp_T_findLeader (x1 : Int32) (σ : St) (post : Int32 → St → Prop) : Prop := (vp_in x1 120 ∧ ∃ n2, L_T_findLeader_9 post n2 x1 (σ.2 5 x1.toNatClampNeg) (σ.2 5 x1.toNatClampNeg) σ)
def wp_T_pair (x0 x1 : Int32) (σ : St) (post : Int32 → St → Prop) : Prop := post ((((if x0 < x1 then x1 else x0) * ((if x0 < x1 then x1 else x0) - 1)) / (nI 2)) + (if x1 < x0 then x1 else x0)) σ
def L_T_measure_10 (post : St → Prop) : Nat → Int32 → Int32 → Int32 → Int32 → St → Prop
  | 0, _, _, _, _, _ => False
  | n + 1, x1, x2, x3, x4, σ => (((σ.1 5) ≤ x4 → post σ) ∧ (¬ (σ.1 5) ≤ x4 → (vp_in x4 120 ∧ ((¬ (σ.2 4 x4.toNatClampNeg) = x4 → L_T_measure_10 post n x1 x2 x3 (x4 + 1) σ) ∧ ((σ.2 4 x4.toNatClampNeg) = x4 → ((x4 = x1 → L_T_measure_10 post n x1 x2 x3 (x4 + 1) σ) ∧ (¬ x4 = x1 → (wp_T_pair x4 x1 σ (fun r3 σ3 => ((¬ x4 = x3 → (wp_T_pair x4 x3 σ3 (fun r4 σ4 => (vp_in r4 7140 ∧ (vp_in r3 7140 ∧ L_T_measure_10 post n x1 x2 x3 (x4 + 1) (ua σ4 8 r3.toNatClampNeg (σ4.2 8 r4.toNatClampNeg))))))) ∧ (x4 = x3 → (vp_in r3 7140 ∧ L_T_measure_10 post n x1 x2 x3 (x4 + 1) (ua σ3 8 r3.toNatClampNeg x2)))))))))))))
def wp_T_measure (x1 x2 : Int32) (σ : St) (post : St → Prop) : Prop := (vp_in x1 120 ∧ ∃ n2, L_T_measure_10 post n2 x1 x2 (σ.2 5 x1.toNatClampNeg) 0 σ)
def L_T_partOnce_21 (post : Int32 → St → Prop) : Nat → Int32 → Int32 → Int32 → St → Prop
  | 0, _, _, _, _ => False
  | n + 1, x1, x2, x3, σ => (((σ.1 5) ≤ x3 → (zb x2 ∧ post x2 σ)) ∧ (¬ (σ.1 5) ≤ x3 → (wp_T_findLeader x3 σ (fun r2 σ2 => (vp_in x3 120 ∧ (vp_in x3 120 ∧ ((¬ ((ua σ2 4 x3.toNatClampNeg r2).2 4 x3.toNatClampNeg) = x3 → L_T_partOnce_21 post n x1 x2 (x3 + 1) (ua σ2 4 x3.toNatClampNeg r2)) ∧ (((ua σ2 4 x3.toNatClampNeg r2).2 4 x3.toNatClampNeg) = x3 → (vp_in x3 120 ∧ ((((ua σ2 4 x3.toNatClampNeg r2).2 5 x3.toNatClampNeg) = x3 → L_T_partOnce_21 post n x1 x2 (x3 + 1) (ua σ2 4 x3.toNatClampNeg r2)) ∧ (¬ ((ua σ2 4 x3.toNatClampNeg r2).2 5 x3.toNatClampNeg) = x3 → (wp_T_measure x3 x1 (ua σ2 4 x3.toNatClampNeg r2) (fun σ6 => L_T_partOnce_21 post n x1 1 (x3 + 1) σ6)))))))))))))
def wp_T_partOnce (x1 : Int32) (σ : St) (post : Int32 → St → Prop) : Prop := (cpok 0 0 (σ.1 5) 120 120 ∧ ∃ n2, L_T_partOnce_21 post n2 x1 0 0 (uA σ 5 (va_cpy (σ.2 4) (σ.2 5) ((0 : Int32).toNatClampNeg) ((0 : Int32).toNatClampNeg) (σ.1 5).toNatClampNeg)))
def L_T_partSets_20 (post : St → Prop) : Nat → Int32 → St → Prop
  | 0, _, _ => False
  | n + 1, x1, σ => (((σ.1 5) ≤ x1 → post σ) ∧ (¬ (σ.1 5) ≤ x1 → (wp_T_partOnce x1 σ (fun r2 σ2 => ((¬ r2 = 0 → L_T_partSets_20 post n (x1 + 1) (us σ2 7 x1)) ∧ (r2 = 0 → post σ2))))))
def wp_T_partSets (σ : St) (post : St → Prop) : Prop := (wp_A_fill4_7 0 (σ.1 5) 0 σ (fun σ1 => ∃ n2, L_T_partSets_20 post n2 1 (us σ1 7 0)))
def L_A_fill4_9_10 (post : St → Prop) : Nat → Int32 → Int32 → Int32 → Int32 → St → Prop
  | 0, _, _, _, _, _ => False
  | n + 1, x1, x2, x3, x4, σ => ((x2 ≤ x4 → post σ) ∧ (¬ x2 ≤ x4 → (vp_in x4 120 ∧ L_A_fill4_9_10 post n x1 x2 x3 (x4 + 1) (ua σ 6 x4.toNatClampNeg x3))))
def wp_A_fill4_9 (x1 x2 x3 : Int32) (σ : St) (post : St → Prop) : Prop := (wp_A_rangeCheck3 (nI 120) x1 x2 σ (fun σ1 => ∃ n2, L_A_fill4_9_10 post n2 x1 x2 x3 x1 σ1))
def wp_T_numberState (x1 : Int32) (σ : St) (post : St → Prop) : Prop := (vp_in x1 120 ∧ (vp_in ((ua σ 6 x1.toNatClampNeg (σ.1 6)).1 6) 120 ∧ post (us (ua (ua σ 6 x1.toNatClampNeg (σ.1 6)) 7 ((ua σ 6 x1.toNatClampNeg (σ.1 6)).1 6).toNatClampNeg x1) 6 (((ua (ua σ 6 x1.toNatClampNeg (σ.1 6)) 7 ((ua σ 6 x1.toNatClampNeg (σ.1 6)).1 6).toNatClampNeg x1).1 6) + 1))))
def wp_T_leaderAfter_7 (x2 x3 : Int32) (σ : St) (post : Int32 → St → Prop) : Prop := (vp_in ((x2 * (nI 40)) + x3) 4800 ∧ ((¬ (σ.2 3 ((x2 * (nI 40)) + x3).toNatClampNeg) = (-1) → (vp_in (σ.2 3 ((x2 * (nI 40)) + x3).toNatClampNeg) 120 ∧ post (σ.2 4 (σ.2 3 ((x2 * (nI 40)) + x3).toNatClampNeg).toNatClampNeg) σ)) ∧ ((σ.2 3 ((x2 * (nI 40)) + x3).toNatClampNeg) = (-1) → post (-1) σ)))
def L_T_numberStates_93 (post : St → Prop) : Nat → Int32 → St → Prop
  | 0, _, _ => False
  | n + 1, x1, σ => (((σ.1 5) ≤ x1 → post σ) ∧ (¬ (σ.1 5) ≤ x1 → (vp_in x1 120 ∧ (vp_in (σ.2 4 x1.toNatClampNeg) 120 ∧ (vp_in x1 120 ∧ L_T_numberStates_93 post n (x1 + 1) (ua σ 6 x1.toNatClampNeg (σ.2 6 (σ.2 4 x1.toNatClampNeg).toNatClampNeg)))))))
def L_T_numberStates_35 (post : St → Prop) (K : Int32 → St → Prop) : Nat → Int32 → Int32 → St → Prop
  | 0, _, _, _ => False
  | n + 1, x1, x2, σ => (((σ.1 4) ≤ x2 → K (x1 + 1) σ) ∧ (¬ (σ.1 4) ≤ x2 → (vp_in x1 120 ∧ (wp_T_leaderAfter_7 (σ.2 7 x1.toNatClampNeg) x2 σ (fun r7 σ7 => ((r7 = (-1) → L_T_numberStates_35 post K n x1 (x2 + 1) σ7) ∧ (¬ r7 = (-1) → (vp_in r7 120 ∧ ((¬ (σ7.2 6 r7.toNatClampNeg) = (-1) → L_T_numberStates_35 post K n x1 (x2 + 1) σ7) ∧ ((σ7.2 6 r7.toNatClampNeg) = (-1) → (wp_T_numberState r7 σ7 (fun σ9 => L_T_numberStates_35 post K n x1 (x2 + 1) σ9))))))))))))
def L_T_numberStates_25 (post : St → Prop) : Nat → Int32 → St → Prop
  | 0, _, _ => False
  | n + 1, x1, σ => (((σ.1 6) ≤ x1 → ∃ n2, L_T_numberStates_93 post n2 0 σ) ∧ (¬ (σ.1 6) ≤ x1 → ∃ n2, L_T_numberStates_35 post (fun y0 σ => L_T_numberStates_25 post n y0 σ) n2 x1 0 σ))
def wp_T_numberStates (σ : St) (post : St → Prop) : Prop := (wp_A_fill4_9 0 (σ.1 5) (-1) σ (fun σ1 => (wp_T_numberState 0 (us σ1 6 0) (fun σ2 => ∃ n2, L_T_numberStates_25 post n2 0 σ2))))
def wp_T_build_1 (σ : St) (post : Int32 → St → Prop) : Prop := (wp_T_findSets_1 σ (fun r1 σ1 => ((¬ r1 = (-1) → (cpok 0 0 r1 120 120 ∧ (wp_T_laySteps_1 (uA (us (us σ1 4 (σ1.1 2)) 5 r1) 1 (va_cpy ((us (us σ1 4 (σ1.1 2)) 5 r1).2 2) ((us (us σ1 4 (σ1.1 2)) 5 r1).2 1) ((0 : Int32).toNatClampNeg) ((0 : Int32).toNatClampNeg) r1.toNatClampNeg)) (fun σ3 => (wp_T_partSets σ3 (fun σ4 => (wp_T_numberStates σ4 (fun σ5 => post 1 σ5)))))))) ∧ (r1 = (-1) → post 0 σ1))))
def wp_W_make (σ : St) (post : Int32 → St → Prop) : Prop := (wp_T_build_1 σ (fun r1 σ1 => ((¬ r1 = 0 → post ((us σ1 0 0).1 6) (us σ1 0 0)) ∧ (r1 = 0 → post (-1) σ1))))
def L_M_led_5 (post : Int32 → St → Prop) : Nat → Int32 → Int32 → Int32 → Int32 → St → Prop
  | 0, _, _, _, _, _ => False
  | n + 1, x1, x2, x3, x4, σ => (((σ.1 1) ≤ x4 → post x3 σ) ∧ (¬ (σ.1 1) ≤ x4 → ((¬ ((x1 >>> (x4 &&& 31)) &&& 1) = 1 → L_M_led_5 post n x1 x2 (x3 ||| 0) (x4 + 1) σ) ∧ (((x1 >>> (x4 &&& 31)) &&& 1) = 1 → (vp_in (((nI 24) * x2) + x4) 960 ∧ L_M_led_5 post n x1 x2 (x3 ||| (σ.2 0 (((nI 24) * x2) + x4).toNatClampNeg)) (x4 + 1) σ)))))
def wp_M_led (x1 x2 : Int32) (σ : St) (post : Int32 → St → Prop) : Prop := ∃ n2, L_M_led_5 post n2 x1 x2 0 0 σ
def L_M_follow_47 (post : Int32 → St → Prop) (K : Int32 → Int32 → Int32 → St → Prop) : Nat → Int32 → Int32 → Int32 → Int32 → Int32 → St → Prop
  | 0, _, _, _, _, _, _ => False
  | n + 1, x1, x2, x3, x4, x5, σ => ((x1 ≤ x5 → ((x4 = 0 → ((¬ x4 = 0 → (vp_in (((nI 40) * x2) + x3) 4800 ∧ K x1 x2 (x3 + 1) (ua σ 8 (((nI 40) * x2) + x3).toNatClampNeg x5))) ∧ (x4 = 0 → (vp_in (((nI 40) * x2) + x3) 4800 ∧ K x1 x2 (x3 + 1) (ua σ 8 (((nI 40) * x2) + x3).toNatClampNeg (-1)))))) ∧ (¬ x4 = 0 → ((¬ x5 = x1 → ((¬ x4 = 0 → (vp_in (((nI 40) * x2) + x3) 4800 ∧ K x1 x2 (x3 + 1) (ua σ 8 (((nI 40) * x2) + x3).toNatClampNeg x5))) ∧ (x4 = 0 → (vp_in (((nI 40) * x2) + x3) 4800 ∧ K x1 x2 (x3 + 1) (ua σ 8 (((nI 40) * x2) + x3).toNatClampNeg (-1)))))) ∧ (x5 = x1 → ((¬ x1 = (nI 120) → (vp_in x1 121 ∧ ((¬ x4 = 0 → (vp_in (((nI 40) * x2) + x3) 4800 ∧ K (x1 + 1) x2 (x3 + 1) (ua (ua σ 7 x1.toNatClampNeg x4) 8 (((nI 40) * x2) + x3).toNatClampNeg x5))) ∧ (x4 = 0 → (vp_in (((nI 40) * x2) + x3) 4800 ∧ K (x1 + 1) x2 (x3 + 1) (ua (ua σ 7 x1.toNatClampNeg x4) 8 (((nI 40) * x2) + x3).toNatClampNeg (-1))))))) ∧ (x1 = (nI 120) → post (-1) σ))))))) ∧ (¬ x1 ≤ x5 → (vp_in x5 121 ∧ (((σ.2 7 x5.toNatClampNeg) = x4 → ((x4 = 0 → ((¬ x4 = 0 → (vp_in (((nI 40) * x2) + x3) 4800 ∧ K x1 x2 (x3 + 1) (ua σ 8 (((nI 40) * x2) + x3).toNatClampNeg x5))) ∧ (x4 = 0 → (vp_in (((nI 40) * x2) + x3) 4800 ∧ K x1 x2 (x3 + 1) (ua σ 8 (((nI 40) * x2) + x3).toNatClampNeg (-1)))))) ∧ (¬ x4 = 0 → ((¬ x5 = x1 → ((¬ x4 = 0 → (vp_in (((nI 40) * x2) + x3) 4800 ∧ K x1 x2 (x3 + 1) (ua σ 8 (((nI 40) * x2) + x3).toNatClampNeg x5))) ∧ (x4 = 0 → (vp_in (((nI 40) * x2) + x3) 4800 ∧ K x1 x2 (x3 + 1) (ua σ 8 (((nI 40) * x2) + x3).toNatClampNeg (-1)))))) ∧ (x5 = x1 → ((¬ x1 = (nI 120) → (vp_in x1 121 ∧ ((¬ x4 = 0 → (vp_in (((nI 40) * x2) + x3) 4800 ∧ K (x1 + 1) x2 (x3 + 1) (ua (ua σ 7 x1.toNatClampNeg x4) 8 (((nI 40) * x2) + x3).toNatClampNeg x5))) ∧ (x4 = 0 → (vp_in (((nI 40) * x2) + x3) 4800 ∧ K (x1 + 1) x2 (x3 + 1) (ua (ua σ 7 x1.toNatClampNeg x4) 8 (((nI 40) * x2) + x3).toNatClampNeg (-1))))))) ∧ (x1 = (nI 120) → post (-1) σ))))))) ∧ (¬ (σ.2 7 x5.toNatClampNeg) = x4 → L_M_follow_47 post K n x1 x2 x3 x4 (x5 + 1) σ)))))
def L_M_follow_23 (post : Int32 → St → Prop) (K : Int32 → Int32 → St → Prop) : Nat → Int32 → Int32 → Int32 → St → Prop
  | 0, _, _, _, _ => False
  | n + 1, x1, x2, x3, σ => (((σ.1 2) ≤ x3 → K x1 (x2 + 1) σ) ∧ (¬ (σ.1 2) ≤ x3 → (vp_in x2 121 ∧ (wp_M_led (σ.2 7 x2.toNatClampNeg) x3 σ (fun r3 σ3 => ∃ n2, L_M_follow_47 post (fun y0 y1 y2 σ => L_M_follow_23 post K n y0 y1 y2 σ) n2 x1 x2 x3 r3 0 σ3)))))
def L_M_follow_16 (post : Int32 → St → Prop) : Nat → Int32 → Int32 → St → Prop
  | 0, _, _, _ => False
  | n + 1, x1, x2, σ => ((x1 ≤ x2 → post x1 σ) ∧ (¬ x1 ≤ x2 → ∃ n2, L_M_follow_23 post (fun y0 y1 σ => L_M_follow_16 post n y0 y1 σ) n2 x1 x2 0 σ))
def wp_M_follow (σ : St) (post : Int32 → St → Prop) : Prop := (vp_in 0 121 ∧ ∃ n2, L_M_follow_16 post n2 1 0 (ua σ 7 ((0 : Int32).toNatClampNeg) (1 <<< ((σ.1 3) &&& 31))))
def L_M_tell_24 (post : Int32 → St → Prop) (K : Int32 → Int32 → Int32 → Int32 → St → Prop) : Nat → Int32 → Int32 → Int32 → Int32 → Int32 → St → Prop
  | 0, _, _, _, _, _, _ => False
  | n + 1, x1, x2, x3, x4, x5, σ => (((σ.1 5) ≤ x5 → (vp_in (((nI 120) * x3) + x4) 14400 ∧ (vp_in (((nI 120) * x4) + x3) 14400 ∧ (vp_in (((nI 120) * x3) + x4) 14400 ∧ (vp_in (((nI 120) * x4) + x3) 14400 ∧ K x1 x2 x3 (x4 + 1) (ua (ua σ 3 (((nI 120) * x4) + x3).toNatClampNeg (σ.2 3 (((nI 120) * x3) + x4).toNatClampNeg)) 4 (((nI 120) * x4) + x3).toNatClampNeg ((ua σ 3 (((nI 120) * x4) + x3).toNatClampNeg (σ.2 3 (((nI 120) * x3) + x4).toNatClampNeg)).2 4 (((nI 120) * x3) + x4).toNatClampNeg))))))) ∧ (¬ (σ.1 5) ≤ x5 → (vp_in (((nI 120) * x3) + x4) 14400 ∧ ((¬ (σ.2 3 (((nI 120) * x3) + x4).toNatClampNeg) = 0 → (vp_in (((nI 120) * x3) + x4) 14400 ∧ (vp_in (((nI 120) * x4) + x3) 14400 ∧ (vp_in (((nI 120) * x3) + x4) 14400 ∧ (vp_in (((nI 120) * x4) + x3) 14400 ∧ K x1 x2 x3 (x4 + 1) (ua (ua σ 3 (((nI 120) * x4) + x3).toNatClampNeg (σ.2 3 (((nI 120) * x3) + x4).toNatClampNeg)) 4 (((nI 120) * x4) + x3).toNatClampNeg ((ua σ 3 (((nI 120) * x4) + x3).toNatClampNeg (σ.2 3 (((nI 120) * x3) + x4).toNatClampNeg)).2 4 (((nI 120) * x3) + x4).toNatClampNeg))))))) ∧ ((σ.2 3 (((nI 120) * x3) + x4).toNatClampNeg) = 0 → (vp_in (((nI 40) * x3) + x5) 4800 ∧ (vp_in (((nI 40) * x4) + x5) 4800 ∧ ((¬ x1 = 1 → (((σ.2 2 (((nI 40) * x3) + x5).toNatClampNeg) < 0 → L_M_tell_24 post K n x1 x2 x3 x4 (x5 + 1) σ) ∧ (¬ (σ.2 2 (((nI 40) * x3) + x5).toNatClampNeg) < 0 → (((σ.2 2 (((nI 40) * x4) + x5).toNatClampNeg) < 0 → L_M_tell_24 post K n x1 x2 x3 x4 (x5 + 1) σ) ∧ (¬ (σ.2 2 (((nI 40) * x4) + x5).toNatClampNeg) < 0 → (vp_in (((nI 120) * (σ.2 2 (((nI 40) * x3) + x5).toNatClampNeg)) + (σ.2 2 (((nI 40) * x4) + x5).toNatClampNeg)) 14400 ∧ ((¬ (σ.2 3 (((nI 120) * (σ.2 2 (((nI 40) * x3) + x5).toNatClampNeg)) + (σ.2 2 (((nI 40) * x4) + x5).toNatClampNeg)).toNatClampNeg) = (x1 - 1) → L_M_tell_24 post K n x1 x2 x3 x4 (x5 + 1) σ) ∧ ((σ.2 3 (((nI 120) * (σ.2 2 (((nI 40) * x3) + x5).toNatClampNeg)) + (σ.2 2 (((nI 40) * x4) + x5).toNatClampNeg)).toNatClampNeg) = (x1 - 1) → (vp_in (((nI 120) * x3) + x4) 14400 ∧ (vp_in (((nI 120) * x3) + x4) 14400 ∧ L_M_tell_24 post K n x1 1 x3 x4 (x5 + 1) (ua (ua σ 3 (((nI 120) * x3) + x4).toNatClampNeg x1) 4 (((nI 120) * x3) + x4).toNatClampNeg x5))))))))))) ∧ (x1 = 1 → ((0 ≤ (σ.2 2 (((nI 40) * x3) + x5).toNatClampNeg) → ((0 ≤ (σ.2 2 (((nI 40) * x4) + x5).toNatClampNeg) → L_M_tell_24 post K n x1 x2 x3 x4 (x5 + 1) σ) ∧ (¬ 0 ≤ (σ.2 2 (((nI 40) * x4) + x5).toNatClampNeg) → (vp_in (((nI 120) * x3) + x4) 14400 ∧ (vp_in (((nI 120) * x3) + x4) 14400 ∧ L_M_tell_24 post K n x1 1 x3 x4 (x5 + 1) (ua (ua σ 3 (((nI 120) * x3) + x4).toNatClampNeg x1) 4 (((nI 120) * x3) + x4).toNatClampNeg x5)))))) ∧ (¬ 0 ≤ (σ.2 2 (((nI 40) * x3) + x5).toNatClampNeg) → ((0 ≤ (σ.2 2 (((nI 40) * x4) + x5).toNatClampNeg) → (vp_in (((nI 120) * x3) + x4) 14400 ∧ (vp_in (((nI 120) * x3) + x4) 14400 ∧ L_M_tell_24 post K n x1 1 x3 x4 (x5 + 1) (ua (ua σ 3 (((nI 120) * x3) + x4).toNatClampNeg x1) 4 (((nI 120) * x3) + x4).toNatClampNeg x5)))) ∧ (¬ 0 ≤ (σ.2 2 (((nI 40) * x4) + x5).toNatClampNeg) → L_M_tell_24 post K n x1 x2 x3 x4 (x5 + 1) σ)))))))))))))
def L_M_tell_15 (post : Int32 → St → Prop) (K : Int32 → Int32 → Int32 → St → Prop) : Nat → Int32 → Int32 → Int32 → Int32 → St → Prop
  | 0, _, _, _, _, _ => False
  | n + 1, x1, x2, x3, x4, σ => ((x3 ≤ x4 → K x1 x2 (x3 + 1) σ) ∧ (¬ x3 ≤ x4 → ∃ n2, L_M_tell_24 post (fun y0 y1 y2 y3 σ => L_M_tell_15 post K n y0 y1 y2 y3 σ) n2 x1 x2 x3 x4 0 σ))
def L_M_tell_4 (post : Int32 → St → Prop) : Nat → Int32 → Int32 → Int32 → St → Prop
  | 0, _, _, _, _ => False
  | n + 1, x1, x2, x3, σ => (((σ.1 4) ≤ x3 → (zb x2 ∧ post x2 σ)) ∧ (¬ (σ.1 4) ≤ x3 → ∃ n2, L_M_tell_15 post (fun y0 y1 y2 σ => L_M_tell_4 post n y0 y1 y2 σ) n2 x1 x2 x3 0 σ))
def wp_M_tell (x1 : Int32) (σ : St) (post : Int32 → St → Prop) : Prop := ∃ n2, L_M_tell_4 post n2 x1 0 0 σ
def L_M_leastLike_2 (post : Int32 → St → Prop) : Nat → Int32 → Int32 → St → Prop
  | 0, _, _, _ => False
  | n + 1, x1, x2, σ => (vp_in (((nI 120) * x1) + x2) 14400 ∧ (((σ.2 3 (((nI 120) * x1) + x2).toNatClampNeg) ≤ 0 → post x2 σ) ∧ (¬ (σ.2 3 (((nI 120) * x1) + x2).toNatClampNeg) ≤ 0 → L_M_leastLike_2 post n x1 (x2 + 1) σ)))
def wp_M_leastLike (x1 : Int32) (σ : St) (post : Int32 → St → Prop) : Prop := ∃ n2, L_M_leastLike_2 post n2 x1 0 σ
def L_M_make_288 (post : Int32 → St → Prop) : Nat → Int32 → Int32 → Int32 → St → Prop
  | 0, _, _, _, _ => False
  | n + 1, x1, x2, x3, σ => ((x1 ≤ x3 → post ((us σ 7 0).1 6) (us σ 7 0)) ∧ (¬ x1 ≤ x3 → (wp_M_leastLike x3 σ (fun r5 σ5 => (vp_in r5 120 ∧ (vp_in x3 120 ∧ L_M_make_288 post n x1 x2 (x3 + 1) (ua σ5 5 x3.toNatClampNeg (σ5.2 5 r5.toNatClampNeg))))))))
def L_M_make_182 (post : Int32 → St → Prop) (K : Int32 → Int32 → Int32 → St → Prop) : Nat → Int32 → Int32 → Int32 → Int32 → St → Prop
  | 0, _, _, _, _, _ => False
  | n + 1, x1, x2, x3, x4, σ => (((σ.1 2) ≤ x4 → K x1 x2 (x3 + 1) σ) ∧ (¬ (σ.1 2) ≤ x4 → (vp_in x3 120 ∧ (vp_in (((nI 40) * (σ.2 6 x3.toNatClampNeg)) + x4) 4800 ∧ ((0 ≤ (σ.2 2 (((nI 40) * (σ.2 6 x3.toNatClampNeg)) + x4).toNatClampNeg) → (wp_M_leastLike (σ.2 2 (((nI 40) * (σ.2 6 x3.toNatClampNeg)) + x4).toNatClampNeg) σ (fun r10 σ10 => (((σ.2 2 (((nI 40) * (σ.2 6 x3.toNatClampNeg)) + x4).toNatClampNeg) < 0 → L_M_make_182 post K n x1 x2 x3 (x4 + 1) σ10) ∧ (¬ (σ.2 2 (((nI 40) * (σ.2 6 x3.toNatClampNeg)) + x4).toNatClampNeg) < 0 → (vp_in r10 120 ∧ ((0 ≤ (σ10.2 5 r10.toNatClampNeg) → L_M_make_182 post K n x1 x2 x3 (x4 + 1) σ10) ∧ (¬ 0 ≤ (σ10.2 5 r10.toNatClampNeg) → (vp_in r10 120 ∧ (vp_in ((ua σ10 5 r10.toNatClampNeg (σ10.1 6)).1 6) 120 ∧ L_M_make_182 post K n x1 x2 x3 (x4 + 1) (us (ua (ua σ10 5 r10.toNatClampNeg (σ10.1 6)) 6 ((ua σ10 5 r10.toNatClampNeg (σ10.1 6)).1 6).toNatClampNeg r10) 6 (((ua (ua σ10 5 r10.toNatClampNeg (σ10.1 6)) 6 ((ua σ10 5 r10.toNatClampNeg (σ10.1 6)).1 6).toNatClampNeg r10).1 6) + 1)))))))))))) ∧ (¬ 0 ≤ (σ.2 2 (((nI 40) * (σ.2 6 x3.toNatClampNeg)) + x4).toNatClampNeg) → (((σ.2 2 (((nI 40) * (σ.2 6 x3.toNatClampNeg)) + x4).toNatClampNeg) < 0 → L_M_make_182 post K n x1 x2 x3 (x4 + 1) σ) ∧ (¬ (σ.2 2 (((nI 40) * (σ.2 6 x3.toNatClampNeg)) + x4).toNatClampNeg) < 0 → (vp_in 0 120 ∧ ((0 ≤ (σ.2 5 ((0 : Int32).toNatClampNeg)) → L_M_make_182 post K n x1 x2 x3 (x4 + 1) σ) ∧ (¬ 0 ≤ (σ.2 5 ((0 : Int32).toNatClampNeg)) → (vp_in 0 120 ∧ (vp_in ((ua σ 5 ((0 : Int32).toNatClampNeg) (σ.1 6)).1 6) 120 ∧ L_M_make_182 post K n x1 x2 x3 (x4 + 1) (us (ua (ua σ 5 ((0 : Int32).toNatClampNeg) (σ.1 6)) 6 ((ua σ 5 ((0 : Int32).toNatClampNeg) (σ.1 6)).1 6).toNatClampNeg 0) 6 (((ua (ua σ 5 ((0 : Int32).toNatClampNeg) (σ.1 6)) 6 ((ua σ 5 ((0 : Int32).toNatClampNeg) (σ.1 6)).1 6).toNatClampNeg 0).1 6) + 1)))))))))))))))
def L_M_make_171 (post : Int32 → St → Prop) : Nat → Int32 → Int32 → Int32 → St → Prop
  | 0, _, _, _, _ => False
  | n + 1, x1, x2, x3, σ => (((σ.1 6) ≤ x3 → ∃ n2, L_M_make_288 post n2 x1 x2 0 σ) ∧ (¬ (σ.1 6) ≤ x3 → ∃ n2, L_M_make_182 post (fun y0 y1 y2 σ => L_M_make_171 post n y0 y1 y2 σ) n2 x1 x2 x3 0 σ))
def L_M_make_132 (post : Int32 → St → Prop) : Nat → Int32 → Int32 → Int32 → St → Prop
  | 0, _, _, _, _ => False
  | n + 1, x1, x2, x3, σ => ((x1 ≤ x3 → (vp_in 0 120 ∧ (vp_in 0 120 ∧ ∃ n2, L_M_make_171 post n2 x1 x2 0 (us (ua (ua σ 5 ((0 : Int32).toNatClampNeg) 0) 6 ((0 : Int32).toNatClampNeg) 0) 6 1)))) ∧ (¬ x1 ≤ x3 → (vp_in x3 120 ∧ L_M_make_132 post n x1 x2 (x3 + 1) (ua σ 5 x3.toNatClampNeg (-1)))))
def L_M_make_116 (post : Int32 → St → Prop) : Nat → Int32 → Int32 → St → Prop
  | 0, _, _, _ => False
  | n + 1, x1, x2, σ => (wp_M_tell x2 σ (fun r2 σ2 => ((r2 = 0 → ∃ n2, L_M_make_132 post n2 x1 x2 0 σ2) ∧ (¬ r2 = 0 → L_M_make_116 post n x1 (x2 + 1) σ2))))
def L_M_make_94 (post : Int32 → St → Prop) : Nat → Int32 → Int32 → St → Prop
  | 0, _, _, _ => False
  | n + 1, x1, x2, σ => (((nI 14400) ≤ x2 → ∃ n2, L_M_make_116 post n2 x1 1 σ) ∧ (¬ (nI 14400) ≤ x2 → (vp_in x2 14400 ∧ L_M_make_94 post n x1 (x2 + 1) (ua σ 3 x2.toNatClampNeg 0))))
def L_M_make_50 (post : Int32 → St → Prop) (K : Int32 → Int32 → St → Prop) : Nat → Int32 → Int32 → Int32 → St → Prop
  | 0, _, _, _, _ => False
  | n + 1, x1, x2, x3, σ => (((σ.1 2) ≤ x3 → K x1 (x2 + 1) σ) ∧ (¬ (σ.1 2) ≤ x3 → (vp_in (((nI 40) * x2) + x3) 4800 ∧ (vp_in (((nI 40) * x2) + x3) 4800 ∧ L_M_make_50 post K n x1 x2 (x3 + 1) (ua σ 2 (((nI 40) * x2) + x3).toNatClampNeg (σ.2 8 (((nI 40) * x2) + x3).toNatClampNeg))))))
def L_M_make_31 (post : Int32 → St → Prop) : Nat → Int32 → Int32 → St → Prop
  | 0, _, _, _ => False
  | n + 1, x1, x2, σ => ((x1 ≤ x2 → ∃ n2, L_M_make_94 post n2 x1 0 σ) ∧ (¬ x1 ≤ x2 → (vp_in x2 121 ∧ (vp_in x2 120 ∧ ∃ n2, L_M_make_50 post (fun y0 y1 σ => L_M_make_31 post n y0 y1 σ) n2 x1 x2 0 (ua σ 1 x2.toNatClampNeg (σ.2 7 x2.toNatClampNeg))))))
def wp_M_make (σ : St) (post : Int32 → St → Prop) : Prop := (wp_M_follow (us σ 0 0) (fun r1 σ1 => ((0 ≤ r1 → ∃ n2, L_M_make_31 post n2 r1 0 (us (us σ1 4 r1) 5 ((us σ1 4 r1).1 2))) ∧ (¬ 0 ≤ r1 → post (-1) σ1))))
def wp_W_home (σ : St) (post : St → Prop) : Prop := post (us σ 0 0)
def wp_M_home (σ : St) (post : St → Prop) : Prop := post (us (us σ 0 0) 7 0)
def wp_T_hasState (x1 : Int32) (σ : St) (post : Int32 → St → Prop) : Prop := ((x1 < 0 → post 0 σ) ∧ (¬ x1 < 0 → (((σ.1 6) ≤ x1 → post 0 σ) ∧ (¬ (σ.1 6) ≤ x1 → post 1 σ))))
def wp_T_hasLetter (x1 : Int32) (σ : St) (post : Int32 → St → Prop) : Prop := ((x1 < 0 → post 0 σ) ∧ (¬ x1 < 0 → (((σ.1 4) ≤ x1 → post 0 σ) ∧ (¬ (σ.1 4) ≤ x1 → post 1 σ))))
def wp_T_stateAfter (x1 x2 : Int32) (σ : St) (post : Int32 → St → Prop) : Prop := (vp_in x1 120 ∧ (vp_in (((σ.2 7 x1.toNatClampNeg) * (nI 40)) + x2) 4800 ∧ ((¬ (σ.2 3 (((σ.2 7 x1.toNatClampNeg) * (nI 40)) + x2).toNatClampNeg) = (-1) → (vp_in (σ.2 3 (((σ.2 7 x1.toNatClampNeg) * (nI 40)) + x2).toNatClampNeg) 120 ∧ post (σ.2 6 (σ.2 3 (((σ.2 7 x1.toNatClampNeg) * (nI 40)) + x2).toNatClampNeg).toNatClampNeg) σ)) ∧ ((σ.2 3 (((σ.2 7 x1.toNatClampNeg) * (nI 40)) + x2).toNatClampNeg) = (-1) → post (-1) σ))))
def wp_W_to (x1 x2 : Int32) (σ : St) (post : Int32 → St → Prop) : Prop := (wp_T_hasState x1 σ (fun r1 σ1 => ((r1 = 0 → post (-1) σ1) ∧ (¬ r1 = 0 → (wp_T_hasLetter x2 σ1 (fun r2 σ2 => ((¬ r2 = 0 → (wp_T_stateAfter x1 x2 σ2 (fun r3 σ3 => post r3 σ3))) ∧ (r2 = 0 → post (-1) σ2))))))))
def wp_W_go (x1 : Int32) (σ : St) (post : Int32 → St → Prop) : Prop := (wp_W_to (σ.1 0) x1 σ (fun r1 σ1 => ((r1 = (-1) → post r1 σ1) ∧ (¬ r1 = (-1) → post r1 (us σ1 0 r1)))))
def wp_M_next (x1 x2 : Int32) (σ : St) (post : Int32 → St → Prop) : Prop := (vp_in x1 120 ∧ (vp_in (((nI 40) * (σ.2 6 x1.toNatClampNeg)) + x2) 4800 ∧ ((0 ≤ (σ.2 2 (((nI 40) * (σ.2 6 x1.toNatClampNeg)) + x2).toNatClampNeg) → (vp_in (σ.2 2 (((nI 40) * (σ.2 6 x1.toNatClampNeg)) + x2).toNatClampNeg) 120 ∧ post (σ.2 5 (σ.2 2 (((nI 40) * (σ.2 6 x1.toNatClampNeg)) + x2).toNatClampNeg).toNatClampNeg) σ)) ∧ (¬ 0 ≤ (σ.2 2 (((nI 40) * (σ.2 6 x1.toNatClampNeg)) + x2).toNatClampNeg) → post (-1) σ))))
def wp_M_go (x1 : Int32) (σ : St) (post : Int32 → St → Prop) : Prop := ((x1 < 0 → post (-1) (us (us σ 0 0) 7 ((us σ 0 0).1 7))) ∧ (¬ x1 < 0 → ((x1 < ((us σ 0 0).1 5) → (wp_M_next ((us σ 0 0).1 7) x1 (us σ 0 0) (fun r1 σ1 => ((0 ≤ r1 → post r1 (us σ1 7 r1)) ∧ (¬ 0 ≤ r1 → post r1 (us σ1 7 (σ1.1 7))))))) ∧ (¬ x1 < ((us σ 0 0).1 5) → post (-1) (us (us σ 0 0) 7 ((us σ 0 0).1 7))))))
def wp_M_isState (x1 : Int32) (σ : St) (post : Int32 → St → Prop) : Prop := ((x1 < 0 → post 0 σ) ∧ (¬ x1 < 0 → (((σ.1 6) ≤ x1 → post 0 σ) ∧ (¬ (σ.1 6) ≤ x1 → post 1 σ))))
def wp_M_to (x1 x2 : Int32) (σ : St) (post : Int32 → St → Prop) : Prop := (wp_M_isState x1 (us σ 0 0) (fun r1 σ1 => ((r1 = 0 → post (-1) σ1) ∧ (¬ r1 = 0 → ((x2 < 0 → post (-1) σ1) ∧ (¬ x2 < 0 → ((x2 < (σ1.1 5) → (wp_M_next x1 x2 σ1 (fun r2 σ2 => post r2 σ2))) ∧ (¬ x2 < (σ1.1 5) → post (-1) σ1))))))))
def wp_T_hasSet (x1 : Int32) (σ : St) (post : Int32 → St → Prop) : Prop := ((x1 < 0 → post 0 σ) ∧ (¬ x1 < 0 → (((σ.1 5) ≤ x1 → post 0 σ) ∧ (¬ (σ.1 5) ≤ x1 → post 1 σ))))
def wp_W_nodes (x1 : Int32) (σ : St) (post : Int32 → St → Prop) : Prop := (wp_T_hasSet x1 σ (fun r1 σ1 => ((r1 = 0 → post 0 σ1) ∧ (¬ r1 = 0 → (vp_in x1 120 ∧ post (σ1.2 1 x1.toNatClampNeg) σ1)))))
def wp_M_nodes (x1 : Int32) (σ : St) (post : Int32 → St → Prop) : Prop := ((x1 < 0 → post 0 (us σ 0 0)) ∧ (¬ x1 < 0 → ((x1 < ((us σ 0 0).1 4) → (vp_in x1 120 ∧ post ((us σ 0 0).2 1 x1.toNatClampNeg) (us σ 0 0))) ∧ (¬ x1 < ((us σ 0 0).1 4) → post 0 (us σ 0 0)))))
def wp_W_state (x1 : Int32) (σ : St) (post : Int32 → St → Prop) : Prop := (wp_T_hasSet x1 σ (fun r1 σ1 => ((r1 = 0 → post (-1) σ1) ∧ (¬ r1 = 0 → (vp_in x1 120 ∧ post (σ1.2 6 x1.toNatClampNeg) σ1)))))
def wp_M_state (x1 : Int32) (σ : St) (post : Int32 → St → Prop) : Prop := ((x1 < 0 → post (-1) (us σ 0 0)) ∧ (¬ x1 < 0 → ((x1 < ((us σ 0 0).1 4) → (vp_in x1 120 ∧ post ((us σ 0 0).2 5 x1.toNatClampNeg) (us σ 0 0))) ∧ (¬ x1 < ((us σ 0 0).1 4) → post (-1) (us σ 0 0)))))
def wp_T_rowLength (x1 x2 : Int32) (σ : St) (post : Int32 → St → Prop) : Prop := ((¬ x1 = x2 → (vp_in x1 120 ∧ (vp_in x2 120 ∧ (wp_T_pair (σ.2 7 x1.toNatClampNeg) (σ.2 7 x2.toNatClampNeg) σ (fun r3 σ3 => (vp_in r3 7140 ∧ post (σ3.2 8 r3.toNatClampNeg) σ3)))))) ∧ (x1 = x2 → post 0 σ))
def wp_W_apart (x1 x2 : Int32) (σ : St) (post : Int32 → St → Prop) : Prop := (wp_T_hasState x1 σ (fun r1 σ1 => ((r1 = 0 → post (-1) σ1) ∧ (¬ r1 = 0 → (wp_T_hasState x2 σ1 (fun r2 σ2 => ((¬ r2 = 0 → (wp_T_rowLength x1 x2 σ2 (fun r3 σ3 => post r3 σ3))) ∧ (r2 = 0 → post (-1) σ2))))))))
def wp_M_apart (x1 x2 : Int32) (σ : St) (post : Int32 → St → Prop) : Prop := (wp_M_isState x1 (us σ 0 0) (fun r1 σ1 => ((r1 = 0 → post (-1) σ1) ∧ (¬ r1 = 0 → (wp_M_isState x2 σ1 (fun r2 σ2 => ((r2 = 0 → post (-1) σ2) ∧ (¬ r2 = 0 → (wp_M_isState x1 σ2 (fun r3 σ3 => ((r3 = 0 → (vp_in 0 120 ∧ (wp_M_isState x2 σ3 (fun r5 σ5 => ((r5 = 0 → (vp_in 0 120 ∧ (vp_in (((nI 120) * (σ3.2 6 ((0 : Int32).toNatClampNeg))) + (σ5.2 6 ((0 : Int32).toNatClampNeg))) 14400 ∧ post (σ5.2 3 (((nI 120) * (σ3.2 6 ((0 : Int32).toNatClampNeg))) + (σ5.2 6 ((0 : Int32).toNatClampNeg))).toNatClampNeg) σ5))) ∧ (¬ r5 = 0 → (vp_in x2 120 ∧ (vp_in (((nI 120) * (σ3.2 6 ((0 : Int32).toNatClampNeg))) + (σ5.2 6 x2.toNatClampNeg)) 14400 ∧ post (σ5.2 3 (((nI 120) * (σ3.2 6 ((0 : Int32).toNatClampNeg))) + (σ5.2 6 x2.toNatClampNeg)).toNatClampNeg) σ5)))))))) ∧ (¬ r3 = 0 → (vp_in x1 120 ∧ (wp_M_isState x2 σ3 (fun r11 σ11 => ((r11 = 0 → (vp_in 0 120 ∧ (vp_in (((nI 120) * (σ3.2 6 x1.toNatClampNeg)) + (σ11.2 6 ((0 : Int32).toNatClampNeg))) 14400 ∧ post (σ11.2 3 (((nI 120) * (σ3.2 6 x1.toNatClampNeg)) + (σ11.2 6 ((0 : Int32).toNatClampNeg))).toNatClampNeg) σ11))) ∧ (¬ r11 = 0 → (vp_in x2 120 ∧ (vp_in (((nI 120) * (σ3.2 6 x1.toNatClampNeg)) + (σ11.2 6 x2.toNatClampNeg)) 14400 ∧ post (σ11.2 3 (((nI 120) * (σ3.2 6 x1.toNatClampNeg)) + (σ11.2 6 x2.toNatClampNeg)).toNatClampNeg) σ11)))))))))))))))))))
def wp_T_lengthBehind (x1 x2 : Int32) (σ : St) (post : Int32 → St → Prop) : Prop := ((x1 = (-1) → post 0 σ) ∧ (¬ x1 = (-1) → ((¬ x2 = (-1) → (wp_T_pair x1 x2 σ (fun r1 σ1 => (vp_in r1 7140 ∧ post (σ1.2 8 r1.toNatClampNeg) σ1)))) ∧ (x2 = (-1) → post 0 σ))))
def L_T_leastLetter_3 (post : Int32 → St → Prop) : Nat → Int32 → Int32 → Int32 → Int32 → St → Prop
  | 0, _, _, _, _, _ => False
  | n + 1, x1, x2, x3, x4, σ => (((σ.1 4) ≤ x4 → post (-1) σ) ∧ (¬ (σ.1 4) ≤ x4 → (wp_T_leaderAfter_7 x1 x4 σ (fun r1 σ1 => (wp_T_leaderAfter_7 x2 x4 σ1 (fun r2 σ2 => ((r1 = r2 → L_T_leastLetter_3 post n x1 x2 x3 (x4 + 1) σ2) ∧ (¬ r1 = r2 → (wp_T_lengthBehind r1 r2 σ2 (fun r3 σ3 => ((¬ r3 = x3 → L_T_leastLetter_3 post n x1 x2 x3 (x4 + 1) σ3) ∧ (r3 = x3 → post x4 σ3))))))))))))
def wp_T_leastLetter (x1 x2 x3 : Int32) (σ : St) (post : Int32 → St → Prop) : Prop := ∃ n2, L_T_leastLetter_3 post n2 x1 x2 x3 0 σ
def L_T_rowLetter_41 (post : Int32 → St → Prop) : Nat → Int32 → Int32 → Int32 → Int32 → Int32 → Int32 → Int32 → Int32 → St → Prop
  | 0, _, _, _, _, _, _, _, _, _ => False
  | n + 1, x1, x2, x3, x4, x5, x6, x7, x8, σ => ((x3 ≤ x8 → post x7 σ) ∧ (¬ x3 ≤ x8 → ((x7 = (-1) → post x7 σ) ∧ (¬ x7 = (-1) → (wp_T_leaderAfter_7 x4 x7 σ (fun r5 σ5 => (wp_T_leaderAfter_7 x5 x7 σ5 (fun r6 σ6 => ((r5 = (-1) → post (-1) σ6) ∧ (¬ r5 = (-1) → ((¬ r6 = (-1) → (wp_T_leastLetter r5 r6 (x6 + (-1)) σ6 (fun r7 σ7 => L_T_rowLetter_41 post n x1 x2 x3 r5 r6 (x6 + (-1)) r7 (x8 + 1) σ7))) ∧ (r6 = (-1) → post (-1) σ6))))))))))))
def wp_T_rowLetter (x1 x2 x3 : Int32) (σ : St) (post : Int32 → St → Prop) : Prop := (vp_in x1 120 ∧ (vp_in x2 120 ∧ (wp_T_rowLength x1 x2 σ (fun r3 σ3 => (wp_T_leastLetter (σ.2 7 x1.toNatClampNeg) (σ.2 7 x2.toNatClampNeg) (r3 - 1) σ3 (fun r4 σ4 => ∃ n2, L_T_rowLetter_41 post n2 x1 x2 x3 (σ.2 7 x1.toNatClampNeg) (σ.2 7 x2.toNatClampNeg) (r3 - 1) r4 0 σ4))))))
def wp_W_apartBy (x1 x2 x3 : Int32) (σ : St) (post : Int32 → St → Prop) : Prop := ((x3 < 0 → post (-1) σ) ∧ (¬ x3 < 0 → (wp_W_apart x1 x2 σ (fun r1 σ1 => ((x3 < r1 → (wp_T_rowLetter x1 x2 x3 σ1 (fun r2 σ2 => post r2 σ2))) ∧ (¬ x3 < r1 → post (-1) σ1))))))
def L_M_apartBy_71 (post : Int32 → St → Prop) : Nat → Int32 → Int32 → Int32 → Int32 → Int32 → Int32 → St → Prop
  | 0, _, _, _, _, _, _, _ => False
  | n + 1, x1, x2, x3, x4, x5, x6, σ => ((x3 ≤ x6 → (vp_in (((nI 120) * x4) + x5) 14400 ∧ post (σ.2 4 (((nI 120) * x4) + x5).toNatClampNeg) σ)) ∧ (¬ x3 ≤ x6 → (vp_in (((nI 120) * x4) + x5) 14400 ∧ (vp_in (((nI 40) * x4) + (σ.2 4 (((nI 120) * x4) + x5).toNatClampNeg)) 4800 ∧ (vp_in (((nI 40) * x5) + (σ.2 4 (((nI 120) * x4) + x5).toNatClampNeg)) 4800 ∧ L_M_apartBy_71 post n x1 x2 x3 (σ.2 2 (((nI 40) * x4) + (σ.2 4 (((nI 120) * x4) + x5).toNatClampNeg)).toNatClampNeg) (σ.2 2 (((nI 40) * x5) + (σ.2 4 (((nI 120) * x4) + x5).toNatClampNeg)).toNatClampNeg) (x6 + 1) σ)))))
def wp_M_apartBy (x1 x2 x3 : Int32) (σ : St) (post : Int32 → St → Prop) : Prop := (wp_M_isState x1 (us σ 0 0) (fun r1 σ1 => ((r1 = 0 → post (-1) σ1) ∧ (¬ r1 = 0 → (wp_M_isState x2 σ1 (fun r2 σ2 => ((r2 = 0 → post (-1) σ2) ∧ (¬ r2 = 0 → ((x3 < 0 → post (-1) σ2) ∧ (¬ x3 < 0 → (vp_in x1 120 ∧ (vp_in x2 120 ∧ (vp_in (((nI 120) * (σ2.2 6 x1.toNatClampNeg)) + (σ2.2 6 x2.toNatClampNeg)) 14400 ∧ ((x3 < (σ2.2 3 (((nI 120) * (σ2.2 6 x1.toNatClampNeg)) + (σ2.2 6 x2.toNatClampNeg)).toNatClampNeg) → (vp_in x1 120 ∧ (vp_in x2 120 ∧ ∃ n2, L_M_apartBy_71 post n2 x1 x2 x3 (σ2.2 6 x1.toNatClampNeg) (σ2.2 6 x2.toNatClampNeg) 0 σ2))) ∧ (¬ x3 < (σ2.2 3 (((nI 120) * (σ2.2 6 x1.toNatClampNeg)) + (σ2.2 6 x2.toNatClampNeg)).toNatClampNeg) → post (-1) σ2)))))))))))))))
def wp_W_is (x1 x2 x3 : Int32) (σ : St) (post : Int32 → St → Prop) : Prop := (wp_G_canHold x1 x2 x3 σ (fun r1 σ1 => ((r1 = 0 → post 0 σ1) ∧ (¬ r1 = 0 → (wp_G_holds x1 x2 x3 σ1 (fun r2 σ2 => ((r2 = 0 → post 0 σ2) ∧ (¬ r2 = 0 → post 1 σ2))))))))
def wp_I_bitCount1 (x0 : Int32) (σ : St) (post : Int32 → St → Prop) : Prop := (∀ y1 : Int32, y1 = (((x0 - ((ush x0 1) &&& (1431655765 : Int32))) &&& (858993459 : Int32)) + ((ush (x0 - ((ush x0 1) &&& (1431655765 : Int32))) (nI 2)) &&& (858993459 : Int32))) → (∀ y2 : Int32, y2 = (((y1 + (ush y1 (nI 4))) &&& (252645135 : Int32)) + (ush ((y1 + (ush y1 (nI 4))) &&& (252645135 : Int32)) (nI 8))) → post ((y2 + (ush y2 (nI 16))) &&& (nI 63)) σ))
def L_G_countWays_4 (post : Int32 → St → Prop) : Nat → Int32 → Int32 → St → Prop
  | 0, _, _, _ => False
  | n + 1, x1, x2, σ => (((nI 960) ≤ x2 → post x1 σ) ∧ (¬ (nI 960) ≤ x2 → (vp_in x2 960 ∧ (wp_I_bitCount1 (σ.2 0 x2.toNatClampNeg) σ (fun r2 σ2 => L_G_countWays_4 post n (x1 + r2) (x2 + 1) σ2)))))
def wp_G_countWays (σ : St) (post : Int32 → St → Prop) : Prop := ∃ n2, L_G_countWays_4 post n2 0 0 σ
def L_T_countGoing_14 (post : Int32 → St → Prop) (K : Int32 → Int32 → St → Prop) : Nat → Int32 → Int32 → Int32 → St → Prop
  | 0, _, _, _, _ => False
  | n + 1, x1, x2, x3, σ => (((σ.1 4) ≤ x3 → K x1 (x2 + 1) σ) ∧ (¬ (σ.1 4) ≤ x3 → (wp_T_stateAfter x2 x3 σ (fun r1 σ1 => ((r1 = (-1) → L_T_countGoing_14 post K n x1 x2 (x3 + 1) σ1) ∧ (¬ r1 = (-1) → L_T_countGoing_14 post K n (x1 + 1) x2 (x3 + 1) σ1))))))
def L_T_countGoing_4 (post : Int32 → St → Prop) : Nat → Int32 → Int32 → St → Prop
  | 0, _, _, _ => False
  | n + 1, x1, x2, σ => (((σ.1 6) ≤ x2 → post x1 σ) ∧ (¬ (σ.1 6) ≤ x2 → ∃ n2, L_T_countGoing_14 post (fun y0 y1 σ => L_T_countGoing_4 post n y0 y1 σ) n2 x1 x2 0 σ))
def wp_T_countGoing (σ : St) (post : Int32 → St → Prop) : Prop := ∃ n2, L_T_countGoing_4 post n2 0 0 σ
def wp_W_look (x1 : Int32) (σ : St) (post : Int32 → St → Prop) : Prop := ((x1 = nI 0 → post (σ.1 1) σ) ∧ (x1 = nI 1 → post (σ.1 2) σ) ∧ (x1 = nI 2 → (wp_G_countWays σ (fun r1 σ1 => post r1 σ1))) ∧ (x1 = nI 3 → post (σ.1 3) σ) ∧ (x1 = nI 4 → post (σ.1 5) σ) ∧ (x1 = nI 5 → post (σ.1 6) σ) ∧ (x1 = nI 6 → post (σ.1 4) σ) ∧ (x1 = nI 7 → (wp_T_countGoing σ (fun r2 σ2 => post r2 σ2))) ∧ (x1 = nI 8 → post (σ.1 7) σ) ∧ (x1 = nI 9 → post (σ.1 0) σ) ∧ ((∀ j, j < 10 → ¬ x1 = nI j) → post (-1) σ))
def L_M_wayMany_17 (post : Int32 → St → Prop) (K : Int32 → Int32 → St → Prop) : Nat → Int32 → Int32 → Int32 → St → Prop
  | 0, _, _, _, _ => False
  | n + 1, x1, x2, x3, σ => (((σ.1 1) ≤ x3 → K x1 (x2 + 1) σ) ∧ (¬ (σ.1 1) ≤ x3 → (vp_in x2 960 ∧ L_M_wayMany_17 post K n (x1 + (((σ.2 0 x2.toNatClampNeg) >>> (x3 &&& 31)) &&& 1)) x2 (x3 + 1) σ)))
def L_M_wayMany_4 (post : Int32 → St → Prop) : Nat → Int32 → Int32 → St → Prop
  | 0, _, _, _ => False
  | n + 1, x1, x2, σ => ((((nI 24) * (σ.1 2)) ≤ x2 → post x1 σ) ∧ (¬ ((nI 24) * (σ.1 2)) ≤ x2 → ∃ n2, L_M_wayMany_17 post (fun y0 y1 σ => L_M_wayMany_4 post n y0 y1 σ) n2 x1 x2 0 σ))
def wp_M_wayMany (σ : St) (post : Int32 → St → Prop) : Prop := ∃ n2, L_M_wayMany_4 post n2 0 0 σ
def L_M_somewhere_14 (post : Int32 → St → Prop) (K : Int32 → Int32 → St → Prop) : Nat → Int32 → Int32 → Int32 → St → Prop
  | 0, _, _, _, _ => False
  | n + 1, x1, x2, x3, σ => (((σ.1 5) ≤ x3 → K x1 (x2 + 1) σ) ∧ (¬ (σ.1 5) ≤ x3 → (wp_M_next x2 x3 σ (fun r1 σ1 => ((r1 < 0 → L_M_somewhere_14 post K n (x1 + 0) x2 (x3 + 1) σ1) ∧ (¬ r1 < 0 → L_M_somewhere_14 post K n (x1 + 1) x2 (x3 + 1) σ1))))))
def L_M_somewhere_4 (post : Int32 → St → Prop) : Nat → Int32 → Int32 → St → Prop
  | 0, _, _, _ => False
  | n + 1, x1, x2, σ => (((σ.1 6) ≤ x2 → post x1 σ) ∧ (¬ (σ.1 6) ≤ x2 → ∃ n2, L_M_somewhere_14 post (fun y0 y1 σ => L_M_somewhere_4 post n y0 y1 σ) n2 x1 x2 0 σ))
def wp_M_somewhere (σ : St) (post : Int32 → St → Prop) : Prop := ∃ n2, L_M_somewhere_4 post n2 0 0 σ
def L_M_longest_14 (post : Int32 → St → Prop) (K : Int32 → Int32 → St → Prop) : Nat → Int32 → Int32 → Int32 → St → Prop
  | 0, _, _, _, _ => False
  | n + 1, x1, x2, x3, σ => ((x2 ≤ x3 → K x1 (x2 + 1) σ) ∧ (¬ x2 ≤ x3 → (vp_in x2 120 ∧ (vp_in x3 120 ∧ (vp_in (((nI 120) * (σ.2 6 x2.toNatClampNeg)) + (σ.2 6 x3.toNatClampNeg)) 14400 ∧ (((σ.2 3 (((nI 120) * (σ.2 6 x2.toNatClampNeg)) + (σ.2 6 x3.toNatClampNeg)).toNatClampNeg) ≤ x1 → L_M_longest_14 post K n x1 x2 (x3 + 1) σ) ∧ (¬ (σ.2 3 (((nI 120) * (σ.2 6 x2.toNatClampNeg)) + (σ.2 6 x3.toNatClampNeg)).toNatClampNeg) ≤ x1 → L_M_longest_14 post K n (σ.2 3 (((nI 120) * (σ.2 6 x2.toNatClampNeg)) + (σ.2 6 x3.toNatClampNeg)).toNatClampNeg) x2 (x3 + 1) σ)))))))
def L_M_longest_4 (post : Int32 → St → Prop) : Nat → Int32 → Int32 → St → Prop
  | 0, _, _, _ => False
  | n + 1, x1, x2, σ => (((σ.1 6) ≤ x2 → post x1 σ) ∧ (¬ (σ.1 6) ≤ x2 → ∃ n2, L_M_longest_14 post (fun y0 y1 σ => L_M_longest_4 post n y0 y1 σ) n2 x1 x2 0 σ))
def wp_M_longest (σ : St) (post : Int32 → St → Prop) : Prop := ∃ n2, L_M_longest_4 post n2 0 0 σ
def wp_M_look (x1 : Int32) (σ : St) (post : Int32 → St → Prop) : Prop := ((x1 = nI 0 → post ((us σ 0 0).1 1) (us σ 0 0)) ∧ (x1 = nI 1 → post ((us σ 0 0).1 2) (us σ 0 0)) ∧ (x1 = nI 2 → (wp_M_wayMany (us σ 0 0) (fun r1 σ1 => post r1 σ1))) ∧ (x1 = nI 3 → post ((us σ 0 0).1 3) (us σ 0 0)) ∧ (x1 = nI 4 → post ((us σ 0 0).1 4) (us σ 0 0)) ∧ (x1 = nI 5 → post ((us σ 0 0).1 6) (us σ 0 0)) ∧ (x1 = nI 6 → post ((us σ 0 0).1 5) (us σ 0 0)) ∧ (x1 = nI 7 → (wp_M_somewhere (us σ 0 0) (fun r2 σ2 => post r2 σ2))) ∧ (x1 = nI 8 → (wp_M_longest (us σ 0 0) (fun r3 σ3 => post r3 σ3))) ∧ (x1 = nI 9 → post ((us σ 0 0).1 7) (us σ 0 0)) ∧ ((∀ j, j < 10 → ¬ x1 = nI j) → post (-1) (us σ 0 0)))
end
section
def rm_A_fill2_2 : Room := { frames := 0, cells := 0, slots := 0, locals := 0 }
set_option maxHeartbeats 4000000 in
set_option maxRecDepth 100000 in
theorem wL_A_fill2_2_5 {Z : ZT} {q : Nat → Nat} {post : St → Prop} (X : Cx Z "java/util/Arrays" b_A_fill2 rm_A_fill2_2 4) (hR : RV Z b_A_fill2 (wC (zI Z) q) post) : ∀ (n : Nat) (x1 x2 x3 : Int32) (σ : St), L_A_fill2_2_5 post n x1 x2 x3 σ → VV Z 0 0 (wC (zI Z) q σ) [(0, .ref (q 2)), (1, .int x1), (2, .int x2), (3, .int x3)] 5 [] := by
  intro n
  induction n with
  | zero => intro x1 x2 x3 σ hw; exact False.elim hw
  | succ n ih =>
    intro x1 x2 x3 σ hw
    unfold L_A_fill2_2_5 at hw
    refine x_iload_n (pc := 5) X d_A_fill2_5 2 rfl ?_
    refine x_iload_n (pc := 6) X d_A_fill2_6 3 rfl ?_
    refine x_icmp_ge (pc := 7) (tgt := 20) X d_A_fill2_7 (by decide) (fun c => ?_) (fun c => ?_)
    · have hw := hw.1 c
      exact hR _ _ _ d_A_fill2_20 hw
    · have hw := hw.2 c
      refine x_aload_n (pc := 10) X d_A_fill2_10 0 rfl ?_
      refine x_iload_n (pc := 11) X d_A_fill2_11 2 rfl ?_
      refine x_iload_n (pc := 12) X d_A_fill2_12 1 rfl ?_
      obtain ⟨h1, hw⟩ := hw
      refine x_iast (pc := 13) (ws' := (wC (zI Z) q (ua σ 0 x2.toNatClampNeg x1))) X 2 (atC_2 _ _ _) h1 (stC_2 _ _ _ _) d_A_fill2_13 ?_
      refine x_iinc (pc := 14) (d := 1) (lv' := [(0, .ref (q 2)), (1, .int x1), (2, .int (x2 + 1)), (3, .int x3)]) X d_A_fill2_14 2 rfl (by decide) (by decide) [1, 2, 0, 3] rfl ?_
      refine x_goto (pc := 17) (tgt := 5) X d_A_fill2_17 (by decide) ?_
      exact ih x1 (x2 + 1) x3 (ua σ 0 x2.toNatClampNeg x1) hw
set_option maxHeartbeats 4000000 in
set_option maxRecDepth 100000 in
theorem c_A_fill2_2 (l : Launch) (D : va_G) (cI : ClassId) (q : Nat → Nat) (σ : St) (x1 : Int32) (post : St → Prop) (hw : wp_A_fill2_2 x1 σ post) : CV l D cI (wC cI q) y_A_fill2 b_A_fill2 4 rm_A_fill2_2 [.ref (q 2), .int x1] σ post := by
  refine CV_of (by decide) (Nat.le_of_ble_eq_true rfl) ?_
  intro Z hZl hZD hZI X hR
  subst hZl; subst hZD; subst hZI
  unfold wp_A_fill2_2 at hw
  show VV Z 0 0 (wC (zI Z) q σ) [(0, .ref (q 2)), (1, .int x1)] 0 []
  refine x_iconst (pc := 0) (v := 0) X d_A_fill2_0 (by decide) ?_
  refine x_istore_n (pc := 1) (lv' := [(0, .ref (q 2)), (1, .int x1), (2, .int 0)]) X d_A_fill2_1 (by decide) [1, 2, 0] rfl ?_
  refine x_aload_n (pc := 2) X d_A_fill2_2 0 rfl ?_
  refine x_alen (pc := 3) X 2 (atC_2 _ _ _) d_A_fill2_3 ?_
  refine x_istore_n (pc := 4) (lv' := [(0, .ref (q 2)), (1, .int x1), (2, .int 0), (3, .int (nI 960))]) X d_A_fill2_4 (by decide) [1, 2, 3, 0] rfl ?_
  obtain ⟨n2, hw⟩ := hw
  exact wL_A_fill2_2_5 X hR n2 x1 0 (nI 960) σ hw
def rm_G_clear : Room := { frames := 1, cells := 0, slots := 0, locals := 23 }
set_option maxHeartbeats 4000000 in
set_option maxRecDepth 100000 in
theorem c_G_clear (l : Launch) (D : va_G) (cI : ClassId) (q : Nat → Nat) (σ : St) (x1 x2 : Int32) (post : St → Prop) (hw : wp_G_clear x1 x2 σ post) : CV l D cI (wC cI q) y_G_clear b_G_clear 3 rm_G_clear [.ref (q 1), .int x1, .int x2] σ post := by
  refine CV_of (by decide) (Nat.le_of_ble_eq_true rfl) ?_
  intro Z hZl hZD hZI X hR
  subst hZl; subst hZD; subst hZI
  unfold wp_G_clear at hw
  show VV Z 0 0 (wC (zI Z) q σ) [(0, .ref (q 1)), (1, .int x1), (2, .int x2)] 0 []
  refine x_aload_n (pc := 0) X d_G_clear_0 0 rfl ?_
  refine x_iload_n (pc := 1) X d_G_clear_1 1 rfl ?_
  refine x_put (pc := 2) (ws' := (wC (zI Z) q (us σ 1 x1))) X tb_G 1 0 (by decide) mw_1 (atC_1 _ _ _) rfl pI (Nat.le_of_ble_eq_true rfl) (ptC_1 _ _ _ _) d_G_clear_2 ?_
  refine x_aload_n (pc := 5) X d_G_clear_5 0 rfl ?_
  refine x_iload_n (pc := 6) X d_G_clear_6 2 rfl ?_
  refine x_put (pc := 7) (ws' := (wC (zI Z) q (us (us σ 1 x1) 2 x2))) X tb_G 1 1 (by decide) mw_2 (atC_1 _ _ _) rfl pI (Nat.le_of_ble_eq_true rfl) (ptC_2 _ _ _ _) d_G_clear_7 ?_
  refine x_aload_n (pc := 10) X d_G_clear_10 0 rfl ?_
  refine x_iconst (pc := 11) (v := 0) X d_G_clear_11 (by decide) ?_
  refine x_put (pc := 12) (ws' := (wC (zI Z) q (us (us (us σ 1 x1) 2 x2) 3 0))) X tb_G 1 2 (by decide) mw_3 (atC_1 _ _ _) rfl pI (Nat.le_of_ble_eq_true rfl) (ptC_3 _ _ _ _) d_G_clear_12 ?_
  refine x_aload_n (pc := 15) X d_G_clear_15 0 rfl ?_
  refine x_get (pc := 16) X tb_G 1 3 (by decide) mw_4 (atC_1 _ _ _) rfl d_G_clear_16 ?_
  refine x_iconst (pc := 19) (v := 0) X d_G_clear_19 (by decide) ?_
  refine x_csv (pc := 20) X [.ref (q 2), .int 0] (c_A_fill2_2 (zl Z) (zD Z) (zI Z) q (us (us (us σ 1 x1) 2 x2) 3 0) 0 _ hw) ms_A_fill2 mw_5 d_G_clear_20 rfl (Nat.le_of_ble_eq_true rfl) ⟨Nat.le_of_ble_eq_true rfl, Nat.le_of_ble_eq_true rfl⟩ ⟨rfl, rfl⟩ ⟨Nat.zero_le _, Nat.zero_le _⟩ ?_
  intro σ1 hw
  exact hR _ _ _ d_G_clear_23 hw
def rm_W_begin : Room := { frames := 2, cells := 0, slots := 0, locals := 45 }
set_option maxHeartbeats 4000000 in
set_option maxRecDepth 100000 in
theorem c_W_begin (l : Launch) (D : va_G) (cI : ClassId) (q : Nat → Nat) (σ : St) (x1 x2 : Int32) (post : Int32 → St → Prop) (hw : wp_W_begin x1 x2 σ post) : CI l D cI (wC cI q) y_W_begin b_W_begin 3 .boolean rm_W_begin [.ref (q 0), .int x1, .int x2] σ post := by
  refine CI_of (by decide) (Nat.le_of_ble_eq_true rfl) ?_
  intro Z hZl hZD hZI X hR
  subst hZl; subst hZD; subst hZI
  unfold wp_W_begin at hw
  show VV Z 0 0 (wC (zI Z) q σ) [(0, .ref (q 0)), (1, .int x1), (2, .int x2)] 0 []
  refine x_iload_n (pc := 0) X d_W_begin_0 1 rfl ?_
  refine x_iconst (pc := 1) (v := 1) X d_W_begin_1 (by decide) ?_
  refine x_icmp_lt (pc := 2) (tgt := 22) X d_W_begin_2 (by decide) (fun c => ?_) (fun c => ?_)
  · have hw := hw.1 c
    refine x_iconst (pc := 22) (v := 0) X d_W_begin_22 (by decide) ?_
    exact hR _ _ _ _ d_W_begin_23 rfl hw
  · have hw := hw.2 c
    refine x_iload_n (pc := 5) X d_W_begin_5 1 rfl ?_
    refine x_bipush (pc := 6) (v := (nI 24)) X d_W_begin_6 (by decide) ?_
    refine x_icmp_gt (pc := 8) (tgt := 22) X d_W_begin_8 (by decide) (fun c => ?_) (fun c => ?_)
    · have hw := hw.1 c
      refine x_iconst (pc := 22) (v := 0) X d_W_begin_22 (by decide) ?_
      exact hR _ _ _ _ d_W_begin_23 rfl hw
    · have hw := hw.2 c
      refine x_iload_n (pc := 11) X d_W_begin_11 2 rfl ?_
      refine x_iconst (pc := 12) (v := 1) X d_W_begin_12 (by decide) ?_
      refine x_icmp_lt (pc := 13) (tgt := 22) X d_W_begin_13 (by decide) (fun c => ?_) (fun c => ?_)
      · have hw := hw.1 c
        refine x_iconst (pc := 22) (v := 0) X d_W_begin_22 (by decide) ?_
        exact hR _ _ _ _ d_W_begin_23 rfl hw
      · have hw := hw.2 c
        refine x_iload_n (pc := 16) X d_W_begin_16 2 rfl ?_
        refine x_bipush (pc := 17) (v := (nI 40)) X d_W_begin_17 (by decide) ?_
        refine x_icmp_le (pc := 19) (tgt := 24) X d_W_begin_19 (by decide) (fun c => ?_) (fun c => ?_)
        · have hw := hw.1 c
          refine x_aload_n (pc := 24) X d_W_begin_24 0 rfl ?_
          refine x_get (pc := 25) X tb_W 0 0 (by decide) mw_0 (atC_0 _ _ _) rfl d_W_begin_25 ?_
          refine x_iload_n (pc := 28) X d_W_begin_28 1 rfl ?_
          refine x_iload_n (pc := 29) X d_W_begin_29 2 rfl ?_
          refine x_cnv (pc := 30) X [.int x1, .int x2] (c_G_clear (zl Z) (zD Z) (zI Z) q σ x1 x2 _ hw) mv_G_clear tb_G 1 (atC_1 _ _ _) nw_6 d_W_begin_30 rfl (Nat.le_of_ble_eq_true rfl) ⟨Nat.le_of_ble_eq_true rfl, Nat.le_of_ble_eq_true rfl⟩ ⟨rfl, rfl⟩ ⟨Nat.zero_le _, Nat.zero_le _⟩ ?_
          intro σ1 hw
          refine x_iconst (pc := 33) (v := 1) X d_W_begin_33 (by decide) ?_
          exact hR _ _ _ _ d_W_begin_34 rfl hw
        · have hw := hw.2 c
          refine x_iconst (pc := 22) (v := 0) X d_W_begin_22 (by decide) ?_
          exact hR _ _ _ _ d_W_begin_23 rfl hw
def rm_M_begin : Room := { frames := 0, cells := 0, slots := 0, locals := 0 }
set_option maxHeartbeats 4000000 in
set_option maxRecDepth 100000 in
theorem wL_M_begin_46 {Z : ZT} {q : Nat → Nat} {post : Int32 → St → Prop} (X : Cx Z "WayTableModel" b_M_begin rm_M_begin 4) (hR : RI Z b_M_begin .boolean (wM (zI Z) q) post) : ∀ (n : Nat) (x1 x2 x3 : Int32) (σ : St), L_M_begin_46 post n x1 x2 x3 σ → VV Z 0 0 (wM (zI Z) q σ) [(0, .ref (q 0)), (1, .int x1), (2, .int x2), (3, .int x3)] 46 [] := by
  intro n
  induction n with
  | zero => intro x1 x2 x3 σ hw; exact False.elim hw
  | succ n ih =>
    intro x1 x2 x3 σ hw
    unfold L_M_begin_46 at hw
    refine x_iload_n (pc := 46) X d_M_begin_46 3 rfl ?_
    refine x_sipush (pc := 47) (v := (nI 960)) X d_M_begin_47 (by decide) ?_
    refine x_icmp_ge (pc := 50) (tgt := 66) X d_M_begin_50 (by decide) (fun c => ?_) (fun c => ?_)
    · have hw := hw.1 c
      refine x_iconst (pc := 66) (v := 1) X d_M_begin_66 (by decide) ?_
      exact hR _ _ _ _ d_M_begin_67 rfl hw
    · have hw := hw.2 c
      refine x_aload_n (pc := 53) X d_M_begin_53 0 rfl ?_
      refine x_get (pc := 54) X tb_M 0 4 (by decide) mw_11 (atM_0 _ _ _) rfl d_M_begin_54 ?_
      refine x_iload_n (pc := 57) X d_M_begin_57 3 rfl ?_
      refine x_iconst (pc := 58) (v := 0) X d_M_begin_58 (by decide) ?_
      obtain ⟨h1, hw⟩ := hw
      refine x_iast (pc := 59) (ws' := (wM (zI Z) q (ua σ 0 x3.toNatClampNeg 0))) X 1 (atM_1 _ _ _) h1 (stM_1 _ _ _ _) d_M_begin_59 ?_
      refine x_iinc (pc := 60) (d := 1) (lv' := [(0, .ref (q 0)), (1, .int x1), (2, .int x2), (3, .int (x3 + 1))]) X d_M_begin_60 3 rfl (by decide) (by decide) [1, 2, 3, 0] rfl ?_
      refine x_goto (pc := 63) (tgt := 46) X d_M_begin_63 (by decide) ?_
      exact ih x1 x2 (x3 + 1) (ua σ 0 x3.toNatClampNeg 0) hw
set_option maxHeartbeats 4000000 in
set_option maxRecDepth 100000 in
theorem c_M_begin (l : Launch) (D : va_G) (cI : ClassId) (q : Nat → Nat) (σ : St) (x1 x2 : Int32) (post : Int32 → St → Prop) (hw : wp_M_begin x1 x2 σ post) : CI l D cI (wM cI q) y_M_begin b_M_begin 4 .boolean rm_M_begin [.ref (q 0), .int x1, .int x2] σ post := by
  refine CI_of (by decide) (Nat.le_of_ble_eq_true rfl) ?_
  intro Z hZl hZD hZI X hR
  subst hZl; subst hZD; subst hZI
  unfold wp_M_begin at hw
  show VV Z 0 0 (wM (zI Z) q σ) [(0, .ref (q 0)), (1, .int x1), (2, .int x2)] 0 []
  refine x_aload_n (pc := 0) X d_M_begin_0 0 rfl ?_
  refine x_iconst (pc := 1) (v := 0) X d_M_begin_1 (by decide) ?_
  refine x_put (pc := 2) (ws' := (wM (zI Z) q (us σ 0 0))) X tb_M 0 0 (by decide) mw_7 (atM_0 _ _ _) rfl pI (Nat.le_of_ble_eq_true rfl) (ptM_0 _ _ _ _) d_M_begin_2 ?_
  refine x_iload_n (pc := 5) X d_M_begin_5 1 rfl ?_
  refine x_iconst (pc := 6) (v := 1) X d_M_begin_6 (by decide) ?_
  refine x_icmp_lt (pc := 7) (tgt := 27) X d_M_begin_7 (by decide) (fun c => ?_) (fun c => ?_)
  · have hw := hw.1 c
    refine x_iconst (pc := 27) (v := 0) X d_M_begin_27 (by decide) ?_
    exact hR _ _ _ _ d_M_begin_28 rfl hw
  · have hw := hw.2 c
    refine x_iload_n (pc := 10) X d_M_begin_10 1 rfl ?_
    refine x_bipush (pc := 11) (v := (nI 24)) X d_M_begin_11 (by decide) ?_
    refine x_icmp_gt (pc := 13) (tgt := 27) X d_M_begin_13 (by decide) (fun c => ?_) (fun c => ?_)
    · have hw := hw.1 c
      refine x_iconst (pc := 27) (v := 0) X d_M_begin_27 (by decide) ?_
      exact hR _ _ _ _ d_M_begin_28 rfl hw
    · have hw := hw.2 c
      refine x_iload_n (pc := 16) X d_M_begin_16 2 rfl ?_
      refine x_iconst (pc := 17) (v := 1) X d_M_begin_17 (by decide) ?_
      refine x_icmp_lt (pc := 18) (tgt := 27) X d_M_begin_18 (by decide) (fun c => ?_) (fun c => ?_)
      · have hw := hw.1 c
        refine x_iconst (pc := 27) (v := 0) X d_M_begin_27 (by decide) ?_
        exact hR _ _ _ _ d_M_begin_28 rfl hw
      · have hw := hw.2 c
        refine x_iload_n (pc := 21) X d_M_begin_21 2 rfl ?_
        refine x_bipush (pc := 22) (v := (nI 40)) X d_M_begin_22 (by decide) ?_
        refine x_icmp_le (pc := 24) (tgt := 29) X d_M_begin_24 (by decide) (fun c => ?_) (fun c => ?_)
        · have hw := hw.1 c
          refine x_aload_n (pc := 29) X d_M_begin_29 0 rfl ?_
          refine x_iload_n (pc := 30) X d_M_begin_30 1 rfl ?_
          refine x_put (pc := 31) (ws' := (wM (zI Z) q (us (us σ 0 0) 1 x1))) X tb_M 0 1 (by decide) mw_8 (atM_0 _ _ _) rfl pI (Nat.le_of_ble_eq_true rfl) (ptM_1 _ _ _ _) d_M_begin_31 ?_
          refine x_aload_n (pc := 34) X d_M_begin_34 0 rfl ?_
          refine x_iload_n (pc := 35) X d_M_begin_35 2 rfl ?_
          refine x_put (pc := 36) (ws' := (wM (zI Z) q (us (us (us σ 0 0) 1 x1) 2 x2))) X tb_M 0 2 (by decide) mw_9 (atM_0 _ _ _) rfl pI (Nat.le_of_ble_eq_true rfl) (ptM_2 _ _ _ _) d_M_begin_36 ?_
          refine x_aload_n (pc := 39) X d_M_begin_39 0 rfl ?_
          refine x_iconst (pc := 40) (v := 0) X d_M_begin_40 (by decide) ?_
          refine x_put (pc := 41) (ws' := (wM (zI Z) q (us (us (us (us σ 0 0) 1 x1) 2 x2) 3 0))) X tb_M 0 3 (by decide) mw_10 (atM_0 _ _ _) rfl pI (Nat.le_of_ble_eq_true rfl) (ptM_3 _ _ _ _) d_M_begin_41 ?_
          refine x_iconst (pc := 44) (v := 0) X d_M_begin_44 (by decide) ?_
          refine x_istore_n (pc := 45) (lv' := [(0, .ref (q 0)), (1, .int x1), (2, .int x2), (3, .int 0)]) X d_M_begin_45 (by decide) [1, 2, 3, 0] rfl ?_
          obtain ⟨n2, hw⟩ := hw
          exact wL_M_begin_46 X hR n2 x1 x2 0 (us (us (us (us σ 0 0) 1 x1) 2 x2) 3 0) hw
        · have hw := hw.2 c
          refine x_iconst (pc := 27) (v := 0) X d_M_begin_27 (by decide) ?_
          exact hR _ _ _ _ d_M_begin_28 rfl hw
def rm_G_hasNode : Room := { frames := 0, cells := 0, slots := 0, locals := 0 }
set_option maxHeartbeats 4000000 in
set_option maxRecDepth 100000 in
theorem c_G_hasNode (l : Launch) (D : va_G) (cI : ClassId) (q : Nat → Nat) (σ : St) (x1 : Int32) (post : Int32 → St → Prop) (hw : wp_G_hasNode x1 σ post) : CI l D cI (wC cI q) y_G_hasNode b_G_hasNode 2 .boolean rm_G_hasNode [.ref (q 1), .int x1] σ post := by
  refine CI_of (by decide) (Nat.le_of_ble_eq_true rfl) ?_
  intro Z hZl hZD hZI X hR
  subst hZl; subst hZD; subst hZI
  unfold wp_G_hasNode at hw
  show VV Z 0 0 (wC (zI Z) q σ) [(0, .ref (q 1)), (1, .int x1)] 0 []
  refine x_iload_n (pc := 0) X d_G_hasNode_0 1 rfl ?_
  refine x_if_lt (pc := 1) (tgt := 16) X d_G_hasNode_1 (by decide) (fun c => ?_) (fun c => ?_)
  · have hw := hw.1 c
    refine x_iconst (pc := 16) (v := 0) X d_G_hasNode_16 (by decide) ?_
    exact hR _ _ _ _ d_G_hasNode_17 rfl hw
  · have hw := hw.2 c
    refine x_iload_n (pc := 4) X d_G_hasNode_4 1 rfl ?_
    refine x_aload_n (pc := 5) X d_G_hasNode_5 0 rfl ?_
    refine x_get (pc := 6) X tb_G 1 0 (by decide) mw_1 (atC_1 _ _ _) rfl d_G_hasNode_6 ?_
    refine x_icmp_ge (pc := 9) (tgt := 16) X d_G_hasNode_9 (by decide) (fun c => ?_) (fun c => ?_)
    · have hw := hw.1 c
      refine x_iconst (pc := 16) (v := 0) X d_G_hasNode_16 (by decide) ?_
      exact hR _ _ _ _ d_G_hasNode_17 rfl hw
    · have hw := hw.2 c
      refine x_iconst (pc := 12) (v := 1) X d_G_hasNode_12 (by decide) ?_
      refine x_goto (pc := 13) (tgt := 17) X d_G_hasNode_13 (by decide) ?_
      exact hR _ _ _ _ d_G_hasNode_17 rfl hw
def rm_G_hasLetter : Room := { frames := 0, cells := 0, slots := 0, locals := 0 }
set_option maxHeartbeats 4000000 in
set_option maxRecDepth 100000 in
theorem c_G_hasLetter (l : Launch) (D : va_G) (cI : ClassId) (q : Nat → Nat) (σ : St) (x1 : Int32) (post : Int32 → St → Prop) (hw : wp_G_hasLetter x1 σ post) : CI l D cI (wC cI q) y_G_hasLetter b_G_hasLetter 2 .boolean rm_G_hasLetter [.ref (q 1), .int x1] σ post := by
  refine CI_of (by decide) (Nat.le_of_ble_eq_true rfl) ?_
  intro Z hZl hZD hZI X hR
  subst hZl; subst hZD; subst hZI
  unfold wp_G_hasLetter at hw
  show VV Z 0 0 (wC (zI Z) q σ) [(0, .ref (q 1)), (1, .int x1)] 0 []
  refine x_iload_n (pc := 0) X d_G_hasLetter_0 1 rfl ?_
  refine x_if_lt (pc := 1) (tgt := 16) X d_G_hasLetter_1 (by decide) (fun c => ?_) (fun c => ?_)
  · have hw := hw.1 c
    refine x_iconst (pc := 16) (v := 0) X d_G_hasLetter_16 (by decide) ?_
    exact hR _ _ _ _ d_G_hasLetter_17 rfl hw
  · have hw := hw.2 c
    refine x_iload_n (pc := 4) X d_G_hasLetter_4 1 rfl ?_
    refine x_aload_n (pc := 5) X d_G_hasLetter_5 0 rfl ?_
    refine x_get (pc := 6) X tb_G 1 1 (by decide) mw_2 (atC_1 _ _ _) rfl d_G_hasLetter_6 ?_
    refine x_icmp_ge (pc := 9) (tgt := 16) X d_G_hasLetter_9 (by decide) (fun c => ?_) (fun c => ?_)
    · have hw := hw.1 c
      refine x_iconst (pc := 16) (v := 0) X d_G_hasLetter_16 (by decide) ?_
      exact hR _ _ _ _ d_G_hasLetter_17 rfl hw
    · have hw := hw.2 c
      refine x_iconst (pc := 12) (v := 1) X d_G_hasLetter_12 (by decide) ?_
      refine x_goto (pc := 13) (tgt := 17) X d_G_hasLetter_13 (by decide) ?_
      exact hR _ _ _ _ d_G_hasLetter_17 rfl hw
def rm_G_canHold : Room := { frames := 1, cells := 0, slots := 0, locals := 21 }
set_option maxHeartbeats 4000000 in
set_option maxRecDepth 100000 in
theorem c_G_canHold (l : Launch) (D : va_G) (cI : ClassId) (q : Nat → Nat) (σ : St) (x1 x2 x3 : Int32) (post : Int32 → St → Prop) (hw : wp_G_canHold x1 x2 x3 σ post) : CI l D cI (wC cI q) y_G_canHold b_G_canHold 4 .boolean rm_G_canHold [.ref (q 1), .int x1, .int x2, .int x3] σ post := by
  refine CI_of (by decide) (Nat.le_of_ble_eq_true rfl) ?_
  intro Z hZl hZD hZI X hR
  subst hZl; subst hZD; subst hZI
  unfold wp_G_canHold at hw
  show VV Z 0 0 (wC (zI Z) q σ) [(0, .ref (q 1)), (1, .int x1), (2, .int x2), (3, .int x3)] 0 []
  refine x_aload_n (pc := 0) X d_G_canHold_0 0 rfl ?_
  refine x_iload_n (pc := 1) X d_G_canHold_1 1 rfl ?_
  refine x_cvi (pc := 2) X [.int x1] (c_G_hasNode (zl Z) (zD Z) (zI Z) q σ x1 _ hw) mv_G_hasNode tb_G 1 (atC_1 _ _ _) mw_12 d_G_canHold_2 rfl (Nat.le_of_ble_eq_true rfl) ⟨Nat.le_of_ble_eq_true rfl, Nat.le_of_ble_eq_true rfl⟩ ⟨rfl, rfl⟩ ⟨Nat.zero_le _, Nat.zero_le _⟩ ?_
  intro r1 σ1 hw
  refine x_if_eq (pc := 5) (tgt := 28) X d_G_canHold_5 (by decide) (fun c => ?_) (fun c => ?_)
  · have hw := hw.1 c
    refine x_iconst (pc := 28) (v := 0) X d_G_canHold_28 (by decide) ?_
    exact hR _ _ _ _ d_G_canHold_29 rfl hw
  · have hw := hw.2 c
    refine x_aload_n (pc := 8) X d_G_canHold_8 0 rfl ?_
    refine x_iload_n (pc := 9) X d_G_canHold_9 2 rfl ?_
    refine x_cvi (pc := 10) X [.int x2] (c_G_hasLetter (zl Z) (zD Z) (zI Z) q σ1 x2 _ hw) mv_G_hasLetter tb_G 1 (atC_1 _ _ _) mw_13 d_G_canHold_10 rfl (Nat.le_of_ble_eq_true rfl) ⟨Nat.le_of_ble_eq_true rfl, Nat.le_of_ble_eq_true rfl⟩ ⟨rfl, rfl⟩ ⟨Nat.zero_le _, Nat.zero_le _⟩ ?_
    intro r2 σ2 hw
    refine x_if_eq (pc := 13) (tgt := 28) X d_G_canHold_13 (by decide) (fun c => ?_) (fun c => ?_)
    · have hw := hw.1 c
      refine x_iconst (pc := 28) (v := 0) X d_G_canHold_28 (by decide) ?_
      exact hR _ _ _ _ d_G_canHold_29 rfl hw
    · have hw := hw.2 c
      refine x_aload_n (pc := 16) X d_G_canHold_16 0 rfl ?_
      refine x_iload_n (pc := 17) X d_G_canHold_17 3 rfl ?_
      refine x_cvi (pc := 18) X [.int x3] (c_G_hasNode (zl Z) (zD Z) (zI Z) q σ2 x3 _ hw) mv_G_hasNode tb_G 1 (atC_1 _ _ _) mw_12 d_G_canHold_18 rfl (Nat.le_of_ble_eq_true rfl) ⟨Nat.le_of_ble_eq_true rfl, Nat.le_of_ble_eq_true rfl⟩ ⟨rfl, rfl⟩ ⟨Nat.zero_le _, Nat.zero_le _⟩ ?_
      intro r3 σ3 hw
      refine x_if_eq (pc := 21) (tgt := 28) X d_G_canHold_21 (by decide) (fun c => ?_) (fun c => ?_)
      · have hw := hw.1 c
        refine x_iconst (pc := 28) (v := 0) X d_G_canHold_28 (by decide) ?_
        exact hR _ _ _ _ d_G_canHold_29 rfl hw
      · have hw := hw.2 c
        refine x_iconst (pc := 24) (v := 1) X d_G_canHold_24 (by decide) ?_
        refine x_goto (pc := 25) (tgt := 29) X d_G_canHold_25 (by decide) ?_
        exact hR _ _ _ _ d_G_canHold_29 rfl hw
def rm_G_place : Room := { frames := 0, cells := 0, slots := 0, locals := 0 }
set_option maxHeartbeats 4000000 in
set_option maxRecDepth 100000 in
theorem c_G_place (l : Launch) (D : va_G) (cI : ClassId) (q : Nat → Nat) (σ : St) (x0 x1 : Int32) (post : Int32 → St → Prop) (hw : wp_G_place x0 x1 σ post) : CI l D cI (wC cI q) y_G_place b_G_place 2 .int rm_G_place [.int x0, .int x1] σ post := by
  refine CI_of (by decide) (Nat.le_of_ble_eq_true rfl) ?_
  intro Z hZl hZD hZI X hR
  subst hZl; subst hZD; subst hZI
  unfold wp_G_place at hw
  show VV Z 0 0 (wC (zI Z) q σ) [(0, .int x0), (1, .int x1)] 0 []
  refine x_iload_n (pc := 0) X d_G_place_0 1 rfl ?_
  refine x_bipush (pc := 1) (v := (nI 24)) X d_G_place_1 (by decide) ?_
  refine x_imul (pc := 3) X d_G_place_3 ?_
  refine x_iload_n (pc := 4) X d_G_place_4 0 rfl ?_
  refine x_iadd (pc := 5) X d_G_place_5 ?_
  exact hR _ _ _ _ d_G_place_6 (vp_nar_int _) hw
def rm_G_holds : Room := { frames := 1, cells := 0, slots := 0, locals := 21 }
set_option maxHeartbeats 4000000 in
set_option maxRecDepth 100000 in
theorem c_G_holds (l : Launch) (D : va_G) (cI : ClassId) (q : Nat → Nat) (σ : St) (x1 x2 x3 : Int32) (post : Int32 → St → Prop) (hw : wp_G_holds x1 x2 x3 σ post) : CI l D cI (wC cI q) y_G_holds b_G_holds 4 .boolean rm_G_holds [.ref (q 1), .int x1, .int x2, .int x3] σ post := by
  refine CI_of (by decide) (Nat.le_of_ble_eq_true rfl) ?_
  intro Z hZl hZD hZI X hR
  subst hZl; subst hZD; subst hZI
  unfold wp_G_holds at hw
  show VV Z 0 0 (wC (zI Z) q σ) [(0, .ref (q 1)), (1, .int x1), (2, .int x2), (3, .int x3)] 0 []
  refine x_aload_n (pc := 0) X d_G_holds_0 0 rfl ?_
  refine x_get (pc := 1) X tb_G 1 3 (by decide) mw_4 (atC_1 _ _ _) rfl d_G_holds_1 ?_
  refine x_iload_n (pc := 4) X d_G_holds_4 1 rfl ?_
  refine x_iload_n (pc := 5) X d_G_holds_5 2 rfl ?_
  refine x_csi (pc := 6) X [.int x1, .int x2] (c_G_place (zl Z) (zD Z) (zI Z) q σ x1 x2 _ hw) ms_G_place mw_15 d_G_holds_6 rfl (Nat.le_of_ble_eq_true rfl) ⟨Nat.le_of_ble_eq_true rfl, Nat.le_of_ble_eq_true rfl⟩ ⟨rfl, rfl⟩ ⟨Nat.zero_le _, Nat.zero_le _⟩ ?_
  intro r1 σ1 hw
  obtain ⟨h2, hw⟩ := hw
  refine x_iald (pc := 9) X 2 (atC_2 _ _ _) h2 d_G_holds_9 ?_
  refine x_iload_n (pc := 10) X d_G_holds_10 3 rfl ?_
  refine x_iushr (pc := 11) X d_G_holds_11 ?_
  refine x_iconst (pc := 12) (v := 1) X d_G_holds_12 (by decide) ?_
  refine x_iand (pc := 13) X d_G_holds_13 ?_
  refine x_if_eq (pc := 14) (tgt := 21) X d_G_holds_14 (by decide) (fun c => ?_) (fun c => ?_)
  · have hw := hw.1 c
    refine x_iconst (pc := 21) (v := 0) X d_G_holds_21 (by decide) ?_
    exact hR _ _ _ _ d_G_holds_22 rfl hw
  · have hw := hw.2 c
    refine x_iconst (pc := 17) (v := 1) X d_G_holds_17 (by decide) ?_
    refine x_goto (pc := 18) (tgt := 22) X d_G_holds_18 (by decide) ?_
    exact hR _ _ _ _ d_G_holds_22 rfl hw
def rm_G_flip : Room := { frames := 1, cells := 0, slots := 0, locals := 21 }
set_option maxHeartbeats 4000000 in
set_option maxRecDepth 100000 in
theorem c_G_flip (l : Launch) (D : va_G) (cI : ClassId) (q : Nat → Nat) (σ : St) (x1 x2 x3 : Int32) (post : St → Prop) (hw : wp_G_flip x1 x2 x3 σ post) : CV l D cI (wC cI q) y_G_flip b_G_flip 4 rm_G_flip [.ref (q 1), .int x1, .int x2, .int x3] σ post := by
  refine CV_of (by decide) (Nat.le_of_ble_eq_true rfl) ?_
  intro Z hZl hZD hZI X hR
  subst hZl; subst hZD; subst hZI
  unfold wp_G_flip at hw
  show VV Z 0 0 (wC (zI Z) q σ) [(0, .ref (q 1)), (1, .int x1), (2, .int x2), (3, .int x3)] 0 []
  refine x_aload_n (pc := 0) X d_G_flip_0 0 rfl ?_
  refine x_get (pc := 1) X tb_G 1 3 (by decide) mw_4 (atC_1 _ _ _) rfl d_G_flip_1 ?_
  refine x_iload_n (pc := 4) X d_G_flip_4 1 rfl ?_
  refine x_iload_n (pc := 5) X d_G_flip_5 2 rfl ?_
  refine x_csi (pc := 6) X [.int x1, .int x2] (c_G_place (zl Z) (zD Z) (zI Z) q σ x1 x2 _ hw) ms_G_place mw_15 d_G_flip_6 rfl (Nat.le_of_ble_eq_true rfl) ⟨Nat.le_of_ble_eq_true rfl, Nat.le_of_ble_eq_true rfl⟩ ⟨rfl, rfl⟩ ⟨Nat.zero_le _, Nat.zero_le _⟩ ?_
  intro r1 σ1 hw
  refine x_dup2 (pc := 9) X d_G_flip_9 rfl rfl ?_
  obtain ⟨h2, hw⟩ := hw
  refine x_iald (pc := 10) X 2 (atC_2 _ _ _) h2 d_G_flip_10 ?_
  refine x_iconst (pc := 11) (v := 1) X d_G_flip_11 (by decide) ?_
  refine x_iload_n (pc := 12) X d_G_flip_12 3 rfl ?_
  refine x_ishl (pc := 13) X d_G_flip_13 ?_
  refine x_ixor (pc := 14) X d_G_flip_14 ?_
  obtain ⟨h3, hw⟩ := hw
  refine x_iast (pc := 15) (ws' := (wC (zI Z) q (ua σ1 0 r1.toNatClampNeg ((σ1.2 0 r1.toNatClampNeg) ^^^ (1 <<< (x3 &&& 31)))))) X 2 (atC_2 _ _ _) h3 (stC_2 _ _ _ _) d_G_flip_15 ?_
  exact hR _ _ _ d_G_flip_16 hw
def rm_W_way : Room := { frames := 2, cells := 0, slots := 0, locals := 44 }
set_option maxHeartbeats 4000000 in
set_option maxRecDepth 100000 in
theorem c_W_way (l : Launch) (D : va_G) (cI : ClassId) (q : Nat → Nat) (σ : St) (x1 x2 x3 x4 : Int32) (post : Int32 → St → Prop) (hw : wp_W_way x1 x2 x3 x4 σ post) : CI l D cI (wC cI q) y_W_way b_W_way 5 .boolean rm_W_way [.ref (q 0), .int x1, .int x2, .int x3, .int x4] σ post := by
  refine CI_of (by decide) (Nat.le_of_ble_eq_true rfl) ?_
  intro Z hZl hZD hZI X hR
  subst hZl; subst hZD; subst hZI
  unfold wp_W_way at hw
  show VV Z 0 0 (wC (zI Z) q σ) [(0, .ref (q 0)), (1, .int x1), (2, .int x2), (3, .int x3), (4, .int x4)] 0 []
  refine x_aload_n (pc := 0) X d_W_way_0 0 rfl ?_
  refine x_get (pc := 1) X tb_W 0 0 (by decide) mw_0 (atC_0 _ _ _) rfl d_W_way_1 ?_
  refine x_iload_n (pc := 4) X d_W_way_4 1 rfl ?_
  refine x_iload_n (pc := 5) X d_W_way_5 2 rfl ?_
  refine x_iload_n (pc := 6) X d_W_way_6 3 rfl ?_
  refine x_cni (pc := 7) X [.int x1, .int x2, .int x3] (c_G_canHold (zl Z) (zD Z) (zI Z) q σ x1 x2 x3 _ hw) mv_G_canHold tb_G 1 (atC_1 _ _ _) nw_14 d_W_way_7 rfl (Nat.le_of_ble_eq_true rfl) ⟨Nat.le_of_ble_eq_true rfl, Nat.le_of_ble_eq_true rfl⟩ ⟨rfl, rfl⟩ ⟨Nat.zero_le _, Nat.zero_le _⟩ ?_
  intro r1 σ1 hw
  refine x_if_eq (pc := 10) (tgt := 28) X d_W_way_10 (by decide) (fun c => ?_) (fun c => ?_)
  · have hw := hw.1 c
    refine x_iconst (pc := 28) (v := 0) X d_W_way_28 (by decide) ?_
    exact hR _ _ _ _ d_W_way_29 rfl hw
  · have hw := hw.2 c
    refine x_aload_n (pc := 13) X d_W_way_13 0 rfl ?_
    refine x_get (pc := 14) X tb_W 0 0 (by decide) mw_0 (atC_0 _ _ _) rfl d_W_way_14 ?_
    refine x_iload_n (pc := 17) X d_W_way_17 1 rfl ?_
    refine x_iload_n (pc := 18) X d_W_way_18 2 rfl ?_
    refine x_iload_n (pc := 19) X d_W_way_19 3 rfl ?_
    refine x_cni (pc := 20) X [.int x1, .int x2, .int x3] (c_G_holds (zl Z) (zD Z) (zI Z) q σ1 x1 x2 x3 _ hw) mv_G_holds tb_G 1 (atC_1 _ _ _) nw_16 d_W_way_20 rfl (Nat.le_of_ble_eq_true rfl) ⟨Nat.le_of_ble_eq_true rfl, Nat.le_of_ble_eq_true rfl⟩ ⟨rfl, rfl⟩ ⟨Nat.zero_le _, Nat.zero_le _⟩ ?_
    intro r2 σ2 hw
    refine x_iload (pc := 23) X d_W_way_23 4 rfl ?_
    refine x_icmp_ne (pc := 25) (tgt := 30) X d_W_way_25 (by decide) (fun c => ?_) (fun c => ?_)
    · have hw := hw.1 c
      refine x_aload_n (pc := 30) X d_W_way_30 0 rfl ?_
      refine x_get (pc := 31) X tb_W 0 0 (by decide) mw_0 (atC_0 _ _ _) rfl d_W_way_31 ?_
      refine x_iload_n (pc := 34) X d_W_way_34 1 rfl ?_
      refine x_iload_n (pc := 35) X d_W_way_35 2 rfl ?_
      refine x_iload_n (pc := 36) X d_W_way_36 3 rfl ?_
      refine x_cnv (pc := 37) X [.int x1, .int x2, .int x3] (c_G_flip (zl Z) (zD Z) (zI Z) q σ2 x1 x2 x3 _ hw) mv_G_flip tb_G 1 (atC_1 _ _ _) nw_17 d_W_way_37 rfl (Nat.le_of_ble_eq_true rfl) ⟨Nat.le_of_ble_eq_true rfl, Nat.le_of_ble_eq_true rfl⟩ ⟨rfl, rfl⟩ ⟨Nat.zero_le _, Nat.zero_le _⟩ ?_
      intro σ3 hw
      refine x_iconst (pc := 40) (v := 1) X d_W_way_40 (by decide) ?_
      exact hR _ _ _ _ d_W_way_41 rfl hw
    · have hw := hw.2 c
      refine x_iconst (pc := 28) (v := 0) X d_W_way_28 (by decide) ?_
      exact hR _ _ _ _ d_W_way_29 rfl hw
def rm_M_isNode : Room := { frames := 0, cells := 0, slots := 0, locals := 0 }
set_option maxHeartbeats 4000000 in
set_option maxRecDepth 100000 in
theorem c_M_isNode (l : Launch) (D : va_G) (cI : ClassId) (q : Nat → Nat) (σ : St) (x1 : Int32) (post : Int32 → St → Prop) (hw : wp_M_isNode x1 σ post) : CI l D cI (wM cI q) y_M_isNode b_M_isNode 2 .boolean rm_M_isNode [.ref (q 0), .int x1] σ post := by
  refine CI_of (by decide) (Nat.le_of_ble_eq_true rfl) ?_
  intro Z hZl hZD hZI X hR
  subst hZl; subst hZD; subst hZI
  unfold wp_M_isNode at hw
  show VV Z 0 0 (wM (zI Z) q σ) [(0, .ref (q 0)), (1, .int x1)] 0 []
  refine x_iload_n (pc := 0) X d_M_isNode_0 1 rfl ?_
  refine x_if_lt (pc := 1) (tgt := 16) X d_M_isNode_1 (by decide) (fun c => ?_) (fun c => ?_)
  · have hw := hw.1 c
    refine x_iconst (pc := 16) (v := 0) X d_M_isNode_16 (by decide) ?_
    exact hR _ _ _ _ d_M_isNode_17 rfl hw
  · have hw := hw.2 c
    refine x_iload_n (pc := 4) X d_M_isNode_4 1 rfl ?_
    refine x_aload_n (pc := 5) X d_M_isNode_5 0 rfl ?_
    refine x_get (pc := 6) X tb_M 0 1 (by decide) mw_8 (atM_0 _ _ _) rfl d_M_isNode_6 ?_
    refine x_icmp_ge (pc := 9) (tgt := 16) X d_M_isNode_9 (by decide) (fun c => ?_) (fun c => ?_)
    · have hw := hw.1 c
      refine x_iconst (pc := 16) (v := 0) X d_M_isNode_16 (by decide) ?_
      exact hR _ _ _ _ d_M_isNode_17 rfl hw
    · have hw := hw.2 c
      refine x_iconst (pc := 12) (v := 1) X d_M_isNode_12 (by decide) ?_
      refine x_goto (pc := 13) (tgt := 17) X d_M_isNode_13 (by decide) ?_
      exact hR _ _ _ _ d_M_isNode_17 rfl hw
def rm_M_isLetter : Room := { frames := 0, cells := 0, slots := 0, locals := 0 }
set_option maxHeartbeats 4000000 in
set_option maxRecDepth 100000 in
theorem c_M_isLetter (l : Launch) (D : va_G) (cI : ClassId) (q : Nat → Nat) (σ : St) (x1 : Int32) (post : Int32 → St → Prop) (hw : wp_M_isLetter x1 σ post) : CI l D cI (wM cI q) y_M_isLetter b_M_isLetter 2 .boolean rm_M_isLetter [.ref (q 0), .int x1] σ post := by
  refine CI_of (by decide) (Nat.le_of_ble_eq_true rfl) ?_
  intro Z hZl hZD hZI X hR
  subst hZl; subst hZD; subst hZI
  unfold wp_M_isLetter at hw
  show VV Z 0 0 (wM (zI Z) q σ) [(0, .ref (q 0)), (1, .int x1)] 0 []
  refine x_iload_n (pc := 0) X d_M_isLetter_0 1 rfl ?_
  refine x_if_lt (pc := 1) (tgt := 16) X d_M_isLetter_1 (by decide) (fun c => ?_) (fun c => ?_)
  · have hw := hw.1 c
    refine x_iconst (pc := 16) (v := 0) X d_M_isLetter_16 (by decide) ?_
    exact hR _ _ _ _ d_M_isLetter_17 rfl hw
  · have hw := hw.2 c
    refine x_iload_n (pc := 4) X d_M_isLetter_4 1 rfl ?_
    refine x_aload_n (pc := 5) X d_M_isLetter_5 0 rfl ?_
    refine x_get (pc := 6) X tb_M 0 2 (by decide) mw_9 (atM_0 _ _ _) rfl d_M_isLetter_6 ?_
    refine x_icmp_ge (pc := 9) (tgt := 16) X d_M_isLetter_9 (by decide) (fun c => ?_) (fun c => ?_)
    · have hw := hw.1 c
      refine x_iconst (pc := 16) (v := 0) X d_M_isLetter_16 (by decide) ?_
      exact hR _ _ _ _ d_M_isLetter_17 rfl hw
    · have hw := hw.2 c
      refine x_iconst (pc := 12) (v := 1) X d_M_isLetter_12 (by decide) ?_
      refine x_goto (pc := 13) (tgt := 17) X d_M_isLetter_13 (by decide) ?_
      exact hR _ _ _ _ d_M_isLetter_17 rfl hw
def rm_M_is : Room := { frames := 1, cells := 0, slots := 0, locals := 21 }
set_option maxHeartbeats 4000000 in
set_option maxRecDepth 100000 in
theorem c_M_is (l : Launch) (D : va_G) (cI : ClassId) (q : Nat → Nat) (σ : St) (x1 x2 x3 : Int32) (post : Int32 → St → Prop) (hw : wp_M_is x1 x2 x3 σ post) : CI l D cI (wM cI q) y_M_is b_M_is 4 .boolean rm_M_is [.ref (q 0), .int x1, .int x2, .int x3] σ post := by
  refine CI_of (by decide) (Nat.le_of_ble_eq_true rfl) ?_
  intro Z hZl hZD hZI X hR
  subst hZl; subst hZD; subst hZI
  unfold wp_M_is at hw
  show VV Z 0 0 (wM (zI Z) q σ) [(0, .ref (q 0)), (1, .int x1), (2, .int x2), (3, .int x3)] 0 []
  refine x_aload_n (pc := 0) X d_M_is_0 0 rfl ?_
  refine x_iconst (pc := 1) (v := 0) X d_M_is_1 (by decide) ?_
  refine x_put (pc := 2) (ws' := (wM (zI Z) q (us σ 0 0))) X tb_M 0 0 (by decide) mw_7 (atM_0 _ _ _) rfl pI (Nat.le_of_ble_eq_true rfl) (ptM_0 _ _ _ _) d_M_is_2 ?_
  refine x_aload_n (pc := 5) X d_M_is_5 0 rfl ?_
  refine x_iload_n (pc := 6) X d_M_is_6 1 rfl ?_
  refine x_cvi (pc := 7) X [.int x1] (c_M_isNode (zl Z) (zD Z) (zI Z) q (us σ 0 0) x1 _ hw) mv_M_isNode tb_M 0 (atM_0 _ _ _) mw_18 d_M_is_7 rfl (Nat.le_of_ble_eq_true rfl) ⟨Nat.le_of_ble_eq_true rfl, Nat.le_of_ble_eq_true rfl⟩ ⟨rfl, rfl⟩ ⟨Nat.zero_le _, Nat.zero_le _⟩ ?_
  intro r1 σ1 hw
  refine x_if_eq (pc := 10) (tgt := 72) X d_M_is_10 (by decide) (fun c => ?_) (fun c => ?_)
  · have hw := hw.1 c
    refine x_iconst (pc := 72) (v := 0) X d_M_is_72 (by decide) ?_
    exact hR _ _ _ _ d_M_is_73 rfl hw
  · have hw := hw.2 c
    refine x_aload_n (pc := 13) X d_M_is_13 0 rfl ?_
    refine x_iload_n (pc := 14) X d_M_is_14 2 rfl ?_
    refine x_cvi (pc := 15) X [.int x2] (c_M_isLetter (zl Z) (zD Z) (zI Z) q σ1 x2 _ hw) mv_M_isLetter tb_M 0 (atM_0 _ _ _) mw_19 d_M_is_15 rfl (Nat.le_of_ble_eq_true rfl) ⟨Nat.le_of_ble_eq_true rfl, Nat.le_of_ble_eq_true rfl⟩ ⟨rfl, rfl⟩ ⟨Nat.zero_le _, Nat.zero_le _⟩ ?_
    intro r2 σ2 hw
    refine x_if_eq (pc := 18) (tgt := 72) X d_M_is_18 (by decide) (fun c => ?_) (fun c => ?_)
    · have hw := hw.1 c
      refine x_iconst (pc := 72) (v := 0) X d_M_is_72 (by decide) ?_
      exact hR _ _ _ _ d_M_is_73 rfl hw
    · have hw := hw.2 c
      refine x_aload_n (pc := 21) X d_M_is_21 0 rfl ?_
      refine x_iload_n (pc := 22) X d_M_is_22 3 rfl ?_
      refine x_cvi (pc := 23) X [.int x3] (c_M_isNode (zl Z) (zD Z) (zI Z) q σ2 x3 _ hw) mv_M_isNode tb_M 0 (atM_0 _ _ _) mw_18 d_M_is_23 rfl (Nat.le_of_ble_eq_true rfl) ⟨Nat.le_of_ble_eq_true rfl, Nat.le_of_ble_eq_true rfl⟩ ⟨rfl, rfl⟩ ⟨Nat.zero_le _, Nat.zero_le _⟩ ?_
      intro r3 σ3 hw
      refine x_if_eq (pc := 26) (tgt := 72) X d_M_is_26 (by decide) (fun c => ?_) (fun c => ?_)
      · have hw := hw.1 c
        refine x_iconst (pc := 72) (v := 0) X d_M_is_72 (by decide) ?_
        exact hR _ _ _ _ d_M_is_73 rfl hw
      · have hw := hw.2 c
        refine x_aload_n (pc := 29) X d_M_is_29 0 rfl ?_
        refine x_get (pc := 30) X tb_M 0 4 (by decide) mw_11 (atM_0 _ _ _) rfl d_M_is_30 ?_
        refine x_aload_n (pc := 33) X d_M_is_33 0 rfl ?_
        refine x_iload_n (pc := 34) X d_M_is_34 1 rfl ?_
        refine x_cvi (pc := 35) X [.int x1] (c_M_isNode (zl Z) (zD Z) (zI Z) q σ3 x1 _ hw) mv_M_isNode tb_M 0 (atM_0 _ _ _) mw_18 d_M_is_35 rfl (Nat.le_of_ble_eq_true rfl) ⟨Nat.le_of_ble_eq_true rfl, Nat.le_of_ble_eq_true rfl⟩ ⟨rfl, rfl⟩ ⟨Nat.zero_le _, Nat.zero_le _⟩ ?_
        intro r4 σ4 hw
        refine x_if_eq (pc := 38) (tgt := 58) X d_M_is_38 (by decide) (fun c => ?_) (fun c => ?_)
        · have hw := hw.1 c
          refine x_iconst (pc := 58) (v := 0) X d_M_is_58 (by decide) ?_
          obtain ⟨h5, hw⟩ := hw
          refine x_iald (pc := 59) X 1 (atM_1 _ _ _) h5 d_M_is_59 ?_
          refine x_iload_n (pc := 60) X d_M_is_60 3 rfl ?_
          refine x_ishr (pc := 61) X d_M_is_61 ?_
          refine x_iconst (pc := 62) (v := 1) X d_M_is_62 (by decide) ?_
          refine x_iand (pc := 63) X d_M_is_63 ?_
          refine x_iconst (pc := 64) (v := 1) X d_M_is_64 (by decide) ?_
          refine x_icmp_ne (pc := 65) (tgt := 72) X d_M_is_65 (by decide) (fun c => ?_) (fun c => ?_)
          · have hw := hw.1 c
            refine x_iconst (pc := 72) (v := 0) X d_M_is_72 (by decide) ?_
            exact hR _ _ _ _ d_M_is_73 rfl hw
          · have hw := hw.2 c
            refine x_iconst (pc := 68) (v := 1) X d_M_is_68 (by decide) ?_
            refine x_goto (pc := 69) (tgt := 73) X d_M_is_69 (by decide) ?_
            exact hR _ _ _ _ d_M_is_73 rfl hw
        · have hw := hw.2 c
          refine x_aload_n (pc := 41) X d_M_is_41 0 rfl ?_
          refine x_iload_n (pc := 42) X d_M_is_42 2 rfl ?_
          refine x_cvi (pc := 43) X [.int x2] (c_M_isLetter (zl Z) (zD Z) (zI Z) q σ4 x2 _ hw) mv_M_isLetter tb_M 0 (atM_0 _ _ _) mw_19 d_M_is_43 rfl (Nat.le_of_ble_eq_true rfl) ⟨Nat.le_of_ble_eq_true rfl, Nat.le_of_ble_eq_true rfl⟩ ⟨rfl, rfl⟩ ⟨Nat.zero_le _, Nat.zero_le _⟩ ?_
          intro r6 σ6 hw
          refine x_if_eq (pc := 46) (tgt := 58) X d_M_is_46 (by decide) (fun c => ?_) (fun c => ?_)
          · have hw := hw.1 c
            refine x_iconst (pc := 58) (v := 0) X d_M_is_58 (by decide) ?_
            obtain ⟨h7, hw⟩ := hw
            refine x_iald (pc := 59) X 1 (atM_1 _ _ _) h7 d_M_is_59 ?_
            refine x_iload_n (pc := 60) X d_M_is_60 3 rfl ?_
            refine x_ishr (pc := 61) X d_M_is_61 ?_
            refine x_iconst (pc := 62) (v := 1) X d_M_is_62 (by decide) ?_
            refine x_iand (pc := 63) X d_M_is_63 ?_
            refine x_iconst (pc := 64) (v := 1) X d_M_is_64 (by decide) ?_
            refine x_icmp_ne (pc := 65) (tgt := 72) X d_M_is_65 (by decide) (fun c => ?_) (fun c => ?_)
            · have hw := hw.1 c
              refine x_iconst (pc := 72) (v := 0) X d_M_is_72 (by decide) ?_
              exact hR _ _ _ _ d_M_is_73 rfl hw
            · have hw := hw.2 c
              refine x_iconst (pc := 68) (v := 1) X d_M_is_68 (by decide) ?_
              refine x_goto (pc := 69) (tgt := 73) X d_M_is_69 (by decide) ?_
              exact hR _ _ _ _ d_M_is_73 rfl hw
          · have hw := hw.2 c
            refine x_bipush (pc := 49) (v := (nI 24)) X d_M_is_49 (by decide) ?_
            refine x_iload_n (pc := 51) X d_M_is_51 2 rfl ?_
            refine x_imul (pc := 52) X d_M_is_52 ?_
            refine x_iload_n (pc := 53) X d_M_is_53 1 rfl ?_
            refine x_iadd (pc := 54) X d_M_is_54 ?_
            refine x_goto (pc := 55) (tgt := 59) X d_M_is_55 (by decide) ?_
            obtain ⟨h8, hw⟩ := hw
            refine x_iald (pc := 59) X 1 (atM_1 _ _ _) h8 d_M_is_59 ?_
            refine x_iload_n (pc := 60) X d_M_is_60 3 rfl ?_
            refine x_ishr (pc := 61) X d_M_is_61 ?_
            refine x_iconst (pc := 62) (v := 1) X d_M_is_62 (by decide) ?_
            refine x_iand (pc := 63) X d_M_is_63 ?_
            refine x_iconst (pc := 64) (v := 1) X d_M_is_64 (by decide) ?_
            refine x_icmp_ne (pc := 65) (tgt := 72) X d_M_is_65 (by decide) (fun c => ?_) (fun c => ?_)
            · have hw := hw.1 c
              refine x_iconst (pc := 72) (v := 0) X d_M_is_72 (by decide) ?_
              exact hR _ _ _ _ d_M_is_73 rfl hw
            · have hw := hw.2 c
              refine x_iconst (pc := 68) (v := 1) X d_M_is_68 (by decide) ?_
              refine x_goto (pc := 69) (tgt := 73) X d_M_is_69 (by decide) ?_
              exact hR _ _ _ _ d_M_is_73 rfl hw
def rm_M_way : Room := { frames := 2, cells := 0, slots := 0, locals := 44 }
set_option maxHeartbeats 4000000 in
set_option maxRecDepth 100000 in
theorem c_M_way (l : Launch) (D : va_G) (cI : ClassId) (q : Nat → Nat) (σ : St) (x1 x2 x3 x4 : Int32) (post : Int32 → St → Prop) (hw : wp_M_way x1 x2 x3 x4 σ post) : CI l D cI (wM cI q) y_M_way b_M_way 5 .boolean rm_M_way [.ref (q 0), .int x1, .int x2, .int x3, .int x4] σ post := by
  refine CI_of (by decide) (Nat.le_of_ble_eq_true rfl) ?_
  intro Z hZl hZD hZI X hR
  subst hZl; subst hZD; subst hZI
  unfold wp_M_way at hw
  show VV Z 0 0 (wM (zI Z) q σ) [(0, .ref (q 0)), (1, .int x1), (2, .int x2), (3, .int x3), (4, .int x4)] 0 []
  refine x_aload_n (pc := 0) X d_M_way_0 0 rfl ?_
  refine x_iconst (pc := 1) (v := 0) X d_M_way_1 (by decide) ?_
  refine x_put (pc := 2) (ws' := (wM (zI Z) q (us σ 0 0))) X tb_M 0 0 (by decide) mw_7 (atM_0 _ _ _) rfl pI (Nat.le_of_ble_eq_true rfl) (ptM_0 _ _ _ _) d_M_way_2 ?_
  refine x_aload_n (pc := 5) X d_M_way_5 0 rfl ?_
  refine x_iload_n (pc := 6) X d_M_way_6 1 rfl ?_
  refine x_cvi (pc := 7) X [.int x1] (c_M_isNode (zl Z) (zD Z) (zI Z) q (us σ 0 0) x1 _ hw) mv_M_isNode tb_M 0 (atM_0 _ _ _) mw_18 d_M_way_7 rfl (Nat.le_of_ble_eq_true rfl) ⟨Nat.le_of_ble_eq_true rfl, Nat.le_of_ble_eq_true rfl⟩ ⟨rfl, rfl⟩ ⟨Nat.zero_le _, Nat.zero_le _⟩ ?_
  intro r1 σ1 hw
  refine x_if_eq (pc := 10) (tgt := 41) X d_M_way_10 (by decide) (fun c => ?_) (fun c => ?_)
  · have hw := hw.1 c
    refine x_iconst (pc := 41) (v := 0) X d_M_way_41 (by decide) ?_
    exact hR _ _ _ _ d_M_way_42 rfl hw
  · have hw := hw.2 c
    refine x_aload_n (pc := 13) X d_M_way_13 0 rfl ?_
    refine x_iload_n (pc := 14) X d_M_way_14 2 rfl ?_
    refine x_cvi (pc := 15) X [.int x2] (c_M_isLetter (zl Z) (zD Z) (zI Z) q σ1 x2 _ hw) mv_M_isLetter tb_M 0 (atM_0 _ _ _) mw_19 d_M_way_15 rfl (Nat.le_of_ble_eq_true rfl) ⟨Nat.le_of_ble_eq_true rfl, Nat.le_of_ble_eq_true rfl⟩ ⟨rfl, rfl⟩ ⟨Nat.zero_le _, Nat.zero_le _⟩ ?_
    intro r2 σ2 hw
    refine x_if_eq (pc := 18) (tgt := 41) X d_M_way_18 (by decide) (fun c => ?_) (fun c => ?_)
    · have hw := hw.1 c
      refine x_iconst (pc := 41) (v := 0) X d_M_way_41 (by decide) ?_
      exact hR _ _ _ _ d_M_way_42 rfl hw
    · have hw := hw.2 c
      refine x_aload_n (pc := 21) X d_M_way_21 0 rfl ?_
      refine x_iload_n (pc := 22) X d_M_way_22 3 rfl ?_
      refine x_cvi (pc := 23) X [.int x3] (c_M_isNode (zl Z) (zD Z) (zI Z) q σ2 x3 _ hw) mv_M_isNode tb_M 0 (atM_0 _ _ _) mw_18 d_M_way_23 rfl (Nat.le_of_ble_eq_true rfl) ⟨Nat.le_of_ble_eq_true rfl, Nat.le_of_ble_eq_true rfl⟩ ⟨rfl, rfl⟩ ⟨Nat.zero_le _, Nat.zero_le _⟩ ?_
      intro r3 σ3 hw
      refine x_if_eq (pc := 26) (tgt := 41) X d_M_way_26 (by decide) (fun c => ?_) (fun c => ?_)
      · have hw := hw.1 c
        refine x_iconst (pc := 41) (v := 0) X d_M_way_41 (by decide) ?_
        exact hR _ _ _ _ d_M_way_42 rfl hw
      · have hw := hw.2 c
        refine x_aload_n (pc := 29) X d_M_way_29 0 rfl ?_
        refine x_iload_n (pc := 30) X d_M_way_30 1 rfl ?_
        refine x_iload_n (pc := 31) X d_M_way_31 2 rfl ?_
        refine x_iload_n (pc := 32) X d_M_way_32 3 rfl ?_
        refine x_cvi (pc := 33) X [.int x1, .int x2, .int x3] (c_M_is (zl Z) (zD Z) (zI Z) q σ3 x1 x2 x3 _ hw) mv_M_is tb_M 0 (atM_0 _ _ _) mw_20 d_M_way_33 rfl (Nat.le_of_ble_eq_true rfl) ⟨Nat.le_of_ble_eq_true rfl, Nat.le_of_ble_eq_true rfl⟩ ⟨rfl, rfl⟩ ⟨Nat.zero_le _, Nat.zero_le _⟩ ?_
        intro r4 σ4 hw
        refine x_iload (pc := 36) X d_M_way_36 4 rfl ?_
        refine x_icmp_ne (pc := 38) (tgt := 43) X d_M_way_38 (by decide) (fun c => ?_) (fun c => ?_)
        · have hw := hw.1 c
          refine x_aload_n (pc := 43) X d_M_way_43 0 rfl ?_
          refine x_get (pc := 44) X tb_M 0 4 (by decide) mw_11 (atM_0 _ _ _) rfl d_M_way_44 ?_
          refine x_bipush (pc := 47) (v := (nI 24)) X d_M_way_47 (by decide) ?_
          refine x_iload_n (pc := 49) X d_M_way_49 2 rfl ?_
          refine x_imul (pc := 50) X d_M_way_50 ?_
          refine x_iload_n (pc := 51) X d_M_way_51 1 rfl ?_
          refine x_iadd (pc := 52) X d_M_way_52 ?_
          refine x_dup2 (pc := 53) X d_M_way_53 rfl rfl ?_
          obtain ⟨h5, hw⟩ := hw
          refine x_iald (pc := 54) X 1 (atM_1 _ _ _) h5 d_M_way_54 ?_
          refine x_iconst (pc := 55) (v := 1) X d_M_way_55 (by decide) ?_
          refine x_iload_n (pc := 56) X d_M_way_56 3 rfl ?_
          refine x_ishl (pc := 57) X d_M_way_57 ?_
          refine x_ixor (pc := 58) X d_M_way_58 ?_
          obtain ⟨h6, hw⟩ := hw
          refine x_iast (pc := 59) (ws' := (wM (zI Z) q (ua σ4 0 (((nI 24) * x2) + x1).toNatClampNeg ((σ4.2 0 (((nI 24) * x2) + x1).toNatClampNeg) ^^^ (1 <<< (x3 &&& 31)))))) X 1 (atM_1 _ _ _) h6 (stM_1 _ _ _ _) d_M_way_59 ?_
          refine x_iconst (pc := 60) (v := 1) X d_M_way_60 (by decide) ?_
          exact hR _ _ _ _ d_M_way_61 rfl hw
        · have hw := hw.2 c
          refine x_iconst (pc := 41) (v := 0) X d_M_way_41 (by decide) ?_
          exact hR _ _ _ _ d_M_way_42 rfl hw
end
section
def rm_W_fill : Room := { frames := 2, cells := 0, slots := 0, locals := 44 }
set_option maxHeartbeats 4000000 in
set_option maxRecDepth 100000 in
theorem wL_W_fill_29 {Z : ZT} {q : Nat → Nat} {post : Int32 → St → Prop} (X : Cx Z "WayTable" b_W_fill rm_W_fill 5) (hR : RI Z b_W_fill .int (wC (zI Z) q) post) : ∀ (n : Nat) (x1 x2 x3 x4 : Int32) (σ : St), L_W_fill_29 post n x1 x2 x3 x4 σ → VV Z 0 0 (wC (zI Z) q σ) [(0, .ref (q 0)), (1, .int x1), (2, .int x2), (3, .int x3), (4, .int x4)] 29 [] := by
  intro n
  induction n with
  | zero => intro x1 x2 x3 x4 σ hw; exact False.elim hw
  | succ n ih =>
    intro x1 x2 x3 x4 σ hw
    unfold L_W_fill_29 at hw
    refine x_iload (pc := 29) X d_W_fill_29 4 rfl ?_
    refine x_aload_n (pc := 31) X d_W_fill_31 0 rfl ?_
    refine x_get (pc := 32) X tb_W 0 0 (by decide) mw_0 (atC_0 _ _ _) rfl d_W_fill_32 ?_
    refine x_getN (pc := 35) X tb_G 1 0 (by decide) nw_23 (atC_1 _ _ _) rfl d_W_fill_35 ?_
    refine x_icmp_ge (pc := 38) (tgt := 75) X d_W_fill_38 (by decide) (fun c => ?_) (fun c => ?_)
    · have hw := hw.1 c
      refine x_iload_n (pc := 75) X d_W_fill_75 3 rfl ?_
      exact hR _ _ _ _ d_W_fill_76 (vp_nar_int _) hw
    · have hw := hw.2 c
      refine x_aload_n (pc := 41) X d_W_fill_41 0 rfl ?_
      refine x_get (pc := 42) X tb_W 0 0 (by decide) mw_0 (atC_0 _ _ _) rfl d_W_fill_42 ?_
      refine x_iload (pc := 45) X d_W_fill_45 4 rfl ?_
      refine x_iload_n (pc := 47) X d_W_fill_47 1 rfl ?_
      refine x_iload_n (pc := 48) X d_W_fill_48 2 rfl ?_
      refine x_cni (pc := 49) X [.int x4, .int x1, .int x2] (c_G_holds (zl Z) (zD Z) (zI Z) q σ x4 x1 x2 _ hw) mv_G_holds tb_G 1 (atC_1 _ _ _) nw_16 d_W_fill_49 rfl (Nat.le_of_ble_eq_true rfl) ⟨Nat.le_of_ble_eq_true rfl, Nat.le_of_ble_eq_true rfl⟩ ⟨rfl, rfl⟩ ⟨Nat.zero_le _, Nat.zero_le _⟩ ?_
      intro r3 σ3 hw
      refine x_if_ne (pc := 52) (tgt := 69) X d_W_fill_52 (by decide) (fun c => ?_) (fun c => ?_)
      · have hw := hw.1 c
        refine x_iinc (pc := 69) (d := 1) (lv' := [(0, .ref (q 0)), (1, .int x1), (2, .int x2), (3, .int x3), (4, .int (x4 + 1))]) X d_W_fill_69 4 rfl (by decide) (by decide) [1, 2, 3, 4, 0] rfl ?_
        refine x_goto (pc := 72) (tgt := 29) X d_W_fill_72 (by decide) ?_
        exact ih x1 x2 x3 (x4 + 1) σ3 hw
      · have hw := hw.2 c
        refine x_aload_n (pc := 55) X d_W_fill_55 0 rfl ?_
        refine x_get (pc := 56) X tb_W 0 0 (by decide) mw_0 (atC_0 _ _ _) rfl d_W_fill_56 ?_
        refine x_iload (pc := 59) X d_W_fill_59 4 rfl ?_
        refine x_iload_n (pc := 61) X d_W_fill_61 1 rfl ?_
        refine x_iload_n (pc := 62) X d_W_fill_62 2 rfl ?_
        refine x_cnv (pc := 63) X [.int x4, .int x1, .int x2] (c_G_flip (zl Z) (zD Z) (zI Z) q σ3 x4 x1 x2 _ hw) mv_G_flip tb_G 1 (atC_1 _ _ _) nw_17 d_W_fill_63 rfl (Nat.le_of_ble_eq_true rfl) ⟨Nat.le_of_ble_eq_true rfl, Nat.le_of_ble_eq_true rfl⟩ ⟨rfl, rfl⟩ ⟨Nat.zero_le _, Nat.zero_le _⟩ ?_
        intro σ4 hw
        refine x_iinc (pc := 66) (d := 1) (lv' := [(0, .ref (q 0)), (1, .int x1), (2, .int x2), (3, .int (x3 + 1)), (4, .int x4)]) X d_W_fill_66 3 rfl (by decide) (by decide) [1, 2, 3, 0, 4] rfl ?_
        refine x_iinc (pc := 69) (d := 1) (lv' := [(0, .ref (q 0)), (1, .int x1), (2, .int x2), (3, .int (x3 + 1)), (4, .int (x4 + 1))]) X d_W_fill_69 4 rfl (by decide) (by decide) [1, 2, 3, 4, 0] rfl ?_
        refine x_goto (pc := 72) (tgt := 29) X d_W_fill_72 (by decide) ?_
        exact ih x1 x2 (x3 + 1) (x4 + 1) σ4 hw
set_option maxHeartbeats 4000000 in
set_option maxRecDepth 100000 in
theorem c_W_fill (l : Launch) (D : va_G) (cI : ClassId) (q : Nat → Nat) (σ : St) (x1 x2 : Int32) (post : Int32 → St → Prop) (hw : wp_W_fill x1 x2 σ post) : CI l D cI (wC cI q) y_W_fill b_W_fill 5 .int rm_W_fill [.ref (q 0), .int x1, .int x2] σ post := by
  refine CI_of (by decide) (Nat.le_of_ble_eq_true rfl) ?_
  intro Z hZl hZD hZI X hR
  subst hZl; subst hZD; subst hZI
  unfold wp_W_fill at hw
  show VV Z 0 0 (wC (zI Z) q σ) [(0, .ref (q 0)), (1, .int x1), (2, .int x2)] 0 []
  refine x_aload_n (pc := 0) X d_W_fill_0 0 rfl ?_
  refine x_get (pc := 1) X tb_W 0 0 (by decide) mw_0 (atC_0 _ _ _) rfl d_W_fill_1 ?_
  refine x_iload_n (pc := 4) X d_W_fill_4 1 rfl ?_
  refine x_cni (pc := 5) X [.int x1] (c_G_hasLetter (zl Z) (zD Z) (zI Z) q σ x1 _ hw) mv_G_hasLetter tb_G 1 (atC_1 _ _ _) nw_21 d_W_fill_5 rfl (Nat.le_of_ble_eq_true rfl) ⟨Nat.le_of_ble_eq_true rfl, Nat.le_of_ble_eq_true rfl⟩ ⟨rfl, rfl⟩ ⟨Nat.zero_le _, Nat.zero_le _⟩ ?_
  intro r1 σ1 hw
  refine x_if_eq (pc := 8) (tgt := 22) X d_W_fill_8 (by decide) (fun c => ?_) (fun c => ?_)
  · have hw := hw.1 c
    refine x_iconst (pc := 22) (v := (-1)) X d_W_fill_22 (by decide) ?_
    exact hR _ _ _ _ d_W_fill_23 (vp_nar_int _) hw
  · have hw := hw.2 c
    refine x_aload_n (pc := 11) X d_W_fill_11 0 rfl ?_
    refine x_get (pc := 12) X tb_W 0 0 (by decide) mw_0 (atC_0 _ _ _) rfl d_W_fill_12 ?_
    refine x_iload_n (pc := 15) X d_W_fill_15 2 rfl ?_
    refine x_cni (pc := 16) X [.int x2] (c_G_hasNode (zl Z) (zD Z) (zI Z) q σ1 x2 _ hw) mv_G_hasNode tb_G 1 (atC_1 _ _ _) nw_22 d_W_fill_16 rfl (Nat.le_of_ble_eq_true rfl) ⟨Nat.le_of_ble_eq_true rfl, Nat.le_of_ble_eq_true rfl⟩ ⟨rfl, rfl⟩ ⟨Nat.zero_le _, Nat.zero_le _⟩ ?_
    intro r2 σ2 hw
    refine x_if_ne (pc := 19) (tgt := 24) X d_W_fill_19 (by decide) (fun c => ?_) (fun c => ?_)
    · have hw := hw.1 c
      refine x_iconst (pc := 24) (v := 0) X d_W_fill_24 (by decide) ?_
      refine x_istore_n (pc := 25) (lv' := [(0, .ref (q 0)), (1, .int x1), (2, .int x2), (3, .int 0)]) X d_W_fill_25 (by decide) [1, 2, 3, 0] rfl ?_
      refine x_iconst (pc := 26) (v := 0) X d_W_fill_26 (by decide) ?_
      refine x_istore (pc := 27) (lv' := [(0, .ref (q 0)), (1, .int x1), (2, .int x2), (3, .int 0), (4, .int 0)]) X d_W_fill_27 (by decide) [1, 2, 3, 4, 0] rfl ?_
      obtain ⟨n2, hw⟩ := hw
      exact wL_W_fill_29 X hR n2 x1 x2 0 0 σ2 hw
    · have hw := hw.2 c
      refine x_iconst (pc := 22) (v := (-1)) X d_W_fill_22 (by decide) ?_
      exact hR _ _ _ _ d_W_fill_23 (vp_nar_int _) hw
def rm_M_fill : Room := { frames := 3, cells := 0, slots := 0, locals := 68 }
set_option maxHeartbeats 4000000 in
set_option maxRecDepth 100000 in
theorem wL_M_fill_28 {Z : ZT} {q : Nat → Nat} {post : Int32 → St → Prop} (X : Cx Z "WayTableModel" b_M_fill rm_M_fill 5) (hR : RI Z b_M_fill .int (wM (zI Z) q) post) : ∀ (n : Nat) (x1 x2 x3 x4 : Int32) (σ : St), L_M_fill_28 post n x1 x2 x3 x4 σ → VV Z 0 0 (wM (zI Z) q σ) [(0, .ref (q 0)), (1, .int x1), (2, .int x2), (3, .int x3), (4, .int x4)] 28 [] := by
  intro n
  induction n with
  | zero => intro x1 x2 x3 x4 σ hw; exact False.elim hw
  | succ n ih =>
    intro x1 x2 x3 x4 σ hw
    unfold L_M_fill_28 at hw
    refine x_iload (pc := 28) X d_M_fill_28 4 rfl ?_
    refine x_aload_n (pc := 30) X d_M_fill_30 0 rfl ?_
    refine x_get (pc := 31) X tb_M 0 1 (by decide) mw_8 (atM_0 _ _ _) rfl d_M_fill_31 ?_
    refine x_icmp_ge (pc := 34) (tgt := 63) X d_M_fill_34 (by decide) (fun c => ?_) (fun c => ?_)
    · have hw := hw.1 c
      refine x_iload_n (pc := 63) X d_M_fill_63 3 rfl ?_
      exact hR _ _ _ _ d_M_fill_64 (vp_nar_int _) hw
    · have hw := hw.2 c
      refine x_iload_n (pc := 37) X d_M_fill_37 3 rfl ?_
      refine x_aload_n (pc := 38) X d_M_fill_38 0 rfl ?_
      refine x_iload (pc := 39) X d_M_fill_39 4 rfl ?_
      refine x_iload_n (pc := 41) X d_M_fill_41 1 rfl ?_
      refine x_iload_n (pc := 42) X d_M_fill_42 2 rfl ?_
      refine x_iconst (pc := 43) (v := 1) X d_M_fill_43 (by decide) ?_
      refine x_cvi (pc := 44) X [.int x4, .int x1, .int x2, .int 1] (c_M_way (zl Z) (zD Z) (zI Z) q σ x4 x1 x2 1 _ hw) mv_M_way tb_M 0 (atM_0 _ _ _) mw_24 d_M_fill_44 rfl (Nat.le_of_ble_eq_true rfl) ⟨Nat.le_of_ble_eq_true rfl, Nat.le_of_ble_eq_true rfl⟩ ⟨rfl, rfl⟩ ⟨Nat.zero_le _, Nat.zero_le _⟩ ?_
      intro r3 σ3 hw
      refine x_if_eq (pc := 47) (tgt := 54) X d_M_fill_47 (by decide) (fun c => ?_) (fun c => ?_)
      · have hw := hw.1 c
        refine x_iconst (pc := 54) (v := 0) X d_M_fill_54 (by decide) ?_
        refine x_iadd (pc := 55) X d_M_fill_55 ?_
        refine x_istore_n (pc := 56) (lv' := [(0, .ref (q 0)), (1, .int x1), (2, .int x2), (3, .int (x3 + 0)), (4, .int x4)]) X d_M_fill_56 (by decide) [1, 2, 3, 0, 4] rfl ?_
        refine x_iinc (pc := 57) (d := 1) (lv' := [(0, .ref (q 0)), (1, .int x1), (2, .int x2), (3, .int (x3 + 0)), (4, .int (x4 + 1))]) X d_M_fill_57 4 rfl (by decide) (by decide) [1, 2, 3, 4, 0] rfl ?_
        refine x_goto (pc := 60) (tgt := 28) X d_M_fill_60 (by decide) ?_
        exact ih x1 x2 (x3 + 0) (x4 + 1) σ3 hw
      · have hw := hw.2 c
        refine x_iconst (pc := 50) (v := 1) X d_M_fill_50 (by decide) ?_
        refine x_goto (pc := 51) (tgt := 55) X d_M_fill_51 (by decide) ?_
        refine x_iadd (pc := 55) X d_M_fill_55 ?_
        refine x_istore_n (pc := 56) (lv' := [(0, .ref (q 0)), (1, .int x1), (2, .int x2), (3, .int (x3 + 1)), (4, .int x4)]) X d_M_fill_56 (by decide) [1, 2, 3, 0, 4] rfl ?_
        refine x_iinc (pc := 57) (d := 1) (lv' := [(0, .ref (q 0)), (1, .int x1), (2, .int x2), (3, .int (x3 + 1)), (4, .int (x4 + 1))]) X d_M_fill_57 4 rfl (by decide) (by decide) [1, 2, 3, 4, 0] rfl ?_
        refine x_goto (pc := 60) (tgt := 28) X d_M_fill_60 (by decide) ?_
        exact ih x1 x2 (x3 + 1) (x4 + 1) σ3 hw
set_option maxHeartbeats 4000000 in
set_option maxRecDepth 100000 in
theorem c_M_fill (l : Launch) (D : va_G) (cI : ClassId) (q : Nat → Nat) (σ : St) (x1 x2 : Int32) (post : Int32 → St → Prop) (hw : wp_M_fill x1 x2 σ post) : CI l D cI (wM cI q) y_M_fill b_M_fill 5 .int rm_M_fill [.ref (q 0), .int x1, .int x2] σ post := by
  refine CI_of (by decide) (Nat.le_of_ble_eq_true rfl) ?_
  intro Z hZl hZD hZI X hR
  subst hZl; subst hZD; subst hZI
  unfold wp_M_fill at hw
  show VV Z 0 0 (wM (zI Z) q σ) [(0, .ref (q 0)), (1, .int x1), (2, .int x2)] 0 []
  refine x_aload_n (pc := 0) X d_M_fill_0 0 rfl ?_
  refine x_iconst (pc := 1) (v := 0) X d_M_fill_1 (by decide) ?_
  refine x_put (pc := 2) (ws' := (wM (zI Z) q (us σ 0 0))) X tb_M 0 0 (by decide) mw_7 (atM_0 _ _ _) rfl pI (Nat.le_of_ble_eq_true rfl) (ptM_0 _ _ _ _) d_M_fill_2 ?_
  refine x_aload_n (pc := 5) X d_M_fill_5 0 rfl ?_
  refine x_iload_n (pc := 6) X d_M_fill_6 1 rfl ?_
  refine x_cvi (pc := 7) X [.int x1] (c_M_isLetter (zl Z) (zD Z) (zI Z) q (us σ 0 0) x1 _ hw) mv_M_isLetter tb_M 0 (atM_0 _ _ _) mw_19 d_M_fill_7 rfl (Nat.le_of_ble_eq_true rfl) ⟨Nat.le_of_ble_eq_true rfl, Nat.le_of_ble_eq_true rfl⟩ ⟨rfl, rfl⟩ ⟨Nat.zero_le _, Nat.zero_le _⟩ ?_
  intro r1 σ1 hw
  refine x_if_eq (pc := 10) (tgt := 21) X d_M_fill_10 (by decide) (fun c => ?_) (fun c => ?_)
  · have hw := hw.1 c
    refine x_iconst (pc := 21) (v := (-1)) X d_M_fill_21 (by decide) ?_
    exact hR _ _ _ _ d_M_fill_22 (vp_nar_int _) hw
  · have hw := hw.2 c
    refine x_aload_n (pc := 13) X d_M_fill_13 0 rfl ?_
    refine x_iload_n (pc := 14) X d_M_fill_14 2 rfl ?_
    refine x_cvi (pc := 15) X [.int x2] (c_M_isNode (zl Z) (zD Z) (zI Z) q σ1 x2 _ hw) mv_M_isNode tb_M 0 (atM_0 _ _ _) mw_18 d_M_fill_15 rfl (Nat.le_of_ble_eq_true rfl) ⟨Nat.le_of_ble_eq_true rfl, Nat.le_of_ble_eq_true rfl⟩ ⟨rfl, rfl⟩ ⟨Nat.zero_le _, Nat.zero_le _⟩ ?_
    intro r2 σ2 hw
    refine x_if_ne (pc := 18) (tgt := 23) X d_M_fill_18 (by decide) (fun c => ?_) (fun c => ?_)
    · have hw := hw.1 c
      refine x_iconst (pc := 23) (v := 0) X d_M_fill_23 (by decide) ?_
      refine x_istore_n (pc := 24) (lv' := [(0, .ref (q 0)), (1, .int x1), (2, .int x2), (3, .int 0)]) X d_M_fill_24 (by decide) [1, 2, 3, 0] rfl ?_
      refine x_iconst (pc := 25) (v := 0) X d_M_fill_25 (by decide) ?_
      refine x_istore (pc := 26) (lv' := [(0, .ref (q 0)), (1, .int x1), (2, .int x2), (3, .int 0), (4, .int 0)]) X d_M_fill_26 (by decide) [1, 2, 3, 4, 0] rfl ?_
      obtain ⟨n2, hw⟩ := hw
      exact wL_M_fill_28 X hR n2 x1 x2 0 0 σ2 hw
    · have hw := hw.2 c
      refine x_iconst (pc := 21) (v := (-1)) X d_M_fill_21 (by decide) ?_
      exact hR _ _ _ _ d_M_fill_22 (vp_nar_int _) hw
def rm_G_transpose : Room := { frames := 2, cells := 0, slots := 0, locals := 44 }
set_option maxHeartbeats 4000000 in
set_option maxRecDepth 100000 in
theorem wL_G_transpose_12 {Z : ZT} {q : Nat → Nat} {post : St → Prop} {K : Int32 → Int32 → St → Prop} (X : Cx Z "WayTable$Graph" b_G_transpose rm_G_transpose 4) (hR : RV Z b_G_transpose (wC (zI Z) q) post) (hK : ∀ (x1 x2 : Int32) (σ : St), K x1 x2 σ → VV Z 0 0 (wC (zI Z) q σ) [(0, .ref (q 1)), (1, .int x1), (2, .int x2)] 2 []) : ∀ (n : Nat) (x1 x2 x3 : Int32) (σ : St), L_G_transpose_12 post K n x1 x2 x3 σ → VV Z 0 0 (wC (zI Z) q σ) [(0, .ref (q 1)), (1, .int x1), (2, .int x2), (3, .int x3)] 12 [] := by
  intro n
  induction n with
  | zero => intro x1 x2 x3 σ hw; exact False.elim hw
  | succ n ih =>
    intro x1 x2 x3 σ hw
    unfold L_G_transpose_12 at hw
    refine x_iload_n (pc := 12) X d_G_transpose_12 3 rfl ?_
    refine x_iload_n (pc := 13) X d_G_transpose_13 2 rfl ?_
    refine x_icmp_ge (pc := 14) (tgt := 54) X d_G_transpose_14 (by decide) (fun c => ?_) (fun c => ?_)
    · have hw := hw.1 c
      refine x_iinc (pc := 54) (d := 1) (lv' := [(0, .ref (q 1)), (1, .int x1), (2, .int (x2 + 1)), (3, .int x3)]) X d_G_transpose_54 2 rfl (by decide) (by decide) [1, 2, 0, 3] rfl ?_
      refine x_goto (pc := 57) (tgt := 2) X d_G_transpose_57 (by decide) ?_
      refine x_drop [0, 1, 2] rfl ?_
      exact hK x1 (x2 + 1) σ hw
    · have hw := hw.2 c
      refine x_aload_n (pc := 17) X d_G_transpose_17 0 rfl ?_
      refine x_iload_n (pc := 18) X d_G_transpose_18 2 rfl ?_
      refine x_iload_n (pc := 19) X d_G_transpose_19 1 rfl ?_
      refine x_iload_n (pc := 20) X d_G_transpose_20 3 rfl ?_
      refine x_cvi (pc := 21) X [.int x2, .int x1, .int x3] (c_G_holds (zl Z) (zD Z) (zI Z) q σ x2 x1 x3 _ hw) mv_G_holds tb_G 1 (atC_1 _ _ _) mw_26 d_G_transpose_21 rfl (Nat.le_of_ble_eq_true rfl) ⟨Nat.le_of_ble_eq_true rfl, Nat.le_of_ble_eq_true rfl⟩ ⟨rfl, rfl⟩ ⟨Nat.zero_le _, Nat.zero_le _⟩ ?_
      intro r1 σ1 hw
      refine x_aload_n (pc := 24) X d_G_transpose_24 0 rfl ?_
      refine x_iload_n (pc := 25) X d_G_transpose_25 3 rfl ?_
      refine x_iload_n (pc := 26) X d_G_transpose_26 1 rfl ?_
      refine x_iload_n (pc := 27) X d_G_transpose_27 2 rfl ?_
      refine x_cvi (pc := 28) X [.int x3, .int x1, .int x2] (c_G_holds (zl Z) (zD Z) (zI Z) q σ1 x3 x1 x2 _ hw) mv_G_holds tb_G 1 (atC_1 _ _ _) mw_26 d_G_transpose_28 rfl (Nat.le_of_ble_eq_true rfl) ⟨Nat.le_of_ble_eq_true rfl, Nat.le_of_ble_eq_true rfl⟩ ⟨rfl, rfl⟩ ⟨Nat.zero_le _, Nat.zero_le _⟩ ?_
      intro r2 σ2 hw
      refine x_icmp_eq (pc := 31) (tgt := 48) X d_G_transpose_31 (by decide) (fun c => ?_) (fun c => ?_)
      · have hw := hw.1 c
        refine x_iinc (pc := 48) (d := 1) (lv' := [(0, .ref (q 1)), (1, .int x1), (2, .int x2), (3, .int (x3 + 1))]) X d_G_transpose_48 3 rfl (by decide) (by decide) [1, 2, 3, 0] rfl ?_
        refine x_goto (pc := 51) (tgt := 12) X d_G_transpose_51 (by decide) ?_
        exact ih x1 x2 (x3 + 1) σ2 hw
      · have hw := hw.2 c
        refine x_aload_n (pc := 34) X d_G_transpose_34 0 rfl ?_
        refine x_iload_n (pc := 35) X d_G_transpose_35 2 rfl ?_
        refine x_iload_n (pc := 36) X d_G_transpose_36 1 rfl ?_
        refine x_iload_n (pc := 37) X d_G_transpose_37 3 rfl ?_
        refine x_cvv (pc := 38) X [.int x2, .int x1, .int x3] (c_G_flip (zl Z) (zD Z) (zI Z) q σ2 x2 x1 x3 _ hw) mv_G_flip tb_G 1 (atC_1 _ _ _) mw_27 d_G_transpose_38 rfl (Nat.le_of_ble_eq_true rfl) ⟨Nat.le_of_ble_eq_true rfl, Nat.le_of_ble_eq_true rfl⟩ ⟨rfl, rfl⟩ ⟨Nat.zero_le _, Nat.zero_le _⟩ ?_
        intro σ3 hw
        refine x_aload_n (pc := 41) X d_G_transpose_41 0 rfl ?_
        refine x_iload_n (pc := 42) X d_G_transpose_42 3 rfl ?_
        refine x_iload_n (pc := 43) X d_G_transpose_43 1 rfl ?_
        refine x_iload_n (pc := 44) X d_G_transpose_44 2 rfl ?_
        refine x_cvv (pc := 45) X [.int x3, .int x1, .int x2] (c_G_flip (zl Z) (zD Z) (zI Z) q σ3 x3 x1 x2 _ hw) mv_G_flip tb_G 1 (atC_1 _ _ _) mw_27 d_G_transpose_45 rfl (Nat.le_of_ble_eq_true rfl) ⟨Nat.le_of_ble_eq_true rfl, Nat.le_of_ble_eq_true rfl⟩ ⟨rfl, rfl⟩ ⟨Nat.zero_le _, Nat.zero_le _⟩ ?_
        intro σ4 hw
        refine x_iinc (pc := 48) (d := 1) (lv' := [(0, .ref (q 1)), (1, .int x1), (2, .int x2), (3, .int (x3 + 1))]) X d_G_transpose_48 3 rfl (by decide) (by decide) [1, 2, 3, 0] rfl ?_
        refine x_goto (pc := 51) (tgt := 12) X d_G_transpose_51 (by decide) ?_
        exact ih x1 x2 (x3 + 1) σ4 hw
set_option maxHeartbeats 4000000 in
set_option maxRecDepth 100000 in
theorem wL_G_transpose_2 {Z : ZT} {q : Nat → Nat} {post : St → Prop} (X : Cx Z "WayTable$Graph" b_G_transpose rm_G_transpose 4) (hR : RV Z b_G_transpose (wC (zI Z) q) post) : ∀ (n : Nat) (x1 x2 : Int32) (σ : St), L_G_transpose_2 post n x1 x2 σ → VV Z 0 0 (wC (zI Z) q σ) [(0, .ref (q 1)), (1, .int x1), (2, .int x2)] 2 [] := by
  intro n
  induction n with
  | zero => intro x1 x2 σ hw; exact False.elim hw
  | succ n ih =>
    intro x1 x2 σ hw
    unfold L_G_transpose_2 at hw
    refine x_iload_n (pc := 2) X d_G_transpose_2 2 rfl ?_
    refine x_aload_n (pc := 3) X d_G_transpose_3 0 rfl ?_
    refine x_get (pc := 4) X tb_G 1 0 (by decide) mw_1 (atC_1 _ _ _) rfl d_G_transpose_4 ?_
    refine x_icmp_ge (pc := 7) (tgt := 60) X d_G_transpose_7 (by decide) (fun c => ?_) (fun c => ?_)
    · have hw := hw.1 c
      exact hR _ _ _ d_G_transpose_60 hw
    · have hw := hw.2 c
      refine x_iconst (pc := 10) (v := 0) X d_G_transpose_10 (by decide) ?_
      refine x_istore_n (pc := 11) (lv' := [(0, .ref (q 1)), (1, .int x1), (2, .int x2), (3, .int 0)]) X d_G_transpose_11 (by decide) [1, 2, 3, 0] rfl ?_
      obtain ⟨n2, hw⟩ := hw
      exact wL_G_transpose_12 X hR ih n2 x1 x2 0 σ hw
set_option maxHeartbeats 4000000 in
set_option maxRecDepth 100000 in
theorem c_G_transpose (l : Launch) (D : va_G) (cI : ClassId) (q : Nat → Nat) (σ : St) (x1 : Int32) (post : St → Prop) (hw : wp_G_transpose x1 σ post) : CV l D cI (wC cI q) y_G_transpose b_G_transpose 4 rm_G_transpose [.ref (q 1), .int x1] σ post := by
  refine CV_of (by decide) (Nat.le_of_ble_eq_true rfl) ?_
  intro Z hZl hZD hZI X hR
  subst hZl; subst hZD; subst hZI
  unfold wp_G_transpose at hw
  show VV Z 0 0 (wC (zI Z) q σ) [(0, .ref (q 1)), (1, .int x1)] 0 []
  refine x_iconst (pc := 0) (v := 1) X d_G_transpose_0 (by decide) ?_
  refine x_istore_n (pc := 1) (lv' := [(0, .ref (q 1)), (1, .int x1), (2, .int 1)]) X d_G_transpose_1 (by decide) [1, 2, 0] rfl ?_
  obtain ⟨n2, hw⟩ := hw
  exact wL_G_transpose_2 X hR n2 x1 1 σ hw
def rm_W_turn : Room := { frames := 3, cells := 0, slots := 0, locals := 67 }
set_option maxHeartbeats 4000000 in
set_option maxRecDepth 100000 in
theorem wL_W_turn_2 {Z : ZT} {q : Nat → Nat} {post : St → Prop} (X : Cx Z "WayTable" b_W_turn rm_W_turn 2) (hR : RV Z b_W_turn (wC (zI Z) q) post) : ∀ (n : Nat) (x1 : Int32) (σ : St), L_W_turn_2 post n x1 σ → VV Z 0 0 (wC (zI Z) q σ) [(0, .ref (q 0)), (1, .int x1)] 2 [] := by
  intro n
  induction n with
  | zero => intro x1 σ hw; exact False.elim hw
  | succ n ih =>
    intro x1 σ hw
    unfold L_W_turn_2 at hw
    refine x_iload_n (pc := 2) X d_W_turn_2 1 rfl ?_
    refine x_aload_n (pc := 3) X d_W_turn_3 0 rfl ?_
    refine x_get (pc := 4) X tb_W 0 0 (by decide) mw_0 (atC_0 _ _ _) rfl d_W_turn_4 ?_
    refine x_getN (pc := 7) X tb_G 1 1 (by decide) nw_25 (atC_1 _ _ _) rfl d_W_turn_7 ?_
    refine x_icmp_ge (pc := 10) (tgt := 27) X d_W_turn_10 (by decide) (fun c => ?_) (fun c => ?_)
    · have hw := hw.1 c
      exact hR _ _ _ d_W_turn_27 hw
    · have hw := hw.2 c
      refine x_aload_n (pc := 13) X d_W_turn_13 0 rfl ?_
      refine x_get (pc := 14) X tb_W 0 0 (by decide) mw_0 (atC_0 _ _ _) rfl d_W_turn_14 ?_
      refine x_iload_n (pc := 17) X d_W_turn_17 1 rfl ?_
      refine x_cnv (pc := 18) X [.int x1] (c_G_transpose (zl Z) (zD Z) (zI Z) q σ x1 _ hw) mv_G_transpose tb_G 1 (atC_1 _ _ _) nw_28 d_W_turn_18 rfl (Nat.le_of_ble_eq_true rfl) ⟨Nat.le_of_ble_eq_true rfl, Nat.le_of_ble_eq_true rfl⟩ ⟨rfl, rfl⟩ ⟨Nat.zero_le _, Nat.zero_le _⟩ ?_
      intro σ1 hw
      refine x_iinc (pc := 21) (d := 1) (lv' := [(0, .ref (q 0)), (1, .int (x1 + 1))]) X d_W_turn_21 1 rfl (by decide) (by decide) [1, 0] rfl ?_
      refine x_goto (pc := 24) (tgt := 2) X d_W_turn_24 (by decide) ?_
      exact ih (x1 + 1) σ1 hw
set_option maxHeartbeats 4000000 in
set_option maxRecDepth 100000 in
theorem c_W_turn (l : Launch) (D : va_G) (cI : ClassId) (q : Nat → Nat) (σ : St) (post : St → Prop) (hw : wp_W_turn σ post) : CV l D cI (wC cI q) y_W_turn b_W_turn 2 rm_W_turn [.ref (q 0)] σ post := by
  refine CV_of (by decide) (Nat.le_of_ble_eq_true rfl) ?_
  intro Z hZl hZD hZI X hR
  subst hZl; subst hZD; subst hZI
  unfold wp_W_turn at hw
  show VV Z 0 0 (wC (zI Z) q σ) [(0, .ref (q 0))] 0 []
  refine x_iconst (pc := 0) (v := 0) X d_W_turn_0 (by decide) ?_
  refine x_istore_n (pc := 1) (lv' := [(0, .ref (q 0)), (1, .int 0)]) X d_W_turn_1 (by decide) [1, 0] rfl ?_
  obtain ⟨n2, hw⟩ := hw
  exact wL_W_turn_2 X hR n2 0 σ hw
def rm_M_turn : Room := { frames := 0, cells := 0, slots := 0, locals := 0 }
set_option maxHeartbeats 4000000 in
set_option maxRecDepth 100000 in
theorem wL_M_turn_27 {Z : ZT} {q : Nat → Nat} {post : St → Prop} {K : Int32 → Int32 → St → Prop} (X : Cx Z "WayTableModel" b_M_turn rm_M_turn 6) (hR : RV Z b_M_turn (wM (zI Z) q) post) (hK : ∀ (x1 x2 : Int32) (σ : St), K x1 x2 σ → VV Z 0 0 (wM (zI Z) q σ) [(0, .ref (q 0)), (1, .int x1), (2, .int x2)] 17 []) : ∀ (n : Nat) (x1 x2 x3 : Int32) (σ : St), L_M_turn_27 post K n x1 x2 x3 σ → VV Z 0 0 (wM (zI Z) q σ) [(0, .ref (q 0)), (1, .int x1), (2, .int x2), (3, .int x3)] 27 [] := by
  intro n
  induction n with
  | zero => intro x1 x2 x3 σ hw; exact False.elim hw
  | succ n ih =>
    intro x1 x2 x3 σ hw
    unfold L_M_turn_27 at hw
    refine x_iload_n (pc := 27) X d_M_turn_27 3 rfl ?_
    refine x_iload_n (pc := 28) X d_M_turn_28 2 rfl ?_
    refine x_icmp_ge (pc := 29) (tgt := 113) X d_M_turn_29 (by decide) (fun c => ?_) (fun c => ?_)
    · have hw := hw.1 c
      refine x_iinc (pc := 113) (d := 1) (lv' := [(0, .ref (q 0)), (1, .int x1), (2, .int (x2 + 1)), (3, .int x3)]) X d_M_turn_113 2 rfl (by decide) (by decide) [1, 2, 0, 3] rfl ?_
      refine x_goto (pc := 116) (tgt := 17) X d_M_turn_116 (by decide) ?_
      refine x_drop [0, 1, 2] rfl ?_
      exact hK x1 (x2 + 1) σ hw
    · have hw := hw.2 c
      refine x_aload_n (pc := 32) X d_M_turn_32 0 rfl ?_
      refine x_get (pc := 33) X tb_M 0 4 (by decide) mw_11 (atM_0 _ _ _) rfl d_M_turn_33 ?_
      refine x_bipush (pc := 36) (v := (nI 24)) X d_M_turn_36 (by decide) ?_
      refine x_iload_n (pc := 38) X d_M_turn_38 1 rfl ?_
      refine x_imul (pc := 39) X d_M_turn_39 ?_
      refine x_iload_n (pc := 40) X d_M_turn_40 2 rfl ?_
      refine x_iadd (pc := 41) X d_M_turn_41 ?_
      obtain ⟨h1, hw⟩ := hw
      refine x_iald (pc := 42) X 1 (atM_1 _ _ _) h1 d_M_turn_42 ?_
      refine x_iload_n (pc := 43) X d_M_turn_43 3 rfl ?_
      refine x_ishr (pc := 44) X d_M_turn_44 ?_
      refine x_iconst (pc := 45) (v := 1) X d_M_turn_45 (by decide) ?_
      refine x_iand (pc := 46) X d_M_turn_46 ?_
      refine x_istore (pc := 47) (lv' := [(0, .ref (q 0)), (1, .int x1), (2, .int x2), (3, .int x3), (4, .int (((σ.2 0 (((nI 24) * x1) + x2).toNatClampNeg) >>> (x3 &&& 31)) &&& 1))]) X d_M_turn_47 (by decide) [1, 2, 3, 4, 0] rfl ?_
      refine x_aload_n (pc := 49) X d_M_turn_49 0 rfl ?_
      refine x_get (pc := 50) X tb_M 0 4 (by decide) mw_11 (atM_0 _ _ _) rfl d_M_turn_50 ?_
      refine x_bipush (pc := 53) (v := (nI 24)) X d_M_turn_53 (by decide) ?_
      refine x_iload_n (pc := 55) X d_M_turn_55 1 rfl ?_
      refine x_imul (pc := 56) X d_M_turn_56 ?_
      refine x_iload_n (pc := 57) X d_M_turn_57 3 rfl ?_
      refine x_iadd (pc := 58) X d_M_turn_58 ?_
      obtain ⟨h2, hw⟩ := hw
      refine x_iald (pc := 59) X 1 (atM_1 _ _ _) h2 d_M_turn_59 ?_
      refine x_iload_n (pc := 60) X d_M_turn_60 2 rfl ?_
      refine x_ishr (pc := 61) X d_M_turn_61 ?_
      refine x_iconst (pc := 62) (v := 1) X d_M_turn_62 (by decide) ?_
      refine x_iand (pc := 63) X d_M_turn_63 ?_
      refine x_istore (pc := 64) (lv' := [(0, .ref (q 0)), (1, .int x1), (2, .int x2), (3, .int x3), (4, .int (((σ.2 0 (((nI 24) * x1) + x2).toNatClampNeg) >>> (x3 &&& 31)) &&& 1)), (5, .int (((σ.2 0 (((nI 24) * x1) + x3).toNatClampNeg) >>> (x2 &&& 31)) &&& 1))]) X d_M_turn_64 (by decide) [1, 2, 3, 4, 5, 0] rfl ?_
      refine x_iload (pc := 66) X d_M_turn_66 4 rfl ?_
      refine x_iload (pc := 68) X d_M_turn_68 5 rfl ?_
      refine x_icmp_eq (pc := 70) (tgt := 107) X d_M_turn_70 (by decide) (fun c => ?_) (fun c => ?_)
      · have hw := hw.1 c
        refine x_iinc (pc := 107) (d := 1) (lv' := [(0, .ref (q 0)), (1, .int x1), (2, .int x2), (3, .int (x3 + 1)), (4, .int (((σ.2 0 (((nI 24) * x1) + x2).toNatClampNeg) >>> (x3 &&& 31)) &&& 1)), (5, .int (((σ.2 0 (((nI 24) * x1) + x3).toNatClampNeg) >>> (x2 &&& 31)) &&& 1))]) X d_M_turn_107 3 rfl (by decide) (by decide) [1, 2, 3, 0, 4, 5] rfl ?_
        refine x_goto (pc := 110) (tgt := 27) X d_M_turn_110 (by decide) ?_
        refine x_drop [0, 1, 2, 3] rfl ?_
        exact ih x1 x2 (x3 + 1) σ hw
      · have hw := hw.2 c
        refine x_aload_n (pc := 73) X d_M_turn_73 0 rfl ?_
        refine x_get (pc := 74) X tb_M 0 4 (by decide) mw_11 (atM_0 _ _ _) rfl d_M_turn_74 ?_
        refine x_bipush (pc := 77) (v := (nI 24)) X d_M_turn_77 (by decide) ?_
        refine x_iload_n (pc := 79) X d_M_turn_79 1 rfl ?_
        refine x_imul (pc := 80) X d_M_turn_80 ?_
        refine x_iload_n (pc := 81) X d_M_turn_81 2 rfl ?_
        refine x_iadd (pc := 82) X d_M_turn_82 ?_
        refine x_dup2 (pc := 83) X d_M_turn_83 rfl rfl ?_
        obtain ⟨h3, hw⟩ := hw
        refine x_iald (pc := 84) X 1 (atM_1 _ _ _) h3 d_M_turn_84 ?_
        refine x_iconst (pc := 85) (v := 1) X d_M_turn_85 (by decide) ?_
        refine x_iload_n (pc := 86) X d_M_turn_86 3 rfl ?_
        refine x_ishl (pc := 87) X d_M_turn_87 ?_
        refine x_ixor (pc := 88) X d_M_turn_88 ?_
        obtain ⟨h4, hw⟩ := hw
        refine x_iast (pc := 89) (ws' := (wM (zI Z) q (ua σ 0 (((nI 24) * x1) + x2).toNatClampNeg ((σ.2 0 (((nI 24) * x1) + x2).toNatClampNeg) ^^^ (1 <<< (x3 &&& 31)))))) X 1 (atM_1 _ _ _) h4 (stM_1 _ _ _ _) d_M_turn_89 ?_
        refine x_aload_n (pc := 90) X d_M_turn_90 0 rfl ?_
        refine x_get (pc := 91) X tb_M 0 4 (by decide) mw_11 (atM_0 _ _ _) rfl d_M_turn_91 ?_
        refine x_bipush (pc := 94) (v := (nI 24)) X d_M_turn_94 (by decide) ?_
        refine x_iload_n (pc := 96) X d_M_turn_96 1 rfl ?_
        refine x_imul (pc := 97) X d_M_turn_97 ?_
        refine x_iload_n (pc := 98) X d_M_turn_98 3 rfl ?_
        refine x_iadd (pc := 99) X d_M_turn_99 ?_
        refine x_dup2 (pc := 100) X d_M_turn_100 rfl rfl ?_
        obtain ⟨h5, hw⟩ := hw
        refine x_iald (pc := 101) X 1 (atM_1 _ _ _) h5 d_M_turn_101 ?_
        refine x_iconst (pc := 102) (v := 1) X d_M_turn_102 (by decide) ?_
        refine x_iload_n (pc := 103) X d_M_turn_103 2 rfl ?_
        refine x_ishl (pc := 104) X d_M_turn_104 ?_
        refine x_ixor (pc := 105) X d_M_turn_105 ?_
        obtain ⟨h6, hw⟩ := hw
        refine x_iast (pc := 106) (ws' := (wM (zI Z) q (ua (ua σ 0 (((nI 24) * x1) + x2).toNatClampNeg ((σ.2 0 (((nI 24) * x1) + x2).toNatClampNeg) ^^^ (1 <<< (x3 &&& 31)))) 0 (((nI 24) * x1) + x3).toNatClampNeg (((ua σ 0 (((nI 24) * x1) + x2).toNatClampNeg ((σ.2 0 (((nI 24) * x1) + x2).toNatClampNeg) ^^^ (1 <<< (x3 &&& 31)))).2 0 (((nI 24) * x1) + x3).toNatClampNeg) ^^^ (1 <<< (x2 &&& 31)))))) X 1 (atM_1 _ _ _) h6 (stM_1 _ _ _ _) d_M_turn_106 ?_
        refine x_iinc (pc := 107) (d := 1) (lv' := [(0, .ref (q 0)), (1, .int x1), (2, .int x2), (3, .int (x3 + 1)), (4, .int (((σ.2 0 (((nI 24) * x1) + x2).toNatClampNeg) >>> (x3 &&& 31)) &&& 1)), (5, .int (((σ.2 0 (((nI 24) * x1) + x3).toNatClampNeg) >>> (x2 &&& 31)) &&& 1))]) X d_M_turn_107 3 rfl (by decide) (by decide) [1, 2, 3, 0, 4, 5] rfl ?_
        refine x_goto (pc := 110) (tgt := 27) X d_M_turn_110 (by decide) ?_
        refine x_drop [0, 1, 2, 3] rfl ?_
        exact ih x1 x2 (x3 + 1) (ua (ua σ 0 (((nI 24) * x1) + x2).toNatClampNeg ((σ.2 0 (((nI 24) * x1) + x2).toNatClampNeg) ^^^ (1 <<< (x3 &&& 31)))) 0 (((nI 24) * x1) + x3).toNatClampNeg (((ua σ 0 (((nI 24) * x1) + x2).toNatClampNeg ((σ.2 0 (((nI 24) * x1) + x2).toNatClampNeg) ^^^ (1 <<< (x3 &&& 31)))).2 0 (((nI 24) * x1) + x3).toNatClampNeg) ^^^ (1 <<< (x2 &&& 31)))) hw
set_option maxHeartbeats 4000000 in
set_option maxRecDepth 100000 in
theorem wL_M_turn_17 {Z : ZT} {q : Nat → Nat} {post : St → Prop} {K : Int32 → St → Prop} (X : Cx Z "WayTableModel" b_M_turn rm_M_turn 6) (hR : RV Z b_M_turn (wM (zI Z) q) post) (hK : ∀ (x1 : Int32) (σ : St), K x1 σ → VV Z 0 0 (wM (zI Z) q σ) [(0, .ref (q 0)), (1, .int x1)] 7 []) : ∀ (n : Nat) (x1 x2 : Int32) (σ : St), L_M_turn_17 post K n x1 x2 σ → VV Z 0 0 (wM (zI Z) q σ) [(0, .ref (q 0)), (1, .int x1), (2, .int x2)] 17 [] := by
  intro n
  induction n with
  | zero => intro x1 x2 σ hw; exact False.elim hw
  | succ n ih =>
    intro x1 x2 σ hw
    unfold L_M_turn_17 at hw
    refine x_iload_n (pc := 17) X d_M_turn_17 2 rfl ?_
    refine x_aload_n (pc := 18) X d_M_turn_18 0 rfl ?_
    refine x_get (pc := 19) X tb_M 0 1 (by decide) mw_8 (atM_0 _ _ _) rfl d_M_turn_19 ?_
    refine x_icmp_ge (pc := 22) (tgt := 119) X d_M_turn_22 (by decide) (fun c => ?_) (fun c => ?_)
    · have hw := hw.1 c
      refine x_iinc (pc := 119) (d := 1) (lv' := [(0, .ref (q 0)), (1, .int (x1 + 1)), (2, .int x2)]) X d_M_turn_119 1 rfl (by decide) (by decide) [1, 0, 2] rfl ?_
      refine x_goto (pc := 122) (tgt := 7) X d_M_turn_122 (by decide) ?_
      refine x_drop [0, 1] rfl ?_
      exact hK (x1 + 1) σ hw
    · have hw := hw.2 c
      refine x_iconst (pc := 25) (v := 0) X d_M_turn_25 (by decide) ?_
      refine x_istore_n (pc := 26) (lv' := [(0, .ref (q 0)), (1, .int x1), (2, .int x2), (3, .int 0)]) X d_M_turn_26 (by decide) [1, 2, 3, 0] rfl ?_
      obtain ⟨n2, hw⟩ := hw
      exact wL_M_turn_27 X hR ih n2 x1 x2 0 σ hw
set_option maxHeartbeats 4000000 in
set_option maxRecDepth 100000 in
theorem wL_M_turn_7 {Z : ZT} {q : Nat → Nat} {post : St → Prop} (X : Cx Z "WayTableModel" b_M_turn rm_M_turn 6) (hR : RV Z b_M_turn (wM (zI Z) q) post) : ∀ (n : Nat) (x1 : Int32) (σ : St), L_M_turn_7 post n x1 σ → VV Z 0 0 (wM (zI Z) q σ) [(0, .ref (q 0)), (1, .int x1)] 7 [] := by
  intro n
  induction n with
  | zero => intro x1 σ hw; exact False.elim hw
  | succ n ih =>
    intro x1 σ hw
    unfold L_M_turn_7 at hw
    refine x_iload_n (pc := 7) X d_M_turn_7 1 rfl ?_
    refine x_aload_n (pc := 8) X d_M_turn_8 0 rfl ?_
    refine x_get (pc := 9) X tb_M 0 2 (by decide) mw_9 (atM_0 _ _ _) rfl d_M_turn_9 ?_
    refine x_icmp_ge (pc := 12) (tgt := 125) X d_M_turn_12 (by decide) (fun c => ?_) (fun c => ?_)
    · have hw := hw.1 c
      exact hR _ _ _ d_M_turn_125 hw
    · have hw := hw.2 c
      refine x_iconst (pc := 15) (v := 0) X d_M_turn_15 (by decide) ?_
      refine x_istore_n (pc := 16) (lv' := [(0, .ref (q 0)), (1, .int x1), (2, .int 0)]) X d_M_turn_16 (by decide) [1, 2, 0] rfl ?_
      obtain ⟨n2, hw⟩ := hw
      exact wL_M_turn_17 X hR ih n2 x1 0 σ hw
set_option maxHeartbeats 4000000 in
set_option maxRecDepth 100000 in
theorem c_M_turn (l : Launch) (D : va_G) (cI : ClassId) (q : Nat → Nat) (σ : St) (post : St → Prop) (hw : wp_M_turn σ post) : CV l D cI (wM cI q) y_M_turn b_M_turn 6 rm_M_turn [.ref (q 0)] σ post := by
  refine CV_of (by decide) (Nat.le_of_ble_eq_true rfl) ?_
  intro Z hZl hZD hZI X hR
  subst hZl; subst hZD; subst hZI
  unfold wp_M_turn at hw
  show VV Z 0 0 (wM (zI Z) q σ) [(0, .ref (q 0))] 0 []
  refine x_aload_n (pc := 0) X d_M_turn_0 0 rfl ?_
  refine x_iconst (pc := 1) (v := 0) X d_M_turn_1 (by decide) ?_
  refine x_put (pc := 2) (ws' := (wM (zI Z) q (us σ 0 0))) X tb_M 0 0 (by decide) mw_7 (atM_0 _ _ _) rfl pI (Nat.le_of_ble_eq_true rfl) (ptM_0 _ _ _ _) d_M_turn_2 ?_
  refine x_iconst (pc := 5) (v := 0) X d_M_turn_5 (by decide) ?_
  refine x_istore_n (pc := 6) (lv' := [(0, .ref (q 0)), (1, .int 0)]) X d_M_turn_6 (by decide) [1, 0] rfl ?_
  obtain ⟨n2, hw⟩ := hw
  exact wL_M_turn_7 X hR n2 0 (us σ 0 0) hw
def rm_W_start : Room := { frames := 1, cells := 0, slots := 0, locals := 21 }
set_option maxHeartbeats 4000000 in
set_option maxRecDepth 100000 in
theorem c_W_start (l : Launch) (D : va_G) (cI : ClassId) (q : Nat → Nat) (σ : St) (x1 : Int32) (post : Int32 → St → Prop) (hw : wp_W_start x1 σ post) : CI l D cI (wC cI q) y_W_start b_W_start 2 .boolean rm_W_start [.ref (q 0), .int x1] σ post := by
  refine CI_of (by decide) (Nat.le_of_ble_eq_true rfl) ?_
  intro Z hZl hZD hZI X hR
  subst hZl; subst hZD; subst hZI
  unfold wp_W_start at hw
  show VV Z 0 0 (wC (zI Z) q σ) [(0, .ref (q 0)), (1, .int x1)] 0 []
  refine x_aload_n (pc := 0) X d_W_start_0 0 rfl ?_
  refine x_get (pc := 1) X tb_W 0 0 (by decide) mw_0 (atC_0 _ _ _) rfl d_W_start_1 ?_
  refine x_iload_n (pc := 4) X d_W_start_4 1 rfl ?_
  refine x_cni (pc := 5) X [.int x1] (c_G_hasNode (zl Z) (zD Z) (zI Z) q σ x1 _ hw) mv_G_hasNode tb_G 1 (atC_1 _ _ _) nw_22 d_W_start_5 rfl (Nat.le_of_ble_eq_true rfl) ⟨Nat.le_of_ble_eq_true rfl, Nat.le_of_ble_eq_true rfl⟩ ⟨rfl, rfl⟩ ⟨Nat.zero_le _, Nat.zero_le _⟩ ?_
  intro r1 σ1 hw
  refine x_if_ne (pc := 8) (tgt := 13) X d_W_start_8 (by decide) (fun c => ?_) (fun c => ?_)
  · have hw := hw.1 c
    refine x_aload_n (pc := 13) X d_W_start_13 0 rfl ?_
    refine x_get (pc := 14) X tb_W 0 0 (by decide) mw_0 (atC_0 _ _ _) rfl d_W_start_14 ?_
    refine x_iload_n (pc := 17) X d_W_start_17 1 rfl ?_
    refine x_putN (pc := 18) (ws' := (wC (zI Z) q (us σ1 3 x1))) X tb_G 1 2 (by decide) nw_29 (atC_1 _ _ _) rfl pI (Nat.le_of_ble_eq_true rfl) (ptC_3 _ _ _ _) d_W_start_18 ?_
    refine x_iconst (pc := 21) (v := 1) X d_W_start_21 (by decide) ?_
    exact hR _ _ _ _ d_W_start_22 rfl hw
  · have hw := hw.2 c
    refine x_iconst (pc := 11) (v := 0) X d_W_start_11 (by decide) ?_
    exact hR _ _ _ _ d_W_start_12 rfl hw
def rm_M_start : Room := { frames := 1, cells := 0, slots := 0, locals := 21 }
set_option maxHeartbeats 4000000 in
set_option maxRecDepth 100000 in
theorem c_M_start (l : Launch) (D : va_G) (cI : ClassId) (q : Nat → Nat) (σ : St) (x1 : Int32) (post : Int32 → St → Prop) (hw : wp_M_start x1 σ post) : CI l D cI (wM cI q) y_M_start b_M_start 2 .boolean rm_M_start [.ref (q 0), .int x1] σ post := by
  refine CI_of (by decide) (Nat.le_of_ble_eq_true rfl) ?_
  intro Z hZl hZD hZI X hR
  subst hZl; subst hZD; subst hZI
  unfold wp_M_start at hw
  show VV Z 0 0 (wM (zI Z) q σ) [(0, .ref (q 0)), (1, .int x1)] 0 []
  refine x_aload_n (pc := 0) X d_M_start_0 0 rfl ?_
  refine x_iconst (pc := 1) (v := 0) X d_M_start_1 (by decide) ?_
  refine x_put (pc := 2) (ws' := (wM (zI Z) q (us σ 0 0))) X tb_M 0 0 (by decide) mw_7 (atM_0 _ _ _) rfl pI (Nat.le_of_ble_eq_true rfl) (ptM_0 _ _ _ _) d_M_start_2 ?_
  refine x_aload_n (pc := 5) X d_M_start_5 0 rfl ?_
  refine x_iload_n (pc := 6) X d_M_start_6 1 rfl ?_
  refine x_cvi (pc := 7) X [.int x1] (c_M_isNode (zl Z) (zD Z) (zI Z) q (us σ 0 0) x1 _ hw) mv_M_isNode tb_M 0 (atM_0 _ _ _) mw_18 d_M_start_7 rfl (Nat.le_of_ble_eq_true rfl) ⟨Nat.le_of_ble_eq_true rfl, Nat.le_of_ble_eq_true rfl⟩ ⟨rfl, rfl⟩ ⟨Nat.zero_le _, Nat.zero_le _⟩ ?_
  intro r1 σ1 hw
  refine x_if_ne (pc := 10) (tgt := 15) X d_M_start_10 (by decide) (fun c => ?_) (fun c => ?_)
  · have hw := hw.1 c
    refine x_aload_n (pc := 15) X d_M_start_15 0 rfl ?_
    refine x_iload_n (pc := 16) X d_M_start_16 1 rfl ?_
    refine x_put (pc := 17) (ws' := (wM (zI Z) q (us σ1 3 x1))) X tb_M 0 3 (by decide) mw_10 (atM_0 _ _ _) rfl pI (Nat.le_of_ble_eq_true rfl) (ptM_3 _ _ _ _) d_M_start_17 ?_
    refine x_iconst (pc := 20) (v := 1) X d_M_start_20 (by decide) ?_
    exact hR _ _ _ _ d_M_start_21 rfl hw
  · have hw := hw.2 c
    refine x_iconst (pc := 13) (v := 0) X d_M_start_13 (by decide) ?_
    exact hR _ _ _ _ d_M_start_14 rfl hw
def rm_G_reach : Room := { frames := 1, cells := 0, slots := 0, locals := 21 }
set_option maxHeartbeats 4000000 in
set_option maxRecDepth 100000 in
theorem wL_G_reach_5 {Z : ZT} {q : Nat → Nat} {post : Int32 → St → Prop} (X : Cx Z "WayTable$Graph" b_G_reach rm_G_reach 5) (hR : RI Z b_G_reach .int (wC (zI Z) q) post) : ∀ (n : Nat) (x1 x2 x3 x4 : Int32) (σ : St), L_G_reach_5 post n x1 x2 x3 x4 σ → VV Z 0 0 (wC (zI Z) q σ) [(0, .ref (q 1)), (1, .int x1), (2, .int x2), (3, .int x3), (4, .int x4)] 5 [] := by
  intro n
  induction n with
  | zero => intro x1 x2 x3 x4 σ hw; exact False.elim hw
  | succ n ih =>
    intro x1 x2 x3 x4 σ hw
    unfold L_G_reach_5 at hw
    refine x_iload (pc := 5) X d_G_reach_5 4 rfl ?_
    refine x_aload_n (pc := 7) X d_G_reach_7 0 rfl ?_
    refine x_get (pc := 8) X tb_G 1 0 (by decide) mw_1 (atC_1 _ _ _) rfl d_G_reach_8 ?_
    refine x_icmp_ge (pc := 11) (tgt := 43) X d_G_reach_11 (by decide) (fun c => ?_) (fun c => ?_)
    · have hw := hw.1 c
      refine x_iload_n (pc := 43) X d_G_reach_43 3 rfl ?_
      exact hR _ _ _ _ d_G_reach_44 (vp_nar_int _) hw
    · have hw := hw.2 c
      refine x_iload_n (pc := 14) X d_G_reach_14 1 rfl ?_
      refine x_iload (pc := 15) X d_G_reach_15 4 rfl ?_
      refine x_iushr (pc := 17) X d_G_reach_17 ?_
      refine x_iconst (pc := 18) (v := 1) X d_G_reach_18 (by decide) ?_
      refine x_iand (pc := 19) X d_G_reach_19 ?_
      refine x_if_eq (pc := 20) (tgt := 37) X d_G_reach_20 (by decide) (fun c => ?_) (fun c => ?_)
      · have hw := hw.1 c
        refine x_iinc (pc := 37) (d := 1) (lv' := [(0, .ref (q 1)), (1, .int x1), (2, .int x2), (3, .int x3), (4, .int (x4 + 1))]) X d_G_reach_37 4 rfl (by decide) (by decide) [1, 2, 3, 4, 0] rfl ?_
        refine x_goto (pc := 40) (tgt := 5) X d_G_reach_40 (by decide) ?_
        exact ih x1 x2 x3 (x4 + 1) σ hw
      · have hw := hw.2 c
        refine x_iload_n (pc := 23) X d_G_reach_23 3 rfl ?_
        refine x_aload_n (pc := 24) X d_G_reach_24 0 rfl ?_
        refine x_get (pc := 25) X tb_G 1 3 (by decide) mw_4 (atC_1 _ _ _) rfl d_G_reach_25 ?_
        refine x_iload (pc := 28) X d_G_reach_28 4 rfl ?_
        refine x_iload_n (pc := 30) X d_G_reach_30 2 rfl ?_
        refine x_csi (pc := 31) X [.int x4, .int x2] (c_G_place (zl Z) (zD Z) (zI Z) q σ x4 x2 _ hw) ms_G_place mw_15 d_G_reach_31 rfl (Nat.le_of_ble_eq_true rfl) ⟨Nat.le_of_ble_eq_true rfl, Nat.le_of_ble_eq_true rfl⟩ ⟨rfl, rfl⟩ ⟨Nat.zero_le _, Nat.zero_le _⟩ ?_
        intro r1 σ1 hw
        obtain ⟨h2, hw⟩ := hw
        refine x_iald (pc := 34) X 2 (atC_2 _ _ _) h2 d_G_reach_34 ?_
        refine x_ior (pc := 35) X d_G_reach_35 ?_
        refine x_istore_n (pc := 36) (lv' := [(0, .ref (q 1)), (1, .int x1), (2, .int x2), (3, .int (x3 ||| (σ1.2 0 r1.toNatClampNeg))), (4, .int x4)]) X d_G_reach_36 (by decide) [1, 2, 3, 0, 4] rfl ?_
        refine x_iinc (pc := 37) (d := 1) (lv' := [(0, .ref (q 1)), (1, .int x1), (2, .int x2), (3, .int (x3 ||| (σ1.2 0 r1.toNatClampNeg))), (4, .int (x4 + 1))]) X d_G_reach_37 4 rfl (by decide) (by decide) [1, 2, 3, 4, 0] rfl ?_
        refine x_goto (pc := 40) (tgt := 5) X d_G_reach_40 (by decide) ?_
        exact ih x1 x2 (x3 ||| (σ1.2 0 r1.toNatClampNeg)) (x4 + 1) σ1 hw
set_option maxHeartbeats 4000000 in
set_option maxRecDepth 100000 in
theorem c_G_reach (l : Launch) (D : va_G) (cI : ClassId) (q : Nat → Nat) (σ : St) (x1 x2 : Int32) (post : Int32 → St → Prop) (hw : wp_G_reach x1 x2 σ post) : CI l D cI (wC cI q) y_G_reach b_G_reach 5 .int rm_G_reach [.ref (q 1), .int x1, .int x2] σ post := by
  refine CI_of (by decide) (Nat.le_of_ble_eq_true rfl) ?_
  intro Z hZl hZD hZI X hR
  subst hZl; subst hZD; subst hZI
  unfold wp_G_reach at hw
  show VV Z 0 0 (wC (zI Z) q σ) [(0, .ref (q 1)), (1, .int x1), (2, .int x2)] 0 []
  refine x_iconst (pc := 0) (v := 0) X d_G_reach_0 (by decide) ?_
  refine x_istore_n (pc := 1) (lv' := [(0, .ref (q 1)), (1, .int x1), (2, .int x2), (3, .int 0)]) X d_G_reach_1 (by decide) [1, 2, 3, 0] rfl ?_
  refine x_iconst (pc := 2) (v := 0) X d_G_reach_2 (by decide) ?_
  refine x_istore (pc := 3) (lv' := [(0, .ref (q 1)), (1, .int x1), (2, .int x2), (3, .int 0), (4, .int 0)]) X d_G_reach_3 (by decide) [1, 2, 3, 4, 0] rfl ?_
  obtain ⟨n2, hw⟩ := hw
  exact wL_G_reach_5 X hR n2 x1 x2 0 0 σ hw
def rm_T_indexOf_5 : Room := { frames := 0, cells := 0, slots := 0, locals := 0 }
set_option maxHeartbeats 4000000 in
set_option maxRecDepth 100000 in
theorem wL_T_indexOf_5_2 {Z : ZT} {q : Nat → Nat} {post : Int32 → St → Prop} (X : Cx Z "WayTable$Table" b_T_indexOf rm_T_indexOf_5 4) (hR : RI Z b_T_indexOf .int (wC (zI Z) q) post) : ∀ (n : Nat) (x1 x2 x3 : Int32) (σ : St), L_T_indexOf_5_2 post n x1 x2 x3 σ → VV Z 0 0 (wC (zI Z) q σ) [(0, .ref (q 5)), (1, .int x1), (2, .int x2), (3, .int x3)] 2 [] := by
  intro n
  induction n with
  | zero => intro x1 x2 x3 σ hw; exact False.elim hw
  | succ n ih =>
    intro x1 x2 x3 σ hw
    unfold L_T_indexOf_5_2 at hw
    refine x_iload_n (pc := 2) X d_T_indexOf_2 3 rfl ?_
    refine x_iload_n (pc := 3) X d_T_indexOf_3 1 rfl ?_
    refine x_icmp_ge (pc := 4) (tgt := 22) X d_T_indexOf_4 (by decide) (fun c => ?_) (fun c => ?_)
    · have hw := hw.1 c
      refine x_iconst (pc := 22) (v := (-1)) X d_T_indexOf_22 (by decide) ?_
      exact hR _ _ _ _ d_T_indexOf_23 (vp_nar_int _) hw
    · have hw := hw.2 c
      refine x_aload_n (pc := 7) X d_T_indexOf_7 0 rfl ?_
      refine x_iload_n (pc := 8) X d_T_indexOf_8 3 rfl ?_
      obtain ⟨h1, hw⟩ := hw
      refine x_iald (pc := 9) X 5 (atC_5 _ _ _) h1 d_T_indexOf_9 ?_
      refine x_iload_n (pc := 10) X d_T_indexOf_10 2 rfl ?_
      refine x_icmp_ne (pc := 11) (tgt := 16) X d_T_indexOf_11 (by decide) (fun c => ?_) (fun c => ?_)
      · have hw := hw.1 c
        refine x_iinc (pc := 16) (d := 1) (lv' := [(0, .ref (q 5)), (1, .int x1), (2, .int x2), (3, .int (x3 + 1))]) X d_T_indexOf_16 3 rfl (by decide) (by decide) [1, 2, 3, 0] rfl ?_
        refine x_goto (pc := 19) (tgt := 2) X d_T_indexOf_19 (by decide) ?_
        exact ih x1 x2 (x3 + 1) σ hw
      · have hw := hw.2 c
        refine x_iload_n (pc := 14) X d_T_indexOf_14 3 rfl ?_
        exact hR _ _ _ _ d_T_indexOf_15 (vp_nar_int _) hw
set_option maxHeartbeats 4000000 in
set_option maxRecDepth 100000 in
theorem c_T_indexOf_5 (l : Launch) (D : va_G) (cI : ClassId) (q : Nat → Nat) (σ : St) (x1 x2 : Int32) (post : Int32 → St → Prop) (hw : wp_T_indexOf_5 x1 x2 σ post) : CI l D cI (wC cI q) y_T_indexOf b_T_indexOf 4 .int rm_T_indexOf_5 [.ref (q 5), .int x1, .int x2] σ post := by
  refine CI_of (by decide) (Nat.le_of_ble_eq_true rfl) ?_
  intro Z hZl hZD hZI X hR
  subst hZl; subst hZD; subst hZI
  unfold wp_T_indexOf_5 at hw
  show VV Z 0 0 (wC (zI Z) q σ) [(0, .ref (q 5)), (1, .int x1), (2, .int x2)] 0 []
  refine x_iconst (pc := 0) (v := 0) X d_T_indexOf_0 (by decide) ?_
  refine x_istore_n (pc := 1) (lv' := [(0, .ref (q 5)), (1, .int x1), (2, .int x2), (3, .int 0)]) X d_T_indexOf_1 (by decide) [1, 2, 3, 0] rfl ?_
  obtain ⟨n2, hw⟩ := hw
  exact wL_T_indexOf_5_2 X hR n2 x1 x2 0 σ hw
end
section
def rm_T_findSets_1 : Room := { frames := 2, cells := 0, slots := 0, locals := 45 }
set_option maxHeartbeats 4000000 in
set_option maxRecDepth 100000 in
theorem wL_T_findSets_1_24 {Z : ZT} {q : Nat → Nat} {post : Int32 → St → Prop} {K : Int32 → Int32 → St → Prop} (X : Cx Z "WayTable$Table" b_T_findSets rm_T_findSets_1 6) (hR : RI Z b_T_findSets .int (wC (zI Z) q) post) (hK : ∀ (x2 x3 : Int32) (σ : St), K x2 x3 σ → VV Z 0 0 (wC (zI Z) q σ) [(0, .ref (q 3)), (1, .ref (q 1)), (2, .int x2), (3, .int x3)] 16 []) : ∀ (n : Nat) (x2 x3 x4 : Int32) (σ : St), L_T_findSets_1_24 post K n x2 x3 x4 σ → VV Z 0 0 (wC (zI Z) q σ) [(0, .ref (q 3)), (1, .ref (q 1)), (2, .int x2), (3, .int x3), (4, .int x4)] 24 [] := by
  intro n
  induction n with
  | zero => intro x2 x3 x4 σ hw; exact False.elim hw
  | succ n ih =>
    intro x2 x3 x4 σ hw
    unfold L_T_findSets_1_24 at hw
    refine x_iload (pc := 24) X d_T_findSets_24 4 rfl ?_
    refine x_aload_n (pc := 26) X d_T_findSets_26 1 rfl ?_
    refine x_getN (pc := 27) X tb_G 1 1 (by decide) nw_33 (atC_1 _ _ _) rfl d_T_findSets_27 ?_
    refine x_icmp_ge (pc := 30) (tgt := 91) X d_T_findSets_30 (by decide) (fun c => ?_) (fun c => ?_)
    · have hw := hw.1 c
      refine x_iinc (pc := 91) (d := 1) (lv' := [(0, .ref (q 3)), (1, .ref (q 1)), (2, .int x2), (3, .int (x3 + 1)), (4, .int x4)]) X d_T_findSets_91 3 rfl (by decide) (by decide) [1, 2, 3, 0, 4] rfl ?_
      refine x_goto (pc := 94) (tgt := 16) X d_T_findSets_94 (by decide) ?_
      refine x_drop [0, 1, 2, 3] rfl ?_
      exact hK x2 (x3 + 1) σ hw
    · have hw := hw.2 c
      refine x_aload_n (pc := 33) X d_T_findSets_33 1 rfl ?_
      refine x_aload_n (pc := 34) X d_T_findSets_34 0 rfl ?_
      refine x_get (pc := 35) X tb_T 3 5 (by decide) mw_31 (atC_3 _ _ _) rfl d_T_findSets_35 ?_
      refine x_iload_n (pc := 38) X d_T_findSets_38 3 rfl ?_
      obtain ⟨h2, hw⟩ := hw
      refine x_iald (pc := 39) X 5 (atC_5 _ _ _) h2 d_T_findSets_39 ?_
      refine x_iload (pc := 40) X d_T_findSets_40 4 rfl ?_
      refine x_cni (pc := 42) X [.int (σ.2 2 x3.toNatClampNeg), .int x4] (c_G_reach (zl Z) (zD Z) (zI Z) q σ (σ.2 2 x3.toNatClampNeg) x4 _ hw) mv_G_reach tb_G 1 (atC_1 _ _ _) nw_34 d_T_findSets_42 rfl (Nat.le_of_ble_eq_true rfl) ⟨Nat.le_of_ble_eq_true rfl, Nat.le_of_ble_eq_true rfl⟩ ⟨rfl, rfl⟩ ⟨Nat.zero_le _, Nat.zero_le _⟩ ?_
      intro r3 σ3 hw
      refine x_istore (pc := 45) (lv' := [(0, .ref (q 3)), (1, .ref (q 1)), (2, .int x2), (3, .int x3), (4, .int x4), (5, .int r3)]) X d_T_findSets_45 (by decide) [1, 2, 3, 4, 5, 0] rfl ?_
      refine x_iload (pc := 47) X d_T_findSets_47 5 rfl ?_
      refine x_if_eq (pc := 49) (tgt := 85) X d_T_findSets_49 (by decide) (fun c => ?_) (fun c => ?_)
      · have hw := hw.1 c
        refine x_iinc (pc := 85) (d := 1) (lv' := [(0, .ref (q 3)), (1, .ref (q 1)), (2, .int x2), (3, .int x3), (4, .int (x4 + 1)), (5, .int r3)]) X d_T_findSets_85 4 rfl (by decide) (by decide) [1, 2, 3, 4, 0, 5] rfl ?_
        refine x_goto (pc := 88) (tgt := 24) X d_T_findSets_88 (by decide) ?_
        refine x_drop [0, 1, 2, 3, 4] rfl ?_
        exact ih x2 x3 (x4 + 1) σ3 hw
      · have hw := hw.2 c
        refine x_aload_n (pc := 52) X d_T_findSets_52 0 rfl ?_
        refine x_get (pc := 53) X tb_T 3 5 (by decide) mw_31 (atC_3 _ _ _) rfl d_T_findSets_53 ?_
        refine x_iload_n (pc := 56) X d_T_findSets_56 2 rfl ?_
        refine x_iload (pc := 57) X d_T_findSets_57 5 rfl ?_
        refine x_csi (pc := 59) X [.ref (q 5), .int x2, .int r3] (c_T_indexOf_5 (zl Z) (zD Z) (zI Z) q σ3 x2 r3 _ hw) ms_T_indexOf mw_35 d_T_findSets_59 rfl (Nat.le_of_ble_eq_true rfl) ⟨Nat.le_of_ble_eq_true rfl, Nat.le_of_ble_eq_true rfl⟩ ⟨rfl, rfl⟩ ⟨Nat.zero_le _, Nat.zero_le _⟩ ?_
        intro r4 σ4 hw
        refine x_iconst (pc := 62) (v := (-1)) X d_T_findSets_62 (by decide) ?_
        refine x_icmp_ne (pc := 63) (tgt := 85) X d_T_findSets_63 (by decide) (fun c => ?_) (fun c => ?_)
        · have hw := hw.1 c
          refine x_iinc (pc := 85) (d := 1) (lv' := [(0, .ref (q 3)), (1, .ref (q 1)), (2, .int x2), (3, .int x3), (4, .int (x4 + 1)), (5, .int r3)]) X d_T_findSets_85 4 rfl (by decide) (by decide) [1, 2, 3, 4, 0, 5] rfl ?_
          refine x_goto (pc := 88) (tgt := 24) X d_T_findSets_88 (by decide) ?_
          refine x_drop [0, 1, 2, 3, 4] rfl ?_
          exact ih x2 x3 (x4 + 1) σ4 hw
        · have hw := hw.2 c
          refine x_iload_n (pc := 66) X d_T_findSets_66 2 rfl ?_
          refine x_bipush (pc := 67) (v := (nI 120)) X d_T_findSets_67 (by decide) ?_
          refine x_icmp_lt (pc := 69) (tgt := 74) X d_T_findSets_69 (by decide) (fun c => ?_) (fun c => ?_)
          · have hw := hw.1 c
            refine x_aload_n (pc := 74) X d_T_findSets_74 0 rfl ?_
            refine x_get (pc := 75) X tb_T 3 5 (by decide) mw_31 (atC_3 _ _ _) rfl d_T_findSets_75 ?_
            refine x_iload_n (pc := 78) X d_T_findSets_78 2 rfl ?_
            refine x_iload (pc := 79) X d_T_findSets_79 5 rfl ?_
            obtain ⟨h5, hw⟩ := hw
            refine x_iast (pc := 81) (ws' := (wC (zI Z) q (ua σ4 2 x2.toNatClampNeg r3))) X 5 (atC_5 _ _ _) h5 (stC_5 _ _ _ _) d_T_findSets_81 ?_
            refine x_iinc (pc := 82) (d := 1) (lv' := [(0, .ref (q 3)), (1, .ref (q 1)), (2, .int (x2 + 1)), (3, .int x3), (4, .int x4), (5, .int r3)]) X d_T_findSets_82 2 rfl (by decide) (by decide) [1, 2, 0, 3, 4, 5] rfl ?_
            refine x_iinc (pc := 85) (d := 1) (lv' := [(0, .ref (q 3)), (1, .ref (q 1)), (2, .int (x2 + 1)), (3, .int x3), (4, .int (x4 + 1)), (5, .int r3)]) X d_T_findSets_85 4 rfl (by decide) (by decide) [1, 2, 3, 4, 0, 5] rfl ?_
            refine x_goto (pc := 88) (tgt := 24) X d_T_findSets_88 (by decide) ?_
            refine x_drop [0, 1, 2, 3, 4] rfl ?_
            exact ih (x2 + 1) x3 (x4 + 1) (ua σ4 2 x2.toNatClampNeg r3) hw
          · have hw := hw.2 c
            refine x_iconst (pc := 72) (v := (-1)) X d_T_findSets_72 (by decide) ?_
            exact hR _ _ _ _ d_T_findSets_73 (vp_nar_int _) hw
set_option maxHeartbeats 4000000 in
set_option maxRecDepth 100000 in
theorem wL_T_findSets_1_16 {Z : ZT} {q : Nat → Nat} {post : Int32 → St → Prop} (X : Cx Z "WayTable$Table" b_T_findSets rm_T_findSets_1 6) (hR : RI Z b_T_findSets .int (wC (zI Z) q) post) : ∀ (n : Nat) (x2 x3 : Int32) (σ : St), L_T_findSets_1_16 post n x2 x3 σ → VV Z 0 0 (wC (zI Z) q σ) [(0, .ref (q 3)), (1, .ref (q 1)), (2, .int x2), (3, .int x3)] 16 [] := by
  intro n
  induction n with
  | zero => intro x2 x3 σ hw; exact False.elim hw
  | succ n ih =>
    intro x2 x3 σ hw
    unfold L_T_findSets_1_16 at hw
    refine x_iload_n (pc := 16) X d_T_findSets_16 3 rfl ?_
    refine x_iload_n (pc := 17) X d_T_findSets_17 2 rfl ?_
    refine x_icmp_ge (pc := 18) (tgt := 97) X d_T_findSets_18 (by decide) (fun c => ?_) (fun c => ?_)
    · have hw := hw.1 c
      refine x_iload_n (pc := 97) X d_T_findSets_97 2 rfl ?_
      exact hR _ _ _ _ d_T_findSets_98 (vp_nar_int _) hw
    · have hw := hw.2 c
      refine x_iconst (pc := 21) (v := 0) X d_T_findSets_21 (by decide) ?_
      refine x_istore (pc := 22) (lv' := [(0, .ref (q 3)), (1, .ref (q 1)), (2, .int x2), (3, .int x3), (4, .int 0)]) X d_T_findSets_22 (by decide) [1, 2, 3, 4, 0] rfl ?_
      obtain ⟨n2, hw⟩ := hw
      exact wL_T_findSets_1_24 X hR ih n2 x2 x3 0 σ hw
set_option maxHeartbeats 4000000 in
set_option maxRecDepth 100000 in
theorem c_T_findSets_1 (l : Launch) (D : va_G) (cI : ClassId) (q : Nat → Nat) (σ : St) (post : Int32 → St → Prop) (hw : wp_T_findSets_1 σ post) : CI l D cI (wC cI q) y_T_findSets b_T_findSets 6 .int rm_T_findSets_1 [.ref (q 3), .ref (q 1)] σ post := by
  refine CI_of (by decide) (Nat.le_of_ble_eq_true rfl) ?_
  intro Z hZl hZD hZI X hR
  subst hZl; subst hZD; subst hZI
  unfold wp_T_findSets_1 at hw
  show VV Z 0 0 (wC (zI Z) q σ) [(0, .ref (q 3)), (1, .ref (q 1))] 0 []
  refine x_aload_n (pc := 0) X d_T_findSets_0 0 rfl ?_
  refine x_get (pc := 1) X tb_T 3 5 (by decide) mw_31 (atC_3 _ _ _) rfl d_T_findSets_1 ?_
  refine x_iconst (pc := 4) (v := 0) X d_T_findSets_4 (by decide) ?_
  refine x_iconst (pc := 5) (v := 1) X d_T_findSets_5 (by decide) ?_
  refine x_aload_n (pc := 6) X d_T_findSets_6 1 rfl ?_
  refine x_getN (pc := 7) X tb_G 1 2 (by decide) nw_32 (atC_1 _ _ _) rfl d_T_findSets_7 ?_
  refine x_ishl (pc := 10) X d_T_findSets_10 ?_
  obtain ⟨h1, hw⟩ := hw
  refine x_iast (pc := 11) (ws' := (wC (zI Z) q (ua σ 2 ((0 : Int32).toNatClampNeg) (1 <<< ((σ.1 3) &&& 31))))) X 5 (atC_5 _ _ _) h1 (stC_5 _ _ _ _) d_T_findSets_11 ?_
  refine x_iconst (pc := 12) (v := 1) X d_T_findSets_12 (by decide) ?_
  refine x_istore_n (pc := 13) (lv' := [(0, .ref (q 3)), (1, .ref (q 1)), (2, .int 1)]) X d_T_findSets_13 (by decide) [1, 2, 0] rfl ?_
  refine x_iconst (pc := 14) (v := 0) X d_T_findSets_14 (by decide) ?_
  refine x_istore_n (pc := 15) (lv' := [(0, .ref (q 3)), (1, .ref (q 1)), (2, .int 1), (3, .int 0)]) X d_T_findSets_15 (by decide) [1, 2, 3, 0] rfl ?_
  obtain ⟨n2, hw⟩ := hw
  exact wL_T_findSets_1_16 X hR n2 1 0 (ua σ 2 ((0 : Int32).toNatClampNeg) (1 <<< ((σ.1 3) &&& 31))) hw
def rm_T_indexOf_4 : Room := { frames := 0, cells := 0, slots := 0, locals := 0 }
set_option maxHeartbeats 4000000 in
set_option maxRecDepth 100000 in
theorem wL_T_indexOf_4_2 {Z : ZT} {q : Nat → Nat} {post : Int32 → St → Prop} (X : Cx Z "WayTable$Table" b_T_indexOf rm_T_indexOf_4 4) (hR : RI Z b_T_indexOf .int (wC (zI Z) q) post) : ∀ (n : Nat) (x1 x2 x3 : Int32) (σ : St), L_T_indexOf_4_2 post n x1 x2 x3 σ → VV Z 0 0 (wC (zI Z) q σ) [(0, .ref (q 4)), (1, .int x1), (2, .int x2), (3, .int x3)] 2 [] := by
  intro n
  induction n with
  | zero => intro x1 x2 x3 σ hw; exact False.elim hw
  | succ n ih =>
    intro x1 x2 x3 σ hw
    unfold L_T_indexOf_4_2 at hw
    refine x_iload_n (pc := 2) X d_T_indexOf_2 3 rfl ?_
    refine x_iload_n (pc := 3) X d_T_indexOf_3 1 rfl ?_
    refine x_icmp_ge (pc := 4) (tgt := 22) X d_T_indexOf_4 (by decide) (fun c => ?_) (fun c => ?_)
    · have hw := hw.1 c
      refine x_iconst (pc := 22) (v := (-1)) X d_T_indexOf_22 (by decide) ?_
      exact hR _ _ _ _ d_T_indexOf_23 (vp_nar_int _) hw
    · have hw := hw.2 c
      refine x_aload_n (pc := 7) X d_T_indexOf_7 0 rfl ?_
      refine x_iload_n (pc := 8) X d_T_indexOf_8 3 rfl ?_
      obtain ⟨h1, hw⟩ := hw
      refine x_iald (pc := 9) X 4 (atC_4 _ _ _) h1 d_T_indexOf_9 ?_
      refine x_iload_n (pc := 10) X d_T_indexOf_10 2 rfl ?_
      refine x_icmp_ne (pc := 11) (tgt := 16) X d_T_indexOf_11 (by decide) (fun c => ?_) (fun c => ?_)
      · have hw := hw.1 c
        refine x_iinc (pc := 16) (d := 1) (lv' := [(0, .ref (q 4)), (1, .int x1), (2, .int x2), (3, .int (x3 + 1))]) X d_T_indexOf_16 3 rfl (by decide) (by decide) [1, 2, 3, 0] rfl ?_
        refine x_goto (pc := 19) (tgt := 2) X d_T_indexOf_19 (by decide) ?_
        exact ih x1 x2 (x3 + 1) σ hw
      · have hw := hw.2 c
        refine x_iload_n (pc := 14) X d_T_indexOf_14 3 rfl ?_
        exact hR _ _ _ _ d_T_indexOf_15 (vp_nar_int _) hw
set_option maxHeartbeats 4000000 in
set_option maxRecDepth 100000 in
theorem c_T_indexOf_4 (l : Launch) (D : va_G) (cI : ClassId) (q : Nat → Nat) (σ : St) (x1 x2 : Int32) (post : Int32 → St → Prop) (hw : wp_T_indexOf_4 x1 x2 σ post) : CI l D cI (wC cI q) y_T_indexOf b_T_indexOf 4 .int rm_T_indexOf_4 [.ref (q 4), .int x1, .int x2] σ post := by
  refine CI_of (by decide) (Nat.le_of_ble_eq_true rfl) ?_
  intro Z hZl hZD hZI X hR
  subst hZl; subst hZD; subst hZI
  unfold wp_T_indexOf_4 at hw
  show VV Z 0 0 (wC (zI Z) q σ) [(0, .ref (q 4)), (1, .int x1), (2, .int x2)] 0 []
  refine x_iconst (pc := 0) (v := 0) X d_T_indexOf_0 (by decide) ?_
  refine x_istore_n (pc := 1) (lv' := [(0, .ref (q 4)), (1, .int x1), (2, .int x2), (3, .int 0)]) X d_T_indexOf_1 (by decide) [1, 2, 3, 0] rfl ?_
  obtain ⟨n2, hw⟩ := hw
  exact wL_T_indexOf_4_2 X hR n2 x1 x2 0 σ hw
def rm_T_laySteps_1 : Room := { frames := 2, cells := 0, slots := 0, locals := 45 }
set_option maxHeartbeats 4000000 in
set_option maxRecDepth 100000 in
theorem wL_T_laySteps_1_12 {Z : ZT} {q : Nat → Nat} {post : St → Prop} {K : Int32 → St → Prop} (X : Cx Z "WayTable$Table" b_T_laySteps rm_T_laySteps_1 5) (hR : RV Z b_T_laySteps (wC (zI Z) q) post) (hK : ∀ (x2 : Int32) (σ : St), K x2 σ → VV Z 0 0 (wC (zI Z) q σ) [(0, .ref (q 3)), (1, .ref (q 1)), (2, .int x2)] 2 []) : ∀ (n : Nat) (x2 x3 : Int32) (σ : St), L_T_laySteps_1_12 post K n x2 x3 σ → VV Z 0 0 (wC (zI Z) q σ) [(0, .ref (q 3)), (1, .ref (q 1)), (2, .int x2), (3, .int x3)] 12 [] := by
  intro n
  induction n with
  | zero => intro x2 x3 σ hw; exact False.elim hw
  | succ n ih =>
    intro x2 x3 σ hw
    unfold L_T_laySteps_1_12 at hw
    refine x_iload_n (pc := 12) X d_T_laySteps_12 3 rfl ?_
    refine x_aload_n (pc := 13) X d_T_laySteps_13 0 rfl ?_
    refine x_get (pc := 14) X tb_T 3 0 (by decide) mw_37 (atC_3 _ _ _) rfl d_T_laySteps_14 ?_
    refine x_icmp_ge (pc := 17) (tgt := 72) X d_T_laySteps_17 (by decide) (fun c => ?_) (fun c => ?_)
    · have hw := hw.1 c
      refine x_iinc (pc := 72) (d := 1) (lv' := [(0, .ref (q 3)), (1, .ref (q 1)), (2, .int (x2 + 1)), (3, .int x3)]) X d_T_laySteps_72 2 rfl (by decide) (by decide) [1, 2, 0, 3] rfl ?_
      refine x_goto (pc := 75) (tgt := 2) X d_T_laySteps_75 (by decide) ?_
      refine x_drop [0, 1, 2] rfl ?_
      exact hK (x2 + 1) σ hw
    · have hw := hw.2 c
      refine x_aload_n (pc := 20) X d_T_laySteps_20 1 rfl ?_
      refine x_aload_n (pc := 21) X d_T_laySteps_21 0 rfl ?_
      refine x_get (pc := 22) X tb_T 3 4 (by decide) mw_39 (atC_3 _ _ _) rfl d_T_laySteps_22 ?_
      refine x_iload_n (pc := 25) X d_T_laySteps_25 2 rfl ?_
      obtain ⟨h1, hw⟩ := hw
      refine x_iald (pc := 26) X 4 (atC_4 _ _ _) h1 d_T_laySteps_26 ?_
      refine x_iload_n (pc := 27) X d_T_laySteps_27 3 rfl ?_
      refine x_cni (pc := 28) X [.int (σ.2 1 x2.toNatClampNeg), .int x3] (c_G_reach (zl Z) (zD Z) (zI Z) q σ (σ.2 1 x2.toNatClampNeg) x3 _ hw) mv_G_reach tb_G 1 (atC_1 _ _ _) nw_34 d_T_laySteps_28 rfl (Nat.le_of_ble_eq_true rfl) ⟨Nat.le_of_ble_eq_true rfl, Nat.le_of_ble_eq_true rfl⟩ ⟨rfl, rfl⟩ ⟨Nat.zero_le _, Nat.zero_le _⟩ ?_
      intro r2 σ2 hw
      refine x_istore (pc := 31) (lv' := [(0, .ref (q 3)), (1, .ref (q 1)), (2, .int x2), (3, .int x3), (4, .int r2)]) X d_T_laySteps_31 (by decide) [1, 2, 3, 4, 0] rfl ?_
      refine x_aload_n (pc := 33) X d_T_laySteps_33 0 rfl ?_
      refine x_get (pc := 34) X tb_T 3 6 (by decide) mw_44 (atC_3 _ _ _) rfl d_T_laySteps_34 ?_
      refine x_iload_n (pc := 37) X d_T_laySteps_37 2 rfl ?_
      refine x_bipush (pc := 38) (v := (nI 40)) X d_T_laySteps_38 (by decide) ?_
      refine x_imul (pc := 40) X d_T_laySteps_40 ?_
      refine x_iload_n (pc := 41) X d_T_laySteps_41 3 rfl ?_
      refine x_iadd (pc := 42) X d_T_laySteps_42 ?_
      refine x_iload (pc := 43) X d_T_laySteps_43 4 rfl ?_
      refine x_if_ne (pc := 45) (tgt := 52) X d_T_laySteps_45 (by decide) (fun c => ?_) (fun c => ?_)
      · have hw := hw.1 c
        refine x_aload_n (pc := 52) X d_T_laySteps_52 0 rfl ?_
        refine x_get (pc := 53) X tb_T 3 4 (by decide) mw_39 (atC_3 _ _ _) rfl d_T_laySteps_53 ?_
        refine x_aload_n (pc := 56) X d_T_laySteps_56 0 rfl ?_
        refine x_get (pc := 57) X tb_T 3 1 (by decide) mw_38 (atC_3 _ _ _) rfl d_T_laySteps_57 ?_
        refine x_iload (pc := 60) X d_T_laySteps_60 4 rfl ?_
        refine x_csi (pc := 62) X [.ref (q 4), .int (σ2.1 5), .int r2] (c_T_indexOf_4 (zl Z) (zD Z) (zI Z) q σ2 (σ2.1 5) r2 _ hw) ms_T_indexOf mw_35 d_T_laySteps_62 rfl (Nat.le_of_ble_eq_true rfl) ⟨Nat.le_of_ble_eq_true rfl, Nat.le_of_ble_eq_true rfl⟩ ⟨rfl, rfl⟩ ⟨Nat.zero_le _, Nat.zero_le _⟩ ?_
        intro r3 σ3 hw
        obtain ⟨h4, hw⟩ := hw
        refine x_iast (pc := 65) (ws' := (wC (zI Z) q (ua σ3 3 ((x2 * (nI 40)) + x3).toNatClampNeg r3))) X 6 (atC_6 _ _ _) h4 (stC_6 _ _ _ _) d_T_laySteps_65 ?_
        refine x_iinc (pc := 66) (d := 1) (lv' := [(0, .ref (q 3)), (1, .ref (q 1)), (2, .int x2), (3, .int (x3 + 1)), (4, .int r2)]) X d_T_laySteps_66 3 rfl (by decide) (by decide) [1, 2, 3, 0, 4] rfl ?_
        refine x_goto (pc := 69) (tgt := 12) X d_T_laySteps_69 (by decide) ?_
        refine x_drop [0, 1, 2, 3] rfl ?_
        exact ih x2 (x3 + 1) (ua σ3 3 ((x2 * (nI 40)) + x3).toNatClampNeg r3) hw
      · have hw := hw.2 c
        refine x_iconst (pc := 48) (v := (-1)) X d_T_laySteps_48 (by decide) ?_
        refine x_goto (pc := 49) (tgt := 65) X d_T_laySteps_49 (by decide) ?_
        obtain ⟨h5, hw⟩ := hw
        refine x_iast (pc := 65) (ws' := (wC (zI Z) q (ua σ2 3 ((x2 * (nI 40)) + x3).toNatClampNeg (-1)))) X 6 (atC_6 _ _ _) h5 (stC_6 _ _ _ _) d_T_laySteps_65 ?_
        refine x_iinc (pc := 66) (d := 1) (lv' := [(0, .ref (q 3)), (1, .ref (q 1)), (2, .int x2), (3, .int (x3 + 1)), (4, .int r2)]) X d_T_laySteps_66 3 rfl (by decide) (by decide) [1, 2, 3, 0, 4] rfl ?_
        refine x_goto (pc := 69) (tgt := 12) X d_T_laySteps_69 (by decide) ?_
        refine x_drop [0, 1, 2, 3] rfl ?_
        exact ih x2 (x3 + 1) (ua σ2 3 ((x2 * (nI 40)) + x3).toNatClampNeg (-1)) hw
set_option maxHeartbeats 4000000 in
set_option maxRecDepth 100000 in
theorem wL_T_laySteps_1_2 {Z : ZT} {q : Nat → Nat} {post : St → Prop} (X : Cx Z "WayTable$Table" b_T_laySteps rm_T_laySteps_1 5) (hR : RV Z b_T_laySteps (wC (zI Z) q) post) : ∀ (n : Nat) (x2 : Int32) (σ : St), L_T_laySteps_1_2 post n x2 σ → VV Z 0 0 (wC (zI Z) q σ) [(0, .ref (q 3)), (1, .ref (q 1)), (2, .int x2)] 2 [] := by
  intro n
  induction n with
  | zero => intro x2 σ hw; exact False.elim hw
  | succ n ih =>
    intro x2 σ hw
    unfold L_T_laySteps_1_2 at hw
    refine x_iload_n (pc := 2) X d_T_laySteps_2 2 rfl ?_
    refine x_aload_n (pc := 3) X d_T_laySteps_3 0 rfl ?_
    refine x_get (pc := 4) X tb_T 3 1 (by decide) mw_38 (atC_3 _ _ _) rfl d_T_laySteps_4 ?_
    refine x_icmp_ge (pc := 7) (tgt := 78) X d_T_laySteps_7 (by decide) (fun c => ?_) (fun c => ?_)
    · have hw := hw.1 c
      exact hR _ _ _ d_T_laySteps_78 hw
    · have hw := hw.2 c
      refine x_iconst (pc := 10) (v := 0) X d_T_laySteps_10 (by decide) ?_
      refine x_istore_n (pc := 11) (lv' := [(0, .ref (q 3)), (1, .ref (q 1)), (2, .int x2), (3, .int 0)]) X d_T_laySteps_11 (by decide) [1, 2, 3, 0] rfl ?_
      obtain ⟨n2, hw⟩ := hw
      exact wL_T_laySteps_1_12 X hR ih n2 x2 0 σ hw
set_option maxHeartbeats 4000000 in
set_option maxRecDepth 100000 in
theorem c_T_laySteps_1 (l : Launch) (D : va_G) (cI : ClassId) (q : Nat → Nat) (σ : St) (post : St → Prop) (hw : wp_T_laySteps_1 σ post) : CV l D cI (wC cI q) y_T_laySteps b_T_laySteps 5 rm_T_laySteps_1 [.ref (q 3), .ref (q 1)] σ post := by
  refine CV_of (by decide) (Nat.le_of_ble_eq_true rfl) ?_
  intro Z hZl hZD hZI X hR
  subst hZl; subst hZD; subst hZI
  unfold wp_T_laySteps_1 at hw
  show VV Z 0 0 (wC (zI Z) q σ) [(0, .ref (q 3)), (1, .ref (q 1))] 0 []
  refine x_iconst (pc := 0) (v := 0) X d_T_laySteps_0 (by decide) ?_
  refine x_istore_n (pc := 1) (lv' := [(0, .ref (q 3)), (1, .ref (q 1)), (2, .int 0)]) X d_T_laySteps_1 (by decide) [1, 2, 0] rfl ?_
  obtain ⟨n2, hw⟩ := hw
  exact wL_T_laySteps_1_2 X hR n2 0 σ hw
def rm_A_rangeCheck3 : Room := { frames := 0, cells := 0, slots := 0, locals := 0 }
set_option maxHeartbeats 4000000 in
set_option maxRecDepth 100000 in
theorem c_A_rangeCheck3 (l : Launch) (D : va_G) (cI : ClassId) (q : Nat → Nat) (σ : St) (x0 x1 x2 : Int32) (post : St → Prop) (hw : wp_A_rangeCheck3 x0 x1 x2 σ post) : CV l D cI (wC cI q) y_A_rangeCheck3 b_A_rangeCheck3 3 rm_A_rangeCheck3 [.int x0, .int x1, .int x2] σ post := by
  refine CV_of (by decide) (Nat.le_of_ble_eq_true rfl) ?_
  intro Z hZl hZD hZI X hR
  subst hZl; subst hZD; subst hZI
  unfold wp_A_rangeCheck3 at hw
  show VV Z 0 0 (wC (zI Z) q σ) [(0, .int x0), (1, .int x1), (2, .int x2)] 0 []
  refine x_iload_n (pc := 0) X d_A_rangeCheck3_0 1 rfl ?_
  refine x_iload_n (pc := 1) X d_A_rangeCheck3_1 2 rfl ?_
  refine x_icmp_le (pc := 2) (tgt := 46) X d_A_rangeCheck3_2 (by decide) (fun c => ?_) (fun c => ?_)
  · have hw := hw.1 c
    refine x_iload_n (pc := 46) X d_A_rangeCheck3_46 1 rfl ?_
    refine x_if_ge (pc := 47) (tgt := 59) X d_A_rangeCheck3_47 (by decide) (fun c => ?_) (fun c => ?_)
    · have hw := hw.1 c
      refine x_iload_n (pc := 59) X d_A_rangeCheck3_59 2 rfl ?_
      refine x_iload_n (pc := 60) X d_A_rangeCheck3_60 0 rfl ?_
      refine x_icmp_le (pc := 61) (tgt := 73) X d_A_rangeCheck3_61 (by decide) (fun c => ?_) (fun c => ?_)
      · have hw := hw.1 c
        exact hR _ _ _ d_A_rangeCheck3_73 hw
      · have hw := hw.2 c
        exact False.elim hw
    · have hw := hw.2 c
      exact False.elim hw
  · have hw := hw.2 c
    exact False.elim hw
def rm_A_fill4_7 : Room := { frames := 1, cells := 0, slots := 0, locals := 22 }
set_option maxHeartbeats 4000000 in
set_option maxRecDepth 100000 in
theorem wL_A_fill4_7_10 {Z : ZT} {q : Nat → Nat} {post : St → Prop} (X : Cx Z "java/util/Arrays" b_A_fill4 rm_A_fill4_7 5) (hR : RV Z b_A_fill4 (wC (zI Z) q) post) : ∀ (n : Nat) (x1 x2 x3 x4 : Int32) (σ : St), L_A_fill4_7_10 post n x1 x2 x3 x4 σ → VV Z 0 0 (wC (zI Z) q σ) [(0, .ref (q 7)), (1, .int x1), (2, .int x2), (3, .int x3), (4, .int x4)] 10 [] := by
  intro n
  induction n with
  | zero => intro x1 x2 x3 x4 σ hw; exact False.elim hw
  | succ n ih =>
    intro x1 x2 x3 x4 σ hw
    unfold L_A_fill4_7_10 at hw
    refine x_iload (pc := 10) X d_A_fill4_10 4 rfl ?_
    refine x_iload_n (pc := 12) X d_A_fill4_12 2 rfl ?_
    refine x_icmp_ge (pc := 13) (tgt := 27) X d_A_fill4_13 (by decide) (fun c => ?_) (fun c => ?_)
    · have hw := hw.1 c
      exact hR _ _ _ d_A_fill4_27 hw
    · have hw := hw.2 c
      refine x_aload_n (pc := 16) X d_A_fill4_16 0 rfl ?_
      refine x_iload (pc := 17) X d_A_fill4_17 4 rfl ?_
      refine x_iload_n (pc := 19) X d_A_fill4_19 3 rfl ?_
      obtain ⟨h2, hw⟩ := hw
      refine x_iast (pc := 20) (ws' := (wC (zI Z) q (ua σ 4 x4.toNatClampNeg x3))) X 7 (atC_7 _ _ _) h2 (stC_7 _ _ _ _) d_A_fill4_20 ?_
      refine x_iinc (pc := 21) (d := 1) (lv' := [(0, .ref (q 7)), (1, .int x1), (2, .int x2), (3, .int x3), (4, .int (x4 + 1))]) X d_A_fill4_21 4 rfl (by decide) (by decide) [1, 2, 3, 4, 0] rfl ?_
      refine x_goto (pc := 24) (tgt := 10) X d_A_fill4_24 (by decide) ?_
      exact ih x1 x2 x3 (x4 + 1) (ua σ 4 x4.toNatClampNeg x3) hw
set_option maxHeartbeats 4000000 in
set_option maxRecDepth 100000 in
theorem c_A_fill4_7 (l : Launch) (D : va_G) (cI : ClassId) (q : Nat → Nat) (σ : St) (x1 x2 x3 : Int32) (post : St → Prop) (hw : wp_A_fill4_7 x1 x2 x3 σ post) : CV l D cI (wC cI q) y_A_fill4 b_A_fill4 5 rm_A_fill4_7 [.ref (q 7), .int x1, .int x2, .int x3] σ post := by
  refine CV_of (by decide) (Nat.le_of_ble_eq_true rfl) ?_
  intro Z hZl hZD hZI X hR
  subst hZl; subst hZD; subst hZI
  unfold wp_A_fill4_7 at hw
  show VV Z 0 0 (wC (zI Z) q σ) [(0, .ref (q 7)), (1, .int x1), (2, .int x2), (3, .int x3)] 0 []
  refine x_aload_n (pc := 0) X d_A_fill4_0 0 rfl ?_
  refine x_alen (pc := 1) X 7 (atC_7 _ _ _) d_A_fill4_1 ?_
  refine x_iload_n (pc := 2) X d_A_fill4_2 1 rfl ?_
  refine x_iload_n (pc := 3) X d_A_fill4_3 2 rfl ?_
  refine x_csv (pc := 4) X [.int (nI 120), .int x1, .int x2] (c_A_rangeCheck3 (zl Z) (zD Z) (zI Z) q σ (nI 120) x1 x2 _ hw) ms_A_rangeCheck3 mw_47 d_A_fill4_4 rfl (Nat.le_of_ble_eq_true rfl) ⟨Nat.le_of_ble_eq_true rfl, Nat.le_of_ble_eq_true rfl⟩ ⟨rfl, rfl⟩ ⟨Nat.zero_le _, Nat.zero_le _⟩ ?_
  intro σ1 hw
  refine x_iload_n (pc := 7) X d_A_fill4_7 1 rfl ?_
  refine x_istore (pc := 8) (lv' := [(0, .ref (q 7)), (1, .int x1), (2, .int x2), (3, .int x3), (4, .int x1)]) X d_A_fill4_8 (by decide) [1, 2, 3, 4, 0] rfl ?_
  obtain ⟨n2, hw⟩ := hw
  exact wL_A_fill4_7_10 X hR n2 x1 x2 x3 x1 σ1 hw
def rm_T_leaderAfter_8 : Room := { frames := 0, cells := 0, slots := 0, locals := 0 }
set_option maxHeartbeats 4000000 in
set_option maxRecDepth 100000 in
theorem c_T_leaderAfter_8 (l : Launch) (D : va_G) (cI : ClassId) (q : Nat → Nat) (σ : St) (x2 x3 : Int32) (post : Int32 → St → Prop) (hw : wp_T_leaderAfter_8 x2 x3 σ post) : CI l D cI (wC cI q) y_T_leaderAfter b_T_leaderAfter 5 .int rm_T_leaderAfter_8 [.ref (q 3), .ref (q 8), .int x2, .int x3] σ post := by
  refine CI_of (by decide) (Nat.le_of_ble_eq_true rfl) ?_
  intro Z hZl hZD hZI X hR
  subst hZl; subst hZD; subst hZI
  unfold wp_T_leaderAfter_8 at hw
  show VV Z 0 0 (wC (zI Z) q σ) [(0, .ref (q 3)), (1, .ref (q 8)), (2, .int x2), (3, .int x3)] 0 []
  refine x_aload_n (pc := 0) X d_T_leaderAfter_0 0 rfl ?_
  refine x_get (pc := 1) X tb_T 3 6 (by decide) mw_44 (atC_3 _ _ _) rfl d_T_leaderAfter_1 ?_
  refine x_iload_n (pc := 4) X d_T_leaderAfter_4 2 rfl ?_
  refine x_bipush (pc := 5) (v := (nI 40)) X d_T_leaderAfter_5 (by decide) ?_
  refine x_imul (pc := 7) X d_T_leaderAfter_7 ?_
  refine x_iload_n (pc := 8) X d_T_leaderAfter_8 3 rfl ?_
  refine x_iadd (pc := 9) X d_T_leaderAfter_9 ?_
  obtain ⟨h1, hw⟩ := hw
  refine x_iald (pc := 10) X 6 (atC_6 _ _ _) h1 d_T_leaderAfter_10 ?_
  refine x_istore (pc := 11) (lv' := [(0, .ref (q 3)), (1, .ref (q 8)), (2, .int x2), (3, .int x3), (4, .int (σ.2 3 ((x2 * (nI 40)) + x3).toNatClampNeg))]) X d_T_leaderAfter_11 (by decide) [1, 2, 3, 4, 0] rfl ?_
  refine x_iload (pc := 13) X d_T_leaderAfter_13 4 rfl ?_
  refine x_iconst (pc := 15) (v := (-1)) X d_T_leaderAfter_15 (by decide) ?_
  refine x_icmp_ne (pc := 16) (tgt := 23) X d_T_leaderAfter_16 (by decide) (fun c => ?_) (fun c => ?_)
  · have hw := hw.1 c
    refine x_aload_n (pc := 23) X d_T_leaderAfter_23 1 rfl ?_
    refine x_iload (pc := 24) X d_T_leaderAfter_24 4 rfl ?_
    obtain ⟨h2, hw⟩ := hw
    refine x_iald (pc := 26) X 8 (atC_8 _ _ _) h2 d_T_leaderAfter_26 ?_
    exact hR _ _ _ _ d_T_leaderAfter_27 (vp_nar_int _) hw
  · have hw := hw.2 c
    refine x_iconst (pc := 19) (v := (-1)) X d_T_leaderAfter_19 (by decide) ?_
    refine x_goto (pc := 20) (tgt := 27) X d_T_leaderAfter_20 (by decide) ?_
    exact hR _ _ _ _ d_T_leaderAfter_27 (vp_nar_int _) hw
def rm_T_goAlike : Room := { frames := 1, cells := 0, slots := 0, locals := 24 }
set_option maxHeartbeats 4000000 in
set_option maxRecDepth 100000 in
theorem wL_T_goAlike_2 {Z : ZT} {q : Nat → Nat} {post : Int32 → St → Prop} (X : Cx Z "WayTable$Table" b_T_goAlike rm_T_goAlike 4) (hR : RI Z b_T_goAlike .boolean (wC (zI Z) q) post) : ∀ (n : Nat) (x1 x2 x3 : Int32) (σ : St), L_T_goAlike_2 post n x1 x2 x3 σ → VV Z 0 0 (wC (zI Z) q σ) [(0, .ref (q 3)), (1, .int x1), (2, .int x2), (3, .int x3)] 2 [] := by
  intro n
  induction n with
  | zero => intro x1 x2 x3 σ hw; exact False.elim hw
  | succ n ih =>
    intro x1 x2 x3 σ hw
    unfold L_T_goAlike_2 at hw
    refine x_iload_n (pc := 2) X d_T_goAlike_2 3 rfl ?_
    refine x_aload_n (pc := 3) X d_T_goAlike_3 0 rfl ?_
    refine x_get (pc := 4) X tb_T 3 0 (by decide) mw_37 (atC_3 _ _ _) rfl d_T_goAlike_4 ?_
    refine x_icmp_ge (pc := 7) (tgt := 41) X d_T_goAlike_7 (by decide) (fun c => ?_) (fun c => ?_)
    · have hw := hw.1 c
      refine x_iconst (pc := 41) (v := 1) X d_T_goAlike_41 (by decide) ?_
      exact hR _ _ _ _ d_T_goAlike_42 rfl hw
    · have hw := hw.2 c
      refine x_aload_n (pc := 10) X d_T_goAlike_10 0 rfl ?_
      refine x_aload_n (pc := 11) X d_T_goAlike_11 0 rfl ?_
      refine x_get (pc := 12) X tb_T 3 8 (by decide) mw_50 (atC_3 _ _ _) rfl d_T_goAlike_12 ?_
      refine x_iload_n (pc := 15) X d_T_goAlike_15 1 rfl ?_
      refine x_iload_n (pc := 16) X d_T_goAlike_16 3 rfl ?_
      refine x_cvi (pc := 17) X [.ref (q 8), .int x1, .int x3] (c_T_leaderAfter_8 (zl Z) (zD Z) (zI Z) q σ x1 x3 _ hw) mv_T_leaderAfter tb_T 3 (atC_3 _ _ _) mw_51 d_T_goAlike_17 rfl (Nat.le_of_ble_eq_true rfl) ⟨Nat.le_of_ble_eq_true rfl, Nat.le_of_ble_eq_true rfl⟩ ⟨rfl, rfl⟩ ⟨Nat.zero_le _, Nat.zero_le _⟩ ?_
      intro r1 σ1 hw
      refine x_aload_n (pc := 20) X d_T_goAlike_20 0 rfl ?_
      refine x_aload_n (pc := 21) X d_T_goAlike_21 0 rfl ?_
      refine x_get (pc := 22) X tb_T 3 8 (by decide) mw_50 (atC_3 _ _ _) rfl d_T_goAlike_22 ?_
      refine x_iload_n (pc := 25) X d_T_goAlike_25 2 rfl ?_
      refine x_iload_n (pc := 26) X d_T_goAlike_26 3 rfl ?_
      refine x_cvi (pc := 27) X [.ref (q 8), .int x2, .int x3] (c_T_leaderAfter_8 (zl Z) (zD Z) (zI Z) q σ1 x2 x3 _ hw) mv_T_leaderAfter tb_T 3 (atC_3 _ _ _) mw_51 d_T_goAlike_27 rfl (Nat.le_of_ble_eq_true rfl) ⟨Nat.le_of_ble_eq_true rfl, Nat.le_of_ble_eq_true rfl⟩ ⟨rfl, rfl⟩ ⟨Nat.zero_le _, Nat.zero_le _⟩ ?_
      intro r2 σ2 hw
      refine x_icmp_eq (pc := 30) (tgt := 35) X d_T_goAlike_30 (by decide) (fun c => ?_) (fun c => ?_)
      · have hw := hw.1 c
        refine x_iinc (pc := 35) (d := 1) (lv' := [(0, .ref (q 3)), (1, .int x1), (2, .int x2), (3, .int (x3 + 1))]) X d_T_goAlike_35 3 rfl (by decide) (by decide) [1, 2, 3, 0] rfl ?_
        refine x_goto (pc := 38) (tgt := 2) X d_T_goAlike_38 (by decide) ?_
        exact ih x1 x2 (x3 + 1) σ2 hw
      · have hw := hw.2 c
        refine x_iconst (pc := 33) (v := 0) X d_T_goAlike_33 (by decide) ?_
        exact hR _ _ _ _ d_T_goAlike_34 rfl hw
set_option maxHeartbeats 4000000 in
set_option maxRecDepth 100000 in
theorem c_T_goAlike (l : Launch) (D : va_G) (cI : ClassId) (q : Nat → Nat) (σ : St) (x1 x2 : Int32) (post : Int32 → St → Prop) (hw : wp_T_goAlike x1 x2 σ post) : CI l D cI (wC cI q) y_T_goAlike b_T_goAlike 4 .boolean rm_T_goAlike [.ref (q 3), .int x1, .int x2] σ post := by
  refine CI_of (by decide) (Nat.le_of_ble_eq_true rfl) ?_
  intro Z hZl hZD hZI X hR
  subst hZl; subst hZD; subst hZI
  unfold wp_T_goAlike at hw
  show VV Z 0 0 (wC (zI Z) q σ) [(0, .ref (q 3)), (1, .int x1), (2, .int x2)] 0 []
  refine x_iconst (pc := 0) (v := 0) X d_T_goAlike_0 (by decide) ?_
  refine x_istore_n (pc := 1) (lv' := [(0, .ref (q 3)), (1, .int x1), (2, .int x2), (3, .int 0)]) X d_T_goAlike_1 (by decide) [1, 2, 3, 0] rfl ?_
  obtain ⟨n2, hw⟩ := hw
  exact wL_T_goAlike_2 X hR n2 x1 x2 0 σ hw
def rm_T_findLeader : Room := { frames := 2, cells := 0, slots := 0, locals := 47 }
set_option maxHeartbeats 4000000 in
set_option maxRecDepth 100000 in
theorem wL_T_findLeader_9 {Z : ZT} {q : Nat → Nat} {post : Int32 → St → Prop} (X : Cx Z "WayTable$Table" b_T_findLeader rm_T_findLeader 4) (hR : RI Z b_T_findLeader .int (wC (zI Z) q) post) : ∀ (n : Nat) (x1 x2 x3 : Int32) (σ : St), L_T_findLeader_9 post n x1 x2 x3 σ → VV Z 0 0 (wC (zI Z) q σ) [(0, .ref (q 3)), (1, .int x1), (2, .int x2), (3, .int x3)] 9 [] := by
  intro n
  induction n with
  | zero => intro x1 x2 x3 σ hw; exact False.elim hw
  | succ n ih =>
    intro x1 x2 x3 σ hw
    unfold L_T_findLeader_9 at hw
    refine x_iload_n (pc := 9) X d_T_findLeader_9 3 rfl ?_
    refine x_iload_n (pc := 10) X d_T_findLeader_10 1 rfl ?_
    refine x_icmp_ge (pc := 11) (tgt := 51) X d_T_findLeader_11 (by decide) (fun c => ?_) (fun c => ?_)
    · have hw := hw.1 c
      refine x_iload_n (pc := 51) X d_T_findLeader_51 1 rfl ?_
      exact hR _ _ _ _ d_T_findLeader_52 (vp_nar_int _) hw
    · have hw := hw.2 c
      refine x_aload_n (pc := 14) X d_T_findLeader_14 0 rfl ?_
      refine x_get (pc := 15) X tb_T 3 7 (by decide) mw_46 (atC_3 _ _ _) rfl d_T_findLeader_15 ?_
      refine x_iload_n (pc := 18) X d_T_findLeader_18 3 rfl ?_
      obtain ⟨h2, hw⟩ := hw
      refine x_iald (pc := 19) X 7 (atC_7 _ _ _) h2 d_T_findLeader_19 ?_
      refine x_iload_n (pc := 20) X d_T_findLeader_20 3 rfl ?_
      refine x_icmp_ne (pc := 21) (tgt := 45) X d_T_findLeader_21 (by decide) (fun c => ?_) (fun c => ?_)
      · have hw := hw.1 c
        refine x_iinc (pc := 45) (d := 1) (lv' := [(0, .ref (q 3)), (1, .int x1), (2, .int x2), (3, .int (x3 + 1))]) X d_T_findLeader_45 3 rfl (by decide) (by decide) [1, 2, 3, 0] rfl ?_
        refine x_goto (pc := 48) (tgt := 9) X d_T_findLeader_48 (by decide) ?_
        exact ih x1 x2 (x3 + 1) σ hw
      · have hw := hw.2 c
        refine x_aload_n (pc := 24) X d_T_findLeader_24 0 rfl ?_
        refine x_get (pc := 25) X tb_T 3 8 (by decide) mw_50 (atC_3 _ _ _) rfl d_T_findLeader_25 ?_
        refine x_iload_n (pc := 28) X d_T_findLeader_28 3 rfl ?_
        obtain ⟨h3, hw⟩ := hw
        refine x_iald (pc := 29) X 8 (atC_8 _ _ _) h3 d_T_findLeader_29 ?_
        refine x_iload_n (pc := 30) X d_T_findLeader_30 2 rfl ?_
        refine x_icmp_ne (pc := 31) (tgt := 45) X d_T_findLeader_31 (by decide) (fun c => ?_) (fun c => ?_)
        · have hw := hw.1 c
          refine x_iinc (pc := 45) (d := 1) (lv' := [(0, .ref (q 3)), (1, .int x1), (2, .int x2), (3, .int (x3 + 1))]) X d_T_findLeader_45 3 rfl (by decide) (by decide) [1, 2, 3, 0] rfl ?_
          refine x_goto (pc := 48) (tgt := 9) X d_T_findLeader_48 (by decide) ?_
          exact ih x1 x2 (x3 + 1) σ hw
        · have hw := hw.2 c
          refine x_aload_n (pc := 34) X d_T_findLeader_34 0 rfl ?_
          refine x_iload_n (pc := 35) X d_T_findLeader_35 3 rfl ?_
          refine x_iload_n (pc := 36) X d_T_findLeader_36 1 rfl ?_
          refine x_cvi (pc := 37) X [.int x3, .int x1] (c_T_goAlike (zl Z) (zD Z) (zI Z) q σ x3 x1 _ hw) mv_T_goAlike tb_T 3 (atC_3 _ _ _) mw_52 d_T_findLeader_37 rfl (Nat.le_of_ble_eq_true rfl) ⟨Nat.le_of_ble_eq_true rfl, Nat.le_of_ble_eq_true rfl⟩ ⟨rfl, rfl⟩ ⟨Nat.zero_le _, Nat.zero_le _⟩ ?_
          intro r4 σ4 hw
          refine x_if_eq (pc := 40) (tgt := 45) X d_T_findLeader_40 (by decide) (fun c => ?_) (fun c => ?_)
          · have hw := hw.1 c
            refine x_iinc (pc := 45) (d := 1) (lv' := [(0, .ref (q 3)), (1, .int x1), (2, .int x2), (3, .int (x3 + 1))]) X d_T_findLeader_45 3 rfl (by decide) (by decide) [1, 2, 3, 0] rfl ?_
            refine x_goto (pc := 48) (tgt := 9) X d_T_findLeader_48 (by decide) ?_
            exact ih x1 x2 (x3 + 1) σ4 hw
          · have hw := hw.2 c
            refine x_iload_n (pc := 43) X d_T_findLeader_43 3 rfl ?_
            exact hR _ _ _ _ d_T_findLeader_44 (vp_nar_int _) hw
set_option maxHeartbeats 4000000 in
set_option maxRecDepth 100000 in
theorem c_T_findLeader (l : Launch) (D : va_G) (cI : ClassId) (q : Nat → Nat) (σ : St) (x1 : Int32) (post : Int32 → St → Prop) (hw : wp_T_findLeader x1 σ post) : CI l D cI (wC cI q) y_T_findLeader b_T_findLeader 4 .int rm_T_findLeader [.ref (q 3), .int x1] σ post := by
  refine CI_of (by decide) (Nat.le_of_ble_eq_true rfl) ?_
  intro Z hZl hZD hZI X hR
  subst hZl; subst hZD; subst hZI
  unfold wp_T_findLeader at hw
  show VV Z 0 0 (wC (zI Z) q σ) [(0, .ref (q 3)), (1, .int x1)] 0 []
  refine x_aload_n (pc := 0) X d_T_findLeader_0 0 rfl ?_
  refine x_get (pc := 1) X tb_T 3 8 (by decide) mw_50 (atC_3 _ _ _) rfl d_T_findLeader_1 ?_
  refine x_iload_n (pc := 4) X d_T_findLeader_4 1 rfl ?_
  obtain ⟨h1, hw⟩ := hw
  refine x_iald (pc := 5) X 8 (atC_8 _ _ _) h1 d_T_findLeader_5 ?_
  refine x_istore_n (pc := 6) (lv' := [(0, .ref (q 3)), (1, .int x1), (2, .int (σ.2 5 x1.toNatClampNeg))]) X d_T_findLeader_6 (by decide) [1, 2, 0] rfl ?_
  refine x_iload_n (pc := 7) X d_T_findLeader_7 2 rfl ?_
  refine x_istore_n (pc := 8) (lv' := [(0, .ref (q 3)), (1, .int x1), (2, .int (σ.2 5 x1.toNatClampNeg)), (3, .int (σ.2 5 x1.toNatClampNeg))]) X d_T_findLeader_8 (by decide) [1, 2, 3, 0] rfl ?_
  obtain ⟨n2, hw⟩ := hw
  exact wL_T_findLeader_9 X hR n2 x1 (σ.2 5 x1.toNatClampNeg) (σ.2 5 x1.toNatClampNeg) σ hw
def rm_T_pair : Room := { frames := 1, cells := 0, slots := 0, locals := 21 }
set_option maxHeartbeats 4000000 in
set_option maxRecDepth 100000 in
theorem c_T_pair (l : Launch) (D : va_G) (cI : ClassId) (q : Nat → Nat) (σ : St) (x0 x1 : Int32) (post : Int32 → St → Prop) (hw : wp_T_pair x0 x1 σ post) : CI l D cI (wC cI q) y_T_pair b_T_pair 3 .int rm_T_pair [.int x0, .int x1] σ post := by
  refine CI_of (by decide) (Nat.le_of_ble_eq_true rfl) ?_
  intro Z hZl hZD hZI X hR
  subst hZl; subst hZD; subst hZI
  unfold wp_T_pair at hw
  show VV Z 0 0 (wC (zI Z) q σ) [(0, .int x0), (1, .int x1)] 0 []
  refine x_iload_n (pc := 0) X d_T_pair_0 0 rfl ?_
  refine x_iload_n (pc := 1) X d_T_pair_1 1 rfl ?_
  refine x_mmax (pc := 2) X mw_55 mw_56 mw_57 mw_58 (Nat.le_of_ble_eq_true rfl) (Nat.le_of_ble_eq_true rfl) (Nat.zero_le _) (Nat.zero_le _) d_T_pair_2 ?_
  refine x_istore_n (pc := 5) (lv' := [(0, .int x0), (1, .int x1), (2, .int (if x0 < x1 then x1 else x0))]) X d_T_pair_5 (by decide) [1, 2, 0] rfl ?_
  refine x_iload_n (pc := 6) X d_T_pair_6 2 rfl ?_
  refine x_iload_n (pc := 7) X d_T_pair_7 2 rfl ?_
  refine x_iconst (pc := 8) (v := 1) X d_T_pair_8 (by decide) ?_
  refine x_isub (pc := 9) X d_T_pair_9 ?_
  refine x_imul (pc := 10) X d_T_pair_10 ?_
  refine x_iconst (pc := 11) (v := (nI 2)) X d_T_pair_11 (by decide) ?_
  refine x_idiv (pc := 12) X d_T_pair_12 (by decide) ?_
  refine x_iload_n (pc := 13) X d_T_pair_13 0 rfl ?_
  refine x_iload_n (pc := 14) X d_T_pair_14 1 rfl ?_
  refine x_mmin (pc := 15) X mw_59 mw_60 mw_57 mw_61 (Nat.le_of_ble_eq_true rfl) (Nat.le_of_ble_eq_true rfl) (Nat.zero_le _) (Nat.zero_le _) d_T_pair_15 ?_
  refine x_iadd (pc := 18) X d_T_pair_18 ?_
  exact hR _ _ _ _ d_T_pair_19 (vp_nar_int _) hw
def rm_T_measure : Room := { frames := 2, cells := 0, slots := 0, locals := 43 }
set_option maxHeartbeats 4000000 in
set_option maxRecDepth 100000 in
theorem wL_T_measure_10 {Z : ZT} {q : Nat → Nat} {post : St → Prop} (X : Cx Z "WayTable$Table" b_T_measure rm_T_measure 5) (hR : RV Z b_T_measure (wC (zI Z) q) post) : ∀ (n : Nat) (x1 x2 x3 x4 : Int32) (σ : St), L_T_measure_10 post n x1 x2 x3 x4 σ → VV Z 0 0 (wC (zI Z) q σ) [(0, .ref (q 3)), (1, .int x1), (2, .int x2), (3, .int x3), (4, .int x4)] 10 [] := by
  intro n
  induction n with
  | zero => intro x1 x2 x3 x4 σ hw; exact False.elim hw
  | succ n ih =>
    intro x1 x2 x3 x4 σ hw
    unfold L_T_measure_10 at hw
    refine x_iload (pc := 10) X d_T_measure_10 4 rfl ?_
    refine x_aload_n (pc := 12) X d_T_measure_12 0 rfl ?_
    refine x_get (pc := 13) X tb_T 3 1 (by decide) mw_38 (atC_3 _ _ _) rfl d_T_measure_13 ?_
    refine x_icmp_ge (pc := 16) (tgt := 75) X d_T_measure_16 (by decide) (fun c => ?_) (fun c => ?_)
    · have hw := hw.1 c
      exact hR _ _ _ d_T_measure_75 hw
    · have hw := hw.2 c
      refine x_aload_n (pc := 19) X d_T_measure_19 0 rfl ?_
      refine x_get (pc := 20) X tb_T 3 7 (by decide) mw_46 (atC_3 _ _ _) rfl d_T_measure_20 ?_
      refine x_iload (pc := 23) X d_T_measure_23 4 rfl ?_
      obtain ⟨h2, hw⟩ := hw
      refine x_iald (pc := 25) X 7 (atC_7 _ _ _) h2 d_T_measure_25 ?_
      refine x_iload (pc := 26) X d_T_measure_26 4 rfl ?_
      refine x_icmp_ne (pc := 28) (tgt := 69) X d_T_measure_28 (by decide) (fun c => ?_) (fun c => ?_)
      · have hw := hw.1 c
        refine x_iinc (pc := 69) (d := 1) (lv' := [(0, .ref (q 3)), (1, .int x1), (2, .int x2), (3, .int x3), (4, .int (x4 + 1))]) X d_T_measure_69 4 rfl (by decide) (by decide) [1, 2, 3, 4, 0] rfl ?_
        refine x_goto (pc := 72) (tgt := 10) X d_T_measure_72 (by decide) ?_
        exact ih x1 x2 x3 (x4 + 1) σ hw
      · have hw := hw.2 c
        refine x_iload (pc := 31) X d_T_measure_31 4 rfl ?_
        refine x_iload_n (pc := 33) X d_T_measure_33 1 rfl ?_
        refine x_icmp_eq (pc := 34) (tgt := 69) X d_T_measure_34 (by decide) (fun c => ?_) (fun c => ?_)
        · have hw := hw.1 c
          refine x_iinc (pc := 69) (d := 1) (lv' := [(0, .ref (q 3)), (1, .int x1), (2, .int x2), (3, .int x3), (4, .int (x4 + 1))]) X d_T_measure_69 4 rfl (by decide) (by decide) [1, 2, 3, 4, 0] rfl ?_
          refine x_goto (pc := 72) (tgt := 10) X d_T_measure_72 (by decide) ?_
          exact ih x1 x2 x3 (x4 + 1) σ hw
        · have hw := hw.2 c
          refine x_aload_n (pc := 37) X d_T_measure_37 0 rfl ?_
          refine x_get (pc := 38) X tb_T 3 11 (by decide) mw_54 (atC_3 _ _ _) rfl d_T_measure_38 ?_
          refine x_iload (pc := 41) X d_T_measure_41 4 rfl ?_
          refine x_iload_n (pc := 43) X d_T_measure_43 1 rfl ?_
          refine x_csi (pc := 44) X [.int x4, .int x1] (c_T_pair (zl Z) (zD Z) (zI Z) q σ x4 x1 _ hw) ms_T_pair mw_62 d_T_measure_44 rfl (Nat.le_of_ble_eq_true rfl) ⟨Nat.le_of_ble_eq_true rfl, Nat.le_of_ble_eq_true rfl⟩ ⟨rfl, rfl⟩ ⟨Nat.zero_le _, Nat.zero_le _⟩ ?_
          intro r3 σ3 hw
          refine x_iload (pc := 47) X d_T_measure_47 4 rfl ?_
          refine x_iload_n (pc := 49) X d_T_measure_49 3 rfl ?_
          refine x_icmp_ne (pc := 50) (tgt := 57) X d_T_measure_50 (by decide) (fun c => ?_) (fun c => ?_)
          · have hw := hw.1 c
            refine x_aload_n (pc := 57) X d_T_measure_57 0 rfl ?_
            refine x_get (pc := 58) X tb_T 3 11 (by decide) mw_54 (atC_3 _ _ _) rfl d_T_measure_58 ?_
            refine x_iload (pc := 61) X d_T_measure_61 4 rfl ?_
            refine x_iload_n (pc := 63) X d_T_measure_63 3 rfl ?_
            refine x_csi (pc := 64) X [.int x4, .int x3] (c_T_pair (zl Z) (zD Z) (zI Z) q σ3 x4 x3 _ hw) ms_T_pair mw_62 d_T_measure_64 rfl (Nat.le_of_ble_eq_true rfl) ⟨Nat.le_of_ble_eq_true rfl, Nat.le_of_ble_eq_true rfl⟩ ⟨rfl, rfl⟩ ⟨Nat.zero_le _, Nat.zero_le _⟩ ?_
            intro r4 σ4 hw
            obtain ⟨h5, hw⟩ := hw
            refine x_iald (pc := 67) X 11 (atC_11 _ _ _) h5 d_T_measure_67 ?_
            obtain ⟨h6, hw⟩ := hw
            refine x_iast (pc := 68) (ws' := (wC (zI Z) q (ua σ4 8 r3.toNatClampNeg (σ4.2 8 r4.toNatClampNeg)))) X 11 (atC_11 _ _ _) h6 (stC_11 _ _ _ _) d_T_measure_68 ?_
            refine x_iinc (pc := 69) (d := 1) (lv' := [(0, .ref (q 3)), (1, .int x1), (2, .int x2), (3, .int x3), (4, .int (x4 + 1))]) X d_T_measure_69 4 rfl (by decide) (by decide) [1, 2, 3, 4, 0] rfl ?_
            refine x_goto (pc := 72) (tgt := 10) X d_T_measure_72 (by decide) ?_
            exact ih x1 x2 x3 (x4 + 1) (ua σ4 8 r3.toNatClampNeg (σ4.2 8 r4.toNatClampNeg)) hw
          · have hw := hw.2 c
            refine x_iload_n (pc := 53) X d_T_measure_53 2 rfl ?_
            refine x_goto (pc := 54) (tgt := 68) X d_T_measure_54 (by decide) ?_
            obtain ⟨h7, hw⟩ := hw
            refine x_iast (pc := 68) (ws' := (wC (zI Z) q (ua σ3 8 r3.toNatClampNeg x2))) X 11 (atC_11 _ _ _) h7 (stC_11 _ _ _ _) d_T_measure_68 ?_
            refine x_iinc (pc := 69) (d := 1) (lv' := [(0, .ref (q 3)), (1, .int x1), (2, .int x2), (3, .int x3), (4, .int (x4 + 1))]) X d_T_measure_69 4 rfl (by decide) (by decide) [1, 2, 3, 4, 0] rfl ?_
            refine x_goto (pc := 72) (tgt := 10) X d_T_measure_72 (by decide) ?_
            exact ih x1 x2 x3 (x4 + 1) (ua σ3 8 r3.toNatClampNeg x2) hw
set_option maxHeartbeats 4000000 in
set_option maxRecDepth 100000 in
theorem c_T_measure (l : Launch) (D : va_G) (cI : ClassId) (q : Nat → Nat) (σ : St) (x1 x2 : Int32) (post : St → Prop) (hw : wp_T_measure x1 x2 σ post) : CV l D cI (wC cI q) y_T_measure b_T_measure 5 rm_T_measure [.ref (q 3), .int x1, .int x2] σ post := by
  refine CV_of (by decide) (Nat.le_of_ble_eq_true rfl) ?_
  intro Z hZl hZD hZI X hR
  subst hZl; subst hZD; subst hZI
  unfold wp_T_measure at hw
  show VV Z 0 0 (wC (zI Z) q σ) [(0, .ref (q 3)), (1, .int x1), (2, .int x2)] 0 []
  refine x_aload_n (pc := 0) X d_T_measure_0 0 rfl ?_
  refine x_get (pc := 1) X tb_T 3 8 (by decide) mw_50 (atC_3 _ _ _) rfl d_T_measure_1 ?_
  refine x_iload_n (pc := 4) X d_T_measure_4 1 rfl ?_
  obtain ⟨h1, hw⟩ := hw
  refine x_iald (pc := 5) X 8 (atC_8 _ _ _) h1 d_T_measure_5 ?_
  refine x_istore_n (pc := 6) (lv' := [(0, .ref (q 3)), (1, .int x1), (2, .int x2), (3, .int (σ.2 5 x1.toNatClampNeg))]) X d_T_measure_6 (by decide) [1, 2, 3, 0] rfl ?_
  refine x_iconst (pc := 7) (v := 0) X d_T_measure_7 (by decide) ?_
  refine x_istore (pc := 8) (lv' := [(0, .ref (q 3)), (1, .int x1), (2, .int x2), (3, .int (σ.2 5 x1.toNatClampNeg)), (4, .int 0)]) X d_T_measure_8 (by decide) [1, 2, 3, 4, 0] rfl ?_
  obtain ⟨n2, hw⟩ := hw
  exact wL_T_measure_10 X hR n2 x1 x2 (σ.2 5 x1.toNatClampNeg) 0 σ hw
end
section
def rm_T_partOnce : Room := { frames := 3, cells := 0, slots := 0, locals := 70 }
set_option maxHeartbeats 4000000 in
set_option maxRecDepth 100000 in
theorem wL_T_partOnce_21 {Z : ZT} {q : Nat → Nat} {post : Int32 → St → Prop} (X : Cx Z "WayTable$Table" b_T_partOnce rm_T_partOnce 4) (hR : RI Z b_T_partOnce .boolean (wC (zI Z) q) post) : ∀ (n : Nat) (x1 x2 x3 : Int32) (σ : St), L_T_partOnce_21 post n x1 x2 x3 σ → VV Z 0 0 (wC (zI Z) q σ) [(0, .ref (q 3)), (1, .int x1), (2, .int x2), (3, .int x3)] 21 [] := by
  intro n
  induction n with
  | zero => intro x1 x2 x3 σ hw; exact False.elim hw
  | succ n ih =>
    intro x1 x2 x3 σ hw
    unfold L_T_partOnce_21 at hw
    refine x_iload_n (pc := 21) X d_T_partOnce_21 3 rfl ?_
    refine x_aload_n (pc := 22) X d_T_partOnce_22 0 rfl ?_
    refine x_get (pc := 23) X tb_T 3 1 (by decide) mw_38 (atC_3 _ _ _) rfl d_T_partOnce_23 ?_
    refine x_icmp_ge (pc := 26) (tgt := 74) X d_T_partOnce_26 (by decide) (fun c => ?_) (fun c => ?_)
    · have hw := hw.1 c
      refine x_iload_n (pc := 74) X d_T_partOnce_74 2 rfl ?_
      exact hR _ _ _ _ d_T_partOnce_75 hw.1 hw.2
    · have hw := hw.2 c
      refine x_aload_n (pc := 29) X d_T_partOnce_29 0 rfl ?_
      refine x_get (pc := 30) X tb_T 3 7 (by decide) mw_46 (atC_3 _ _ _) rfl d_T_partOnce_30 ?_
      refine x_iload_n (pc := 33) X d_T_partOnce_33 3 rfl ?_
      refine x_aload_n (pc := 34) X d_T_partOnce_34 0 rfl ?_
      refine x_iload_n (pc := 35) X d_T_partOnce_35 3 rfl ?_
      refine x_cvi (pc := 36) X [.int x3] (c_T_findLeader (zl Z) (zD Z) (zI Z) q σ x3 _ hw) mv_T_findLeader tb_T 3 (atC_3 _ _ _) mw_53 d_T_partOnce_36 rfl (Nat.le_of_ble_eq_true rfl) ⟨Nat.le_of_ble_eq_true rfl, Nat.le_of_ble_eq_true rfl⟩ ⟨rfl, rfl⟩ ⟨Nat.zero_le _, Nat.zero_le _⟩ ?_
      intro r2 σ2 hw
      obtain ⟨h3, hw⟩ := hw
      refine x_iast (pc := 39) (ws' := (wC (zI Z) q (ua σ2 4 x3.toNatClampNeg r2))) X 7 (atC_7 _ _ _) h3 (stC_7 _ _ _ _) d_T_partOnce_39 ?_
      refine x_aload_n (pc := 40) X d_T_partOnce_40 0 rfl ?_
      refine x_get (pc := 41) X tb_T 3 7 (by decide) mw_46 (atC_3 _ _ _) rfl d_T_partOnce_41 ?_
      refine x_iload_n (pc := 44) X d_T_partOnce_44 3 rfl ?_
      obtain ⟨h4, hw⟩ := hw
      refine x_iald (pc := 45) X 7 (atC_7 _ _ _) h4 d_T_partOnce_45 ?_
      refine x_iload_n (pc := 46) X d_T_partOnce_46 3 rfl ?_
      refine x_icmp_ne (pc := 47) (tgt := 68) X d_T_partOnce_47 (by decide) (fun c => ?_) (fun c => ?_)
      · have hw := hw.1 c
        refine x_iinc (pc := 68) (d := 1) (lv' := [(0, .ref (q 3)), (1, .int x1), (2, .int x2), (3, .int (x3 + 1))]) X d_T_partOnce_68 3 rfl (by decide) (by decide) [1, 2, 3, 0] rfl ?_
        refine x_goto (pc := 71) (tgt := 21) X d_T_partOnce_71 (by decide) ?_
        exact ih x1 x2 (x3 + 1) (ua σ2 4 x3.toNatClampNeg r2) hw
      · have hw := hw.2 c
        refine x_aload_n (pc := 50) X d_T_partOnce_50 0 rfl ?_
        refine x_get (pc := 51) X tb_T 3 8 (by decide) mw_50 (atC_3 _ _ _) rfl d_T_partOnce_51 ?_
        refine x_iload_n (pc := 54) X d_T_partOnce_54 3 rfl ?_
        obtain ⟨h5, hw⟩ := hw
        refine x_iald (pc := 55) X 8 (atC_8 _ _ _) h5 d_T_partOnce_55 ?_
        refine x_iload_n (pc := 56) X d_T_partOnce_56 3 rfl ?_
        refine x_icmp_eq (pc := 57) (tgt := 68) X d_T_partOnce_57 (by decide) (fun c => ?_) (fun c => ?_)
        · have hw := hw.1 c
          refine x_iinc (pc := 68) (d := 1) (lv' := [(0, .ref (q 3)), (1, .int x1), (2, .int x2), (3, .int (x3 + 1))]) X d_T_partOnce_68 3 rfl (by decide) (by decide) [1, 2, 3, 0] rfl ?_
          refine x_goto (pc := 71) (tgt := 21) X d_T_partOnce_71 (by decide) ?_
          exact ih x1 x2 (x3 + 1) (ua σ2 4 x3.toNatClampNeg r2) hw
        · have hw := hw.2 c
          refine x_aload_n (pc := 60) X d_T_partOnce_60 0 rfl ?_
          refine x_iload_n (pc := 61) X d_T_partOnce_61 3 rfl ?_
          refine x_iload_n (pc := 62) X d_T_partOnce_62 1 rfl ?_
          refine x_cvv (pc := 63) X [.int x3, .int x1] (c_T_measure (zl Z) (zD Z) (zI Z) q (ua σ2 4 x3.toNatClampNeg r2) x3 x1 _ hw) mv_T_measure tb_T 3 (atC_3 _ _ _) mw_63 d_T_partOnce_63 rfl (Nat.le_of_ble_eq_true rfl) ⟨Nat.le_of_ble_eq_true rfl, Nat.le_of_ble_eq_true rfl⟩ ⟨rfl, rfl⟩ ⟨Nat.zero_le _, Nat.zero_le _⟩ ?_
          intro σ6 hw
          refine x_iconst (pc := 66) (v := 1) X d_T_partOnce_66 (by decide) ?_
          refine x_istore_n (pc := 67) (lv' := [(0, .ref (q 3)), (1, .int x1), (2, .int 1), (3, .int x3)]) X d_T_partOnce_67 (by decide) [1, 2, 0, 3] rfl ?_
          refine x_iinc (pc := 68) (d := 1) (lv' := [(0, .ref (q 3)), (1, .int x1), (2, .int 1), (3, .int (x3 + 1))]) X d_T_partOnce_68 3 rfl (by decide) (by decide) [1, 2, 3, 0] rfl ?_
          refine x_goto (pc := 71) (tgt := 21) X d_T_partOnce_71 (by decide) ?_
          exact ih x1 1 (x3 + 1) σ6 hw
set_option maxHeartbeats 4000000 in
set_option maxRecDepth 100000 in
theorem c_T_partOnce (l : Launch) (D : va_G) (cI : ClassId) (q : Nat → Nat) (σ : St) (x1 : Int32) (post : Int32 → St → Prop) (hw : wp_T_partOnce x1 σ post) : CI l D cI (wC cI q) y_T_partOnce b_T_partOnce 4 .boolean rm_T_partOnce [.ref (q 3), .int x1] σ post := by
  refine CI_of (by decide) (Nat.le_of_ble_eq_true rfl) ?_
  intro Z hZl hZD hZI X hR
  subst hZl; subst hZD; subst hZI
  unfold wp_T_partOnce at hw
  show VV Z 0 0 (wC (zI Z) q σ) [(0, .ref (q 3)), (1, .int x1)] 0 []
  refine x_aload_n (pc := 0) X d_T_partOnce_0 0 rfl ?_
  refine x_get (pc := 1) X tb_T 3 7 (by decide) mw_46 (atC_3 _ _ _) rfl d_T_partOnce_1 ?_
  refine x_iconst (pc := 4) (v := 0) X d_T_partOnce_4 (by decide) ?_
  refine x_aload_n (pc := 5) X d_T_partOnce_5 0 rfl ?_
  refine x_get (pc := 6) X tb_T 3 8 (by decide) mw_50 (atC_3 _ _ _) rfl d_T_partOnce_6 ?_
  refine x_iconst (pc := 9) (v := 0) X d_T_partOnce_9 (by decide) ?_
  refine x_aload_n (pc := 10) X d_T_partOnce_10 0 rfl ?_
  refine x_get (pc := 11) X tb_T 3 1 (by decide) mw_38 (atC_3 _ _ _) rfl d_T_partOnce_11 ?_
  obtain ⟨h1, hw⟩ := hw
  refine x_copy (pc := 14) (ws' := (wC (zI Z) q (uA σ 5 (va_cpy (σ.2 4) (σ.2 5) ((0 : Int32).toNatClampNeg) ((0 : Int32).toNatClampNeg) (σ.1 5).toNatClampNeg)))) X mw_40 mw_41 mw_42 mw_43 7 8 (atC_7 _ _ _) (atC_8 _ _ _) h1 (Nat.le_of_ble_eq_true rfl) (Nat.le_of_ble_eq_true rfl) (stC_8 _ _ _ _) d_T_partOnce_14 ?_
  refine x_iconst (pc := 17) (v := 0) X d_T_partOnce_17 (by decide) ?_
  refine x_istore_n (pc := 18) (lv' := [(0, .ref (q 3)), (1, .int x1), (2, .int 0)]) X d_T_partOnce_18 (by decide) [1, 2, 0] rfl ?_
  refine x_iconst (pc := 19) (v := 0) X d_T_partOnce_19 (by decide) ?_
  refine x_istore_n (pc := 20) (lv' := [(0, .ref (q 3)), (1, .int x1), (2, .int 0), (3, .int 0)]) X d_T_partOnce_20 (by decide) [1, 2, 3, 0] rfl ?_
  obtain ⟨n2, hw⟩ := hw
  exact wL_T_partOnce_21 X hR n2 x1 0 0 (uA σ 5 (va_cpy (σ.2 4) (σ.2 5) ((0 : Int32).toNatClampNeg) ((0 : Int32).toNatClampNeg) (σ.1 5).toNatClampNeg)) hw
def rm_T_partSets : Room := { frames := 4, cells := 0, slots := 0, locals := 93 }
set_option maxHeartbeats 4000000 in
set_option maxRecDepth 100000 in
theorem wL_T_partSets_20 {Z : ZT} {q : Nat → Nat} {post : St → Prop} (X : Cx Z "WayTable$Table" b_T_partSets rm_T_partSets 2) (hR : RV Z b_T_partSets (wC (zI Z) q) post) : ∀ (n : Nat) (x1 : Int32) (σ : St), L_T_partSets_20 post n x1 σ → VV Z 0 0 (wC (zI Z) q σ) [(0, .ref (q 3)), (1, .int x1)] 20 [] := by
  intro n
  induction n with
  | zero => intro x1 σ hw; exact False.elim hw
  | succ n ih =>
    intro x1 σ hw
    unfold L_T_partSets_20 at hw
    refine x_iload_n (pc := 20) X d_T_partSets_20 1 rfl ?_
    refine x_aload_n (pc := 21) X d_T_partSets_21 0 rfl ?_
    refine x_get (pc := 22) X tb_T 3 1 (by decide) mw_38 (atC_3 _ _ _) rfl d_T_partSets_22 ?_
    refine x_icmp_ge (pc := 25) (tgt := 48) X d_T_partSets_25 (by decide) (fun c => ?_) (fun c => ?_)
    · have hw := hw.1 c
      exact hR _ _ _ d_T_partSets_48 hw
    · have hw := hw.2 c
      refine x_aload_n (pc := 28) X d_T_partSets_28 0 rfl ?_
      refine x_iload_n (pc := 29) X d_T_partSets_29 1 rfl ?_
      refine x_cvi (pc := 30) X [.int x1] (c_T_partOnce (zl Z) (zD Z) (zI Z) q σ x1 _ hw) mv_T_partOnce tb_T 3 (atC_3 _ _ _) mw_64 d_T_partSets_30 rfl (Nat.le_of_ble_eq_true rfl) ⟨Nat.le_of_ble_eq_true rfl, Nat.le_of_ble_eq_true rfl⟩ ⟨rfl, rfl⟩ ⟨Nat.zero_le _, Nat.zero_le _⟩ ?_
      intro r2 σ2 hw
      refine x_if_ne (pc := 33) (tgt := 37) X d_T_partSets_33 (by decide) (fun c => ?_) (fun c => ?_)
      · have hw := hw.1 c
        refine x_aload_n (pc := 37) X d_T_partSets_37 0 rfl ?_
        refine x_iload_n (pc := 38) X d_T_partSets_38 1 rfl ?_
        refine x_put (pc := 39) (ws' := (wC (zI Z) q (us σ2 7 x1))) X tb_T 3 3 (by decide) mw_49 (atC_3 _ _ _) rfl pI (Nat.le_of_ble_eq_true rfl) (ptC_7 _ _ _ _) d_T_partSets_39 ?_
        refine x_iinc (pc := 42) (d := 1) (lv' := [(0, .ref (q 3)), (1, .int (x1 + 1))]) X d_T_partSets_42 1 rfl (by decide) (by decide) [1, 0] rfl ?_
        refine x_goto (pc := 45) (tgt := 20) X d_T_partSets_45 (by decide) ?_
        exact ih (x1 + 1) (us σ2 7 x1) hw
      · have hw := hw.2 c
        exact hR _ _ _ d_T_partSets_36 hw
set_option maxHeartbeats 4000000 in
set_option maxRecDepth 100000 in
theorem c_T_partSets (l : Launch) (D : va_G) (cI : ClassId) (q : Nat → Nat) (σ : St) (post : St → Prop) (hw : wp_T_partSets σ post) : CV l D cI (wC cI q) y_T_partSets b_T_partSets 2 rm_T_partSets [.ref (q 3)] σ post := by
  refine CV_of (by decide) (Nat.le_of_ble_eq_true rfl) ?_
  intro Z hZl hZD hZI X hR
  subst hZl; subst hZD; subst hZI
  unfold wp_T_partSets at hw
  show VV Z 0 0 (wC (zI Z) q σ) [(0, .ref (q 3))] 0 []
  refine x_aload_n (pc := 0) X d_T_partSets_0 0 rfl ?_
  refine x_get (pc := 1) X tb_T 3 7 (by decide) mw_46 (atC_3 _ _ _) rfl d_T_partSets_1 ?_
  refine x_iconst (pc := 4) (v := 0) X d_T_partSets_4 (by decide) ?_
  refine x_aload_n (pc := 5) X d_T_partSets_5 0 rfl ?_
  refine x_get (pc := 6) X tb_T 3 1 (by decide) mw_38 (atC_3 _ _ _) rfl d_T_partSets_6 ?_
  refine x_iconst (pc := 9) (v := 0) X d_T_partSets_9 (by decide) ?_
  refine x_csv (pc := 10) X [.ref (q 7), .int 0, .int (σ.1 5), .int 0] (c_A_fill4_7 (zl Z) (zD Z) (zI Z) q σ 0 (σ.1 5) 0 _ hw) ms_A_fill4 mw_48 d_T_partSets_10 rfl (Nat.le_of_ble_eq_true rfl) ⟨Nat.le_of_ble_eq_true rfl, Nat.le_of_ble_eq_true rfl⟩ ⟨rfl, rfl⟩ ⟨Nat.zero_le _, Nat.zero_le _⟩ ?_
  intro σ1 hw
  refine x_aload_n (pc := 13) X d_T_partSets_13 0 rfl ?_
  refine x_iconst (pc := 14) (v := 0) X d_T_partSets_14 (by decide) ?_
  refine x_put (pc := 15) (ws' := (wC (zI Z) q (us σ1 7 0))) X tb_T 3 3 (by decide) mw_49 (atC_3 _ _ _) rfl pI (Nat.le_of_ble_eq_true rfl) (ptC_7 _ _ _ _) d_T_partSets_15 ?_
  refine x_iconst (pc := 18) (v := 1) X d_T_partSets_18 (by decide) ?_
  refine x_istore_n (pc := 19) (lv' := [(0, .ref (q 3)), (1, .int 1)]) X d_T_partSets_19 (by decide) [1, 0] rfl ?_
  obtain ⟨n2, hw⟩ := hw
  exact wL_T_partSets_20 X hR n2 1 (us σ1 7 0) hw
def rm_A_fill4_9 : Room := { frames := 1, cells := 0, slots := 0, locals := 22 }
set_option maxHeartbeats 4000000 in
set_option maxRecDepth 100000 in
theorem wL_A_fill4_9_10 {Z : ZT} {q : Nat → Nat} {post : St → Prop} (X : Cx Z "java/util/Arrays" b_A_fill4 rm_A_fill4_9 5) (hR : RV Z b_A_fill4 (wC (zI Z) q) post) : ∀ (n : Nat) (x1 x2 x3 x4 : Int32) (σ : St), L_A_fill4_9_10 post n x1 x2 x3 x4 σ → VV Z 0 0 (wC (zI Z) q σ) [(0, .ref (q 9)), (1, .int x1), (2, .int x2), (3, .int x3), (4, .int x4)] 10 [] := by
  intro n
  induction n with
  | zero => intro x1 x2 x3 x4 σ hw; exact False.elim hw
  | succ n ih =>
    intro x1 x2 x3 x4 σ hw
    unfold L_A_fill4_9_10 at hw
    refine x_iload (pc := 10) X d_A_fill4_10 4 rfl ?_
    refine x_iload_n (pc := 12) X d_A_fill4_12 2 rfl ?_
    refine x_icmp_ge (pc := 13) (tgt := 27) X d_A_fill4_13 (by decide) (fun c => ?_) (fun c => ?_)
    · have hw := hw.1 c
      exact hR _ _ _ d_A_fill4_27 hw
    · have hw := hw.2 c
      refine x_aload_n (pc := 16) X d_A_fill4_16 0 rfl ?_
      refine x_iload (pc := 17) X d_A_fill4_17 4 rfl ?_
      refine x_iload_n (pc := 19) X d_A_fill4_19 3 rfl ?_
      obtain ⟨h2, hw⟩ := hw
      refine x_iast (pc := 20) (ws' := (wC (zI Z) q (ua σ 6 x4.toNatClampNeg x3))) X 9 (atC_9 _ _ _) h2 (stC_9 _ _ _ _) d_A_fill4_20 ?_
      refine x_iinc (pc := 21) (d := 1) (lv' := [(0, .ref (q 9)), (1, .int x1), (2, .int x2), (3, .int x3), (4, .int (x4 + 1))]) X d_A_fill4_21 4 rfl (by decide) (by decide) [1, 2, 3, 4, 0] rfl ?_
      refine x_goto (pc := 24) (tgt := 10) X d_A_fill4_24 (by decide) ?_
      exact ih x1 x2 x3 (x4 + 1) (ua σ 6 x4.toNatClampNeg x3) hw
set_option maxHeartbeats 4000000 in
set_option maxRecDepth 100000 in
theorem c_A_fill4_9 (l : Launch) (D : va_G) (cI : ClassId) (q : Nat → Nat) (σ : St) (x1 x2 x3 : Int32) (post : St → Prop) (hw : wp_A_fill4_9 x1 x2 x3 σ post) : CV l D cI (wC cI q) y_A_fill4 b_A_fill4 5 rm_A_fill4_9 [.ref (q 9), .int x1, .int x2, .int x3] σ post := by
  refine CV_of (by decide) (Nat.le_of_ble_eq_true rfl) ?_
  intro Z hZl hZD hZI X hR
  subst hZl; subst hZD; subst hZI
  unfold wp_A_fill4_9 at hw
  show VV Z 0 0 (wC (zI Z) q σ) [(0, .ref (q 9)), (1, .int x1), (2, .int x2), (3, .int x3)] 0 []
  refine x_aload_n (pc := 0) X d_A_fill4_0 0 rfl ?_
  refine x_alen (pc := 1) X 9 (atC_9 _ _ _) d_A_fill4_1 ?_
  refine x_iload_n (pc := 2) X d_A_fill4_2 1 rfl ?_
  refine x_iload_n (pc := 3) X d_A_fill4_3 2 rfl ?_
  refine x_csv (pc := 4) X [.int (nI 120), .int x1, .int x2] (c_A_rangeCheck3 (zl Z) (zD Z) (zI Z) q σ (nI 120) x1 x2 _ hw) ms_A_rangeCheck3 mw_47 d_A_fill4_4 rfl (Nat.le_of_ble_eq_true rfl) ⟨Nat.le_of_ble_eq_true rfl, Nat.le_of_ble_eq_true rfl⟩ ⟨rfl, rfl⟩ ⟨Nat.zero_le _, Nat.zero_le _⟩ ?_
  intro σ1 hw
  refine x_iload_n (pc := 7) X d_A_fill4_7 1 rfl ?_
  refine x_istore (pc := 8) (lv' := [(0, .ref (q 9)), (1, .int x1), (2, .int x2), (3, .int x3), (4, .int x1)]) X d_A_fill4_8 (by decide) [1, 2, 3, 4, 0] rfl ?_
  obtain ⟨n2, hw⟩ := hw
  exact wL_A_fill4_9_10 X hR n2 x1 x2 x3 x1 σ1 hw
def rm_T_numberState : Room := { frames := 0, cells := 0, slots := 0, locals := 0 }
set_option maxHeartbeats 4000000 in
set_option maxRecDepth 100000 in
theorem c_T_numberState (l : Launch) (D : va_G) (cI : ClassId) (q : Nat → Nat) (σ : St) (x1 : Int32) (post : St → Prop) (hw : wp_T_numberState x1 σ post) : CV l D cI (wC cI q) y_T_numberState b_T_numberState 2 rm_T_numberState [.ref (q 3), .int x1] σ post := by
  refine CV_of (by decide) (Nat.le_of_ble_eq_true rfl) ?_
  intro Z hZl hZD hZI X hR
  subst hZl; subst hZD; subst hZI
  unfold wp_T_numberState at hw
  show VV Z 0 0 (wC (zI Z) q σ) [(0, .ref (q 3)), (1, .int x1)] 0 []
  refine x_aload_n (pc := 0) X d_T_numberState_0 0 rfl ?_
  refine x_get (pc := 1) X tb_T 3 9 (by decide) mw_66 (atC_3 _ _ _) rfl d_T_numberState_1 ?_
  refine x_iload_n (pc := 4) X d_T_numberState_4 1 rfl ?_
  refine x_aload_n (pc := 5) X d_T_numberState_5 0 rfl ?_
  refine x_get (pc := 6) X tb_T 3 2 (by decide) mw_67 (atC_3 _ _ _) rfl d_T_numberState_6 ?_
  obtain ⟨h1, hw⟩ := hw
  refine x_iast (pc := 9) (ws' := (wC (zI Z) q (ua σ 6 x1.toNatClampNeg (σ.1 6)))) X 9 (atC_9 _ _ _) h1 (stC_9 _ _ _ _) d_T_numberState_9 ?_
  refine x_aload_n (pc := 10) X d_T_numberState_10 0 rfl ?_
  refine x_get (pc := 11) X tb_T 3 10 (by decide) mw_68 (atC_3 _ _ _) rfl d_T_numberState_11 ?_
  refine x_aload_n (pc := 14) X d_T_numberState_14 0 rfl ?_
  refine x_get (pc := 15) X tb_T 3 2 (by decide) mw_67 (atC_3 _ _ _) rfl d_T_numberState_15 ?_
  refine x_iload_n (pc := 18) X d_T_numberState_18 1 rfl ?_
  obtain ⟨h2, hw⟩ := hw
  refine x_iast (pc := 19) (ws' := (wC (zI Z) q (ua (ua σ 6 x1.toNatClampNeg (σ.1 6)) 7 ((ua σ 6 x1.toNatClampNeg (σ.1 6)).1 6).toNatClampNeg x1))) X 10 (atC_10 _ _ _) h2 (stC_10 _ _ _ _) d_T_numberState_19 ?_
  refine x_aload_n (pc := 20) X d_T_numberState_20 0 rfl ?_
  refine x_dup (pc := 21) X d_T_numberState_21 rfl ?_
  refine x_get (pc := 22) X tb_T 3 2 (by decide) mw_67 (atC_3 _ _ _) rfl d_T_numberState_22 ?_
  refine x_iconst (pc := 25) (v := 1) X d_T_numberState_25 (by decide) ?_
  refine x_iadd (pc := 26) X d_T_numberState_26 ?_
  refine x_put (pc := 27) (ws' := (wC (zI Z) q (us (ua (ua σ 6 x1.toNatClampNeg (σ.1 6)) 7 ((ua σ 6 x1.toNatClampNeg (σ.1 6)).1 6).toNatClampNeg x1) 6 (((ua (ua σ 6 x1.toNatClampNeg (σ.1 6)) 7 ((ua σ 6 x1.toNatClampNeg (σ.1 6)).1 6).toNatClampNeg x1).1 6) + 1)))) X tb_T 3 2 (by decide) mw_67 (atC_3 _ _ _) rfl pI (Nat.le_of_ble_eq_true rfl) (ptC_6 _ _ _ _) d_T_numberState_27 ?_
  exact hR _ _ _ d_T_numberState_30 hw
def rm_T_leaderAfter_7 : Room := { frames := 0, cells := 0, slots := 0, locals := 0 }
set_option maxHeartbeats 4000000 in
set_option maxRecDepth 100000 in
theorem c_T_leaderAfter_7 (l : Launch) (D : va_G) (cI : ClassId) (q : Nat → Nat) (σ : St) (x2 x3 : Int32) (post : Int32 → St → Prop) (hw : wp_T_leaderAfter_7 x2 x3 σ post) : CI l D cI (wC cI q) y_T_leaderAfter b_T_leaderAfter 5 .int rm_T_leaderAfter_7 [.ref (q 3), .ref (q 7), .int x2, .int x3] σ post := by
  refine CI_of (by decide) (Nat.le_of_ble_eq_true rfl) ?_
  intro Z hZl hZD hZI X hR
  subst hZl; subst hZD; subst hZI
  unfold wp_T_leaderAfter_7 at hw
  show VV Z 0 0 (wC (zI Z) q σ) [(0, .ref (q 3)), (1, .ref (q 7)), (2, .int x2), (3, .int x3)] 0 []
  refine x_aload_n (pc := 0) X d_T_leaderAfter_0 0 rfl ?_
  refine x_get (pc := 1) X tb_T 3 6 (by decide) mw_44 (atC_3 _ _ _) rfl d_T_leaderAfter_1 ?_
  refine x_iload_n (pc := 4) X d_T_leaderAfter_4 2 rfl ?_
  refine x_bipush (pc := 5) (v := (nI 40)) X d_T_leaderAfter_5 (by decide) ?_
  refine x_imul (pc := 7) X d_T_leaderAfter_7 ?_
  refine x_iload_n (pc := 8) X d_T_leaderAfter_8 3 rfl ?_
  refine x_iadd (pc := 9) X d_T_leaderAfter_9 ?_
  obtain ⟨h1, hw⟩ := hw
  refine x_iald (pc := 10) X 6 (atC_6 _ _ _) h1 d_T_leaderAfter_10 ?_
  refine x_istore (pc := 11) (lv' := [(0, .ref (q 3)), (1, .ref (q 7)), (2, .int x2), (3, .int x3), (4, .int (σ.2 3 ((x2 * (nI 40)) + x3).toNatClampNeg))]) X d_T_leaderAfter_11 (by decide) [1, 2, 3, 4, 0] rfl ?_
  refine x_iload (pc := 13) X d_T_leaderAfter_13 4 rfl ?_
  refine x_iconst (pc := 15) (v := (-1)) X d_T_leaderAfter_15 (by decide) ?_
  refine x_icmp_ne (pc := 16) (tgt := 23) X d_T_leaderAfter_16 (by decide) (fun c => ?_) (fun c => ?_)
  · have hw := hw.1 c
    refine x_aload_n (pc := 23) X d_T_leaderAfter_23 1 rfl ?_
    refine x_iload (pc := 24) X d_T_leaderAfter_24 4 rfl ?_
    obtain ⟨h2, hw⟩ := hw
    refine x_iald (pc := 26) X 7 (atC_7 _ _ _) h2 d_T_leaderAfter_26 ?_
    exact hR _ _ _ _ d_T_leaderAfter_27 (vp_nar_int _) hw
  · have hw := hw.2 c
    refine x_iconst (pc := 19) (v := (-1)) X d_T_leaderAfter_19 (by decide) ?_
    refine x_goto (pc := 20) (tgt := 27) X d_T_leaderAfter_20 (by decide) ?_
    exact hR _ _ _ _ d_T_leaderAfter_27 (vp_nar_int _) hw
def rm_T_numberStates : Room := { frames := 2, cells := 0, slots := 0, locals := 46 }
set_option maxHeartbeats 4000000 in
set_option maxRecDepth 100000 in
theorem wL_T_numberStates_93 {Z : ZT} {q : Nat → Nat} {post : St → Prop} (X : Cx Z "WayTable$Table" b_T_numberStates rm_T_numberStates 4) (hR : RV Z b_T_numberStates (wC (zI Z) q) post) : ∀ (n : Nat) (x1 : Int32) (σ : St), L_T_numberStates_93 post n x1 σ → VV Z 0 0 (wC (zI Z) q σ) [(0, .ref (q 3)), (1, .int x1)] 93 [] := by
  intro n
  induction n with
  | zero => intro x1 σ hw; exact False.elim hw
  | succ n ih =>
    intro x1 σ hw
    unfold L_T_numberStates_93 at hw
    refine x_iload_n (pc := 93) X d_T_numberStates_93 1 rfl ?_
    refine x_aload_n (pc := 94) X d_T_numberStates_94 0 rfl ?_
    refine x_get (pc := 95) X tb_T 3 1 (by decide) mw_38 (atC_3 _ _ _) rfl d_T_numberStates_95 ?_
    refine x_icmp_ge (pc := 98) (tgt := 124) X d_T_numberStates_98 (by decide) (fun c => ?_) (fun c => ?_)
    · have hw := hw.1 c
      exact hR _ _ _ d_T_numberStates_124 hw
    · have hw := hw.2 c
      refine x_aload_n (pc := 101) X d_T_numberStates_101 0 rfl ?_
      refine x_get (pc := 102) X tb_T 3 9 (by decide) mw_66 (atC_3 _ _ _) rfl d_T_numberStates_102 ?_
      refine x_iload_n (pc := 105) X d_T_numberStates_105 1 rfl ?_
      refine x_aload_n (pc := 106) X d_T_numberStates_106 0 rfl ?_
      refine x_get (pc := 107) X tb_T 3 9 (by decide) mw_66 (atC_3 _ _ _) rfl d_T_numberStates_107 ?_
      refine x_aload_n (pc := 110) X d_T_numberStates_110 0 rfl ?_
      refine x_get (pc := 111) X tb_T 3 7 (by decide) mw_46 (atC_3 _ _ _) rfl d_T_numberStates_111 ?_
      refine x_iload_n (pc := 114) X d_T_numberStates_114 1 rfl ?_
      obtain ⟨h3, hw⟩ := hw
      refine x_iald (pc := 115) X 7 (atC_7 _ _ _) h3 d_T_numberStates_115 ?_
      obtain ⟨h4, hw⟩ := hw
      refine x_iald (pc := 116) X 9 (atC_9 _ _ _) h4 d_T_numberStates_116 ?_
      obtain ⟨h5, hw⟩ := hw
      refine x_iast (pc := 117) (ws' := (wC (zI Z) q (ua σ 6 x1.toNatClampNeg (σ.2 6 (σ.2 4 x1.toNatClampNeg).toNatClampNeg)))) X 9 (atC_9 _ _ _) h5 (stC_9 _ _ _ _) d_T_numberStates_117 ?_
      refine x_iinc (pc := 118) (d := 1) (lv' := [(0, .ref (q 3)), (1, .int (x1 + 1))]) X d_T_numberStates_118 1 rfl (by decide) (by decide) [1, 0] rfl ?_
      refine x_goto (pc := 121) (tgt := 93) X d_T_numberStates_121 (by decide) ?_
      exact ih (x1 + 1) (ua σ 6 x1.toNatClampNeg (σ.2 6 (σ.2 4 x1.toNatClampNeg).toNatClampNeg)) hw
set_option maxHeartbeats 4000000 in
set_option maxRecDepth 100000 in
theorem wL_T_numberStates_35 {Z : ZT} {q : Nat → Nat} {post : St → Prop} {K : Int32 → St → Prop} (X : Cx Z "WayTable$Table" b_T_numberStates rm_T_numberStates 4) (hR : RV Z b_T_numberStates (wC (zI Z) q) post) (hK : ∀ (x1 : Int32) (σ : St), K x1 σ → VV Z 0 0 (wC (zI Z) q σ) [(0, .ref (q 3)), (1, .int x1)] 25 []) : ∀ (n : Nat) (x1 x2 : Int32) (σ : St), L_T_numberStates_35 post K n x1 x2 σ → VV Z 0 0 (wC (zI Z) q σ) [(0, .ref (q 3)), (1, .int x1), (2, .int x2)] 35 [] := by
  intro n
  induction n with
  | zero => intro x1 x2 σ hw; exact False.elim hw
  | succ n ih =>
    intro x1 x2 σ hw
    unfold L_T_numberStates_35 at hw
    refine x_iload_n (pc := 35) X d_T_numberStates_35 2 rfl ?_
    refine x_aload_n (pc := 36) X d_T_numberStates_36 0 rfl ?_
    refine x_get (pc := 37) X tb_T 3 0 (by decide) mw_37 (atC_3 _ _ _) rfl d_T_numberStates_37 ?_
    refine x_icmp_ge (pc := 40) (tgt := 85) X d_T_numberStates_40 (by decide) (fun c => ?_) (fun c => ?_)
    · have hw := hw.1 c
      refine x_iinc (pc := 85) (d := 1) (lv' := [(0, .ref (q 3)), (1, .int (x1 + 1)), (2, .int x2)]) X d_T_numberStates_85 1 rfl (by decide) (by decide) [1, 0, 2] rfl ?_
      refine x_goto (pc := 88) (tgt := 25) X d_T_numberStates_88 (by decide) ?_
      refine x_drop [0, 1] rfl ?_
      exact hK (x1 + 1) σ hw
    · have hw := hw.2 c
      refine x_aload_n (pc := 43) X d_T_numberStates_43 0 rfl ?_
      refine x_aload_n (pc := 44) X d_T_numberStates_44 0 rfl ?_
      refine x_get (pc := 45) X tb_T 3 7 (by decide) mw_46 (atC_3 _ _ _) rfl d_T_numberStates_45 ?_
      refine x_aload_n (pc := 48) X d_T_numberStates_48 0 rfl ?_
      refine x_get (pc := 49) X tb_T 3 10 (by decide) mw_68 (atC_3 _ _ _) rfl d_T_numberStates_49 ?_
      refine x_iload_n (pc := 52) X d_T_numberStates_52 1 rfl ?_
      obtain ⟨h6, hw⟩ := hw
      refine x_iald (pc := 53) X 10 (atC_10 _ _ _) h6 d_T_numberStates_53 ?_
      refine x_iload_n (pc := 54) X d_T_numberStates_54 2 rfl ?_
      refine x_cvi (pc := 55) X [.ref (q 7), .int (σ.2 7 x1.toNatClampNeg), .int x2] (c_T_leaderAfter_7 (zl Z) (zD Z) (zI Z) q σ (σ.2 7 x1.toNatClampNeg) x2 _ hw) mv_T_leaderAfter tb_T 3 (atC_3 _ _ _) mw_51 d_T_numberStates_55 rfl (Nat.le_of_ble_eq_true rfl) ⟨Nat.le_of_ble_eq_true rfl, Nat.le_of_ble_eq_true rfl⟩ ⟨rfl, rfl⟩ ⟨Nat.zero_le _, Nat.zero_le _⟩ ?_
      intro r7 σ7 hw
      refine x_istore_n (pc := 58) (lv' := [(0, .ref (q 3)), (1, .int x1), (2, .int x2), (3, .int r7)]) X d_T_numberStates_58 (by decide) [1, 2, 3, 0] rfl ?_
      refine x_iload_n (pc := 59) X d_T_numberStates_59 3 rfl ?_
      refine x_iconst (pc := 60) (v := (-1)) X d_T_numberStates_60 (by decide) ?_
      refine x_icmp_eq (pc := 61) (tgt := 79) X d_T_numberStates_61 (by decide) (fun c => ?_) (fun c => ?_)
      · have hw := hw.1 c
        refine x_iinc (pc := 79) (d := 1) (lv' := [(0, .ref (q 3)), (1, .int x1), (2, .int (x2 + 1)), (3, .int r7)]) X d_T_numberStates_79 2 rfl (by decide) (by decide) [1, 2, 0, 3] rfl ?_
        refine x_goto (pc := 82) (tgt := 35) X d_T_numberStates_82 (by decide) ?_
        refine x_drop [0, 1, 2] rfl ?_
        exact ih x1 (x2 + 1) σ7 hw
      · have hw := hw.2 c
        refine x_aload_n (pc := 64) X d_T_numberStates_64 0 rfl ?_
        refine x_get (pc := 65) X tb_T 3 9 (by decide) mw_66 (atC_3 _ _ _) rfl d_T_numberStates_65 ?_
        refine x_iload_n (pc := 68) X d_T_numberStates_68 3 rfl ?_
        obtain ⟨h8, hw⟩ := hw
        refine x_iald (pc := 69) X 9 (atC_9 _ _ _) h8 d_T_numberStates_69 ?_
        refine x_iconst (pc := 70) (v := (-1)) X d_T_numberStates_70 (by decide) ?_
        refine x_icmp_ne (pc := 71) (tgt := 79) X d_T_numberStates_71 (by decide) (fun c => ?_) (fun c => ?_)
        · have hw := hw.1 c
          refine x_iinc (pc := 79) (d := 1) (lv' := [(0, .ref (q 3)), (1, .int x1), (2, .int (x2 + 1)), (3, .int r7)]) X d_T_numberStates_79 2 rfl (by decide) (by decide) [1, 2, 0, 3] rfl ?_
          refine x_goto (pc := 82) (tgt := 35) X d_T_numberStates_82 (by decide) ?_
          refine x_drop [0, 1, 2] rfl ?_
          exact ih x1 (x2 + 1) σ7 hw
        · have hw := hw.2 c
          refine x_aload_n (pc := 74) X d_T_numberStates_74 0 rfl ?_
          refine x_iload_n (pc := 75) X d_T_numberStates_75 3 rfl ?_
          refine x_cvv (pc := 76) X [.int r7] (c_T_numberState (zl Z) (zD Z) (zI Z) q σ7 r7 _ hw) mv_T_numberState tb_T 3 (atC_3 _ _ _) mw_69 d_T_numberStates_76 rfl (Nat.le_of_ble_eq_true rfl) ⟨Nat.le_of_ble_eq_true rfl, Nat.le_of_ble_eq_true rfl⟩ ⟨rfl, rfl⟩ ⟨Nat.zero_le _, Nat.zero_le _⟩ ?_
          intro σ9 hw
          refine x_iinc (pc := 79) (d := 1) (lv' := [(0, .ref (q 3)), (1, .int x1), (2, .int (x2 + 1)), (3, .int r7)]) X d_T_numberStates_79 2 rfl (by decide) (by decide) [1, 2, 0, 3] rfl ?_
          refine x_goto (pc := 82) (tgt := 35) X d_T_numberStates_82 (by decide) ?_
          refine x_drop [0, 1, 2] rfl ?_
          exact ih x1 (x2 + 1) σ9 hw
set_option maxHeartbeats 4000000 in
set_option maxRecDepth 100000 in
theorem wL_T_numberStates_25 {Z : ZT} {q : Nat → Nat} {post : St → Prop} (X : Cx Z "WayTable$Table" b_T_numberStates rm_T_numberStates 4) (hR : RV Z b_T_numberStates (wC (zI Z) q) post) : ∀ (n : Nat) (x1 : Int32) (σ : St), L_T_numberStates_25 post n x1 σ → VV Z 0 0 (wC (zI Z) q σ) [(0, .ref (q 3)), (1, .int x1)] 25 [] := by
  intro n
  induction n with
  | zero => intro x1 σ hw; exact False.elim hw
  | succ n ih =>
    intro x1 σ hw
    unfold L_T_numberStates_25 at hw
    refine x_iload_n (pc := 25) X d_T_numberStates_25 1 rfl ?_
    refine x_aload_n (pc := 26) X d_T_numberStates_26 0 rfl ?_
    refine x_get (pc := 27) X tb_T 3 2 (by decide) mw_67 (atC_3 _ _ _) rfl d_T_numberStates_27 ?_
    refine x_icmp_ge (pc := 30) (tgt := 91) X d_T_numberStates_30 (by decide) (fun c => ?_) (fun c => ?_)
    · have hw := hw.1 c
      refine x_iconst (pc := 91) (v := 0) X d_T_numberStates_91 (by decide) ?_
      refine x_istore_n (pc := 92) (lv' := [(0, .ref (q 3)), (1, .int 0)]) X d_T_numberStates_92 (by decide) [1, 0] rfl ?_
      obtain ⟨n2, hw⟩ := hw
      exact wL_T_numberStates_93 X hR n2 0 σ hw
    · have hw := hw.2 c
      refine x_iconst (pc := 33) (v := 0) X d_T_numberStates_33 (by decide) ?_
      refine x_istore_n (pc := 34) (lv' := [(0, .ref (q 3)), (1, .int x1), (2, .int 0)]) X d_T_numberStates_34 (by decide) [1, 2, 0] rfl ?_
      obtain ⟨n2, hw⟩ := hw
      exact wL_T_numberStates_35 X hR ih n2 x1 0 σ hw
set_option maxHeartbeats 4000000 in
set_option maxRecDepth 100000 in
theorem c_T_numberStates (l : Launch) (D : va_G) (cI : ClassId) (q : Nat → Nat) (σ : St) (post : St → Prop) (hw : wp_T_numberStates σ post) : CV l D cI (wC cI q) y_T_numberStates b_T_numberStates 4 rm_T_numberStates [.ref (q 3)] σ post := by
  refine CV_of (by decide) (Nat.le_of_ble_eq_true rfl) ?_
  intro Z hZl hZD hZI X hR
  subst hZl; subst hZD; subst hZI
  unfold wp_T_numberStates at hw
  show VV Z 0 0 (wC (zI Z) q σ) [(0, .ref (q 3))] 0 []
  refine x_aload_n (pc := 0) X d_T_numberStates_0 0 rfl ?_
  refine x_get (pc := 1) X tb_T 3 9 (by decide) mw_66 (atC_3 _ _ _) rfl d_T_numberStates_1 ?_
  refine x_iconst (pc := 4) (v := 0) X d_T_numberStates_4 (by decide) ?_
  refine x_aload_n (pc := 5) X d_T_numberStates_5 0 rfl ?_
  refine x_get (pc := 6) X tb_T 3 1 (by decide) mw_38 (atC_3 _ _ _) rfl d_T_numberStates_6 ?_
  refine x_iconst (pc := 9) (v := (-1)) X d_T_numberStates_9 (by decide) ?_
  refine x_csv (pc := 10) X [.ref (q 9), .int 0, .int (σ.1 5), .int (-1)] (c_A_fill4_9 (zl Z) (zD Z) (zI Z) q σ 0 (σ.1 5) (-1) _ hw) ms_A_fill4 mw_48 d_T_numberStates_10 rfl (Nat.le_of_ble_eq_true rfl) ⟨Nat.le_of_ble_eq_true rfl, Nat.le_of_ble_eq_true rfl⟩ ⟨rfl, rfl⟩ ⟨Nat.zero_le _, Nat.zero_le _⟩ ?_
  intro σ1 hw
  refine x_aload_n (pc := 13) X d_T_numberStates_13 0 rfl ?_
  refine x_iconst (pc := 14) (v := 0) X d_T_numberStates_14 (by decide) ?_
  refine x_put (pc := 15) (ws' := (wC (zI Z) q (us σ1 6 0))) X tb_T 3 2 (by decide) mw_67 (atC_3 _ _ _) rfl pI (Nat.le_of_ble_eq_true rfl) (ptC_6 _ _ _ _) d_T_numberStates_15 ?_
  refine x_aload_n (pc := 18) X d_T_numberStates_18 0 rfl ?_
  refine x_iconst (pc := 19) (v := 0) X d_T_numberStates_19 (by decide) ?_
  refine x_cvv (pc := 20) X [.int 0] (c_T_numberState (zl Z) (zD Z) (zI Z) q (us σ1 6 0) 0 _ hw) mv_T_numberState tb_T 3 (atC_3 _ _ _) mw_69 d_T_numberStates_20 rfl (Nat.le_of_ble_eq_true rfl) ⟨Nat.le_of_ble_eq_true rfl, Nat.le_of_ble_eq_true rfl⟩ ⟨rfl, rfl⟩ ⟨Nat.zero_le _, Nat.zero_le _⟩ ?_
  intro σ2 hw
  refine x_iconst (pc := 23) (v := 0) X d_T_numberStates_23 (by decide) ?_
  refine x_istore_n (pc := 24) (lv' := [(0, .ref (q 3)), (1, .int 0)]) X d_T_numberStates_24 (by decide) [1, 0] rfl ?_
  obtain ⟨n2, hw⟩ := hw
  exact wL_T_numberStates_25 X hR n2 0 σ2 hw
def rm_T_build_1 : Room := { frames := 5, cells := 0, slots := 0, locals := 114 }
set_option maxHeartbeats 4000000 in
set_option maxRecDepth 100000 in
theorem c_T_build_1 (l : Launch) (D : va_G) (cI : ClassId) (q : Nat → Nat) (σ : St) (post : Int32 → St → Prop) (hw : wp_T_build_1 σ post) : CI l D cI (wC cI q) y_T_build b_T_build 3 .boolean rm_T_build_1 [.ref (q 3), .ref (q 1)] σ post := by
  refine CI_of (by decide) (Nat.le_of_ble_eq_true rfl) ?_
  intro Z hZl hZD hZI X hR
  subst hZl; subst hZD; subst hZI
  unfold wp_T_build_1 at hw
  show VV Z 0 0 (wC (zI Z) q σ) [(0, .ref (q 3)), (1, .ref (q 1))] 0 []
  refine x_aload_n (pc := 0) X d_T_build_0 0 rfl ?_
  refine x_aload_n (pc := 1) X d_T_build_1 1 rfl ?_
  refine x_cvi (pc := 2) X [.ref (q 1)] (c_T_findSets_1 (zl Z) (zD Z) (zI Z) q σ _ hw) mv_T_findSets tb_T 3 (atC_3 _ _ _) mw_36 d_T_build_2 rfl (Nat.le_of_ble_eq_true rfl) ⟨Nat.le_of_ble_eq_true rfl, Nat.le_of_ble_eq_true rfl⟩ ⟨rfl, rfl⟩ ⟨Nat.zero_le _, Nat.zero_le _⟩ ?_
  intro r1 σ1 hw
  refine x_istore_n (pc := 5) (lv' := [(0, .ref (q 3)), (1, .ref (q 1)), (2, .int r1)]) X d_T_build_5 (by decide) [1, 2, 0] rfl ?_
  refine x_iload_n (pc := 6) X d_T_build_6 2 rfl ?_
  refine x_iconst (pc := 7) (v := (-1)) X d_T_build_7 (by decide) ?_
  refine x_icmp_ne (pc := 8) (tgt := 13) X d_T_build_8 (by decide) (fun c => ?_) (fun c => ?_)
  · have hw := hw.1 c
    refine x_aload_n (pc := 13) X d_T_build_13 0 rfl ?_
    refine x_aload_n (pc := 14) X d_T_build_14 1 rfl ?_
    refine x_getN (pc := 15) X tb_G 1 1 (by decide) nw_33 (atC_1 _ _ _) rfl d_T_build_15 ?_
    refine x_put (pc := 18) (ws' := (wC (zI Z) q (us σ1 4 (σ1.1 2)))) X tb_T 3 0 (by decide) mw_37 (atC_3 _ _ _) rfl pI (Nat.le_of_ble_eq_true rfl) (ptC_4 _ _ _ _) d_T_build_18 ?_
    refine x_aload_n (pc := 21) X d_T_build_21 0 rfl ?_
    refine x_iload_n (pc := 22) X d_T_build_22 2 rfl ?_
    refine x_put (pc := 23) (ws' := (wC (zI Z) q (us (us σ1 4 (σ1.1 2)) 5 r1))) X tb_T 3 1 (by decide) mw_38 (atC_3 _ _ _) rfl pI (Nat.le_of_ble_eq_true rfl) (ptC_5 _ _ _ _) d_T_build_23 ?_
    refine x_aload_n (pc := 26) X d_T_build_26 0 rfl ?_
    refine x_get (pc := 27) X tb_T 3 5 (by decide) mw_31 (atC_3 _ _ _) rfl d_T_build_27 ?_
    refine x_iconst (pc := 30) (v := 0) X d_T_build_30 (by decide) ?_
    refine x_aload_n (pc := 31) X d_T_build_31 0 rfl ?_
    refine x_get (pc := 32) X tb_T 3 4 (by decide) mw_39 (atC_3 _ _ _) rfl d_T_build_32 ?_
    refine x_iconst (pc := 35) (v := 0) X d_T_build_35 (by decide) ?_
    refine x_iload_n (pc := 36) X d_T_build_36 2 rfl ?_
    obtain ⟨h2, hw⟩ := hw
    refine x_copy (pc := 37) (ws' := (wC (zI Z) q (uA (us (us σ1 4 (σ1.1 2)) 5 r1) 1 (va_cpy ((us (us σ1 4 (σ1.1 2)) 5 r1).2 2) ((us (us σ1 4 (σ1.1 2)) 5 r1).2 1) ((0 : Int32).toNatClampNeg) ((0 : Int32).toNatClampNeg) r1.toNatClampNeg)))) X mw_40 mw_41 mw_42 mw_43 5 4 (atC_5 _ _ _) (atC_4 _ _ _) h2 (Nat.le_of_ble_eq_true rfl) (Nat.le_of_ble_eq_true rfl) (stC_4 _ _ _ _) d_T_build_37 ?_
    refine x_aload_n (pc := 40) X d_T_build_40 0 rfl ?_
    refine x_aload_n (pc := 41) X d_T_build_41 1 rfl ?_
    refine x_cvv (pc := 42) X [.ref (q 1)] (c_T_laySteps_1 (zl Z) (zD Z) (zI Z) q (uA (us (us σ1 4 (σ1.1 2)) 5 r1) 1 (va_cpy ((us (us σ1 4 (σ1.1 2)) 5 r1).2 2) ((us (us σ1 4 (σ1.1 2)) 5 r1).2 1) ((0 : Int32).toNatClampNeg) ((0 : Int32).toNatClampNeg) r1.toNatClampNeg)) _ hw) mv_T_laySteps tb_T 3 (atC_3 _ _ _) mw_45 d_T_build_42 rfl (Nat.le_of_ble_eq_true rfl) ⟨Nat.le_of_ble_eq_true rfl, Nat.le_of_ble_eq_true rfl⟩ ⟨rfl, rfl⟩ ⟨Nat.zero_le _, Nat.zero_le _⟩ ?_
    intro σ3 hw
    refine x_aload_n (pc := 45) X d_T_build_45 0 rfl ?_
    refine x_cvv (pc := 46) X [] (c_T_partSets (zl Z) (zD Z) (zI Z) q σ3 _ hw) mv_T_partSets tb_T 3 (atC_3 _ _ _) mw_65 d_T_build_46 rfl (Nat.le_of_ble_eq_true rfl) ⟨Nat.le_of_ble_eq_true rfl, Nat.le_of_ble_eq_true rfl⟩ ⟨rfl, rfl⟩ ⟨Nat.zero_le _, Nat.zero_le _⟩ ?_
    intro σ4 hw
    refine x_aload_n (pc := 49) X d_T_build_49 0 rfl ?_
    refine x_cvv (pc := 50) X [] (c_T_numberStates (zl Z) (zD Z) (zI Z) q σ4 _ hw) mv_T_numberStates tb_T 3 (atC_3 _ _ _) mw_70 d_T_build_50 rfl (Nat.le_of_ble_eq_true rfl) ⟨Nat.le_of_ble_eq_true rfl, Nat.le_of_ble_eq_true rfl⟩ ⟨rfl, rfl⟩ ⟨Nat.zero_le _, Nat.zero_le _⟩ ?_
    intro σ5 hw
    refine x_iconst (pc := 53) (v := 1) X d_T_build_53 (by decide) ?_
    exact hR _ _ _ _ d_T_build_54 rfl hw
  · have hw := hw.2 c
    refine x_iconst (pc := 11) (v := 0) X d_T_build_11 (by decide) ?_
    exact hR _ _ _ _ d_T_build_12 rfl hw
def rm_W_make : Room := { frames := 6, cells := 0, slots := 0, locals := 136 }
set_option maxHeartbeats 4000000 in
set_option maxRecDepth 100000 in
theorem c_W_make (l : Launch) (D : va_G) (cI : ClassId) (q : Nat → Nat) (σ : St) (post : Int32 → St → Prop) (hw : wp_W_make σ post) : CI l D cI (wC cI q) y_W_make b_W_make 1 .int rm_W_make [.ref (q 0)] σ post := by
  refine CI_of (by decide) (Nat.le_of_ble_eq_true rfl) ?_
  intro Z hZl hZD hZI X hR
  subst hZl; subst hZD; subst hZI
  unfold wp_W_make at hw
  show VV Z 0 0 (wC (zI Z) q σ) [(0, .ref (q 0))] 0 []
  refine x_aload_n (pc := 0) X d_W_make_0 0 rfl ?_
  refine x_get (pc := 1) X tb_W 0 1 (by decide) mw_30 (atC_0 _ _ _) rfl d_W_make_1 ?_
  refine x_aload_n (pc := 4) X d_W_make_4 0 rfl ?_
  refine x_get (pc := 5) X tb_W 0 0 (by decide) mw_0 (atC_0 _ _ _) rfl d_W_make_5 ?_
  refine x_cni (pc := 8) X [.ref (q 1)] (c_T_build_1 (zl Z) (zD Z) (zI Z) q σ _ hw) mv_T_build tb_T 3 (atC_3 _ _ _) nw_71 d_W_make_8 rfl (Nat.le_of_ble_eq_true rfl) ⟨Nat.le_of_ble_eq_true rfl, Nat.le_of_ble_eq_true rfl⟩ ⟨rfl, rfl⟩ ⟨Nat.zero_le _, Nat.zero_le _⟩ ?_
  intro r1 σ1 hw
  refine x_if_ne (pc := 11) (tgt := 16) X d_W_make_11 (by decide) (fun c => ?_) (fun c => ?_)
  · have hw := hw.1 c
    refine x_aload_n (pc := 16) X d_W_make_16 0 rfl ?_
    refine x_iconst (pc := 17) (v := 0) X d_W_make_17 (by decide) ?_
    refine x_put (pc := 18) (ws' := (wC (zI Z) q (us σ1 0 0))) X tb_W 0 2 (by decide) mw_72 (atC_0 _ _ _) rfl pI (Nat.le_of_ble_eq_true rfl) (ptC_0 _ _ _ _) d_W_make_18 ?_
    refine x_aload_n (pc := 21) X d_W_make_21 0 rfl ?_
    refine x_get (pc := 22) X tb_W 0 1 (by decide) mw_30 (atC_0 _ _ _) rfl d_W_make_22 ?_
    refine x_getN (pc := 25) X tb_T 3 2 (by decide) nw_73 (atC_3 _ _ _) rfl d_W_make_25 ?_
    exact hR _ _ _ _ d_W_make_28 (vp_nar_int _) hw
  · have hw := hw.2 c
    refine x_iconst (pc := 14) (v := (-1)) X d_W_make_14 (by decide) ?_
    exact hR _ _ _ _ d_W_make_15 (vp_nar_int _) hw
def rm_M_led : Room := { frames := 0, cells := 0, slots := 0, locals := 0 }
set_option maxHeartbeats 4000000 in
set_option maxRecDepth 100000 in
theorem wL_M_led_5 {Z : ZT} {q : Nat → Nat} {post : Int32 → St → Prop} (X : Cx Z "WayTableModel" b_M_led rm_M_led 5) (hR : RI Z b_M_led .int (wM (zI Z) q) post) : ∀ (n : Nat) (x1 x2 x3 x4 : Int32) (σ : St), L_M_led_5 post n x1 x2 x3 x4 σ → VV Z 0 0 (wM (zI Z) q σ) [(0, .ref (q 0)), (1, .int x1), (2, .int x2), (3, .int x3), (4, .int x4)] 5 [] := by
  intro n
  induction n with
  | zero => intro x1 x2 x3 x4 σ hw; exact False.elim hw
  | succ n ih =>
    intro x1 x2 x3 x4 σ hw
    unfold L_M_led_5 at hw
    refine x_iload (pc := 5) X d_M_led_5 4 rfl ?_
    refine x_aload_n (pc := 7) X d_M_led_7 0 rfl ?_
    refine x_get (pc := 8) X tb_M 0 1 (by decide) mw_8 (atM_0 _ _ _) rfl d_M_led_8 ?_
    refine x_icmp_ge (pc := 11) (tgt := 49) X d_M_led_11 (by decide) (fun c => ?_) (fun c => ?_)
    · have hw := hw.1 c
      refine x_iload_n (pc := 49) X d_M_led_49 3 rfl ?_
      exact hR _ _ _ _ d_M_led_50 (vp_nar_int _) hw
    · have hw := hw.2 c
      refine x_iload_n (pc := 14) X d_M_led_14 3 rfl ?_
      refine x_iload_n (pc := 15) X d_M_led_15 1 rfl ?_
      refine x_iload (pc := 16) X d_M_led_16 4 rfl ?_
      refine x_ishr (pc := 18) X d_M_led_18 ?_
      refine x_iconst (pc := 19) (v := 1) X d_M_led_19 (by decide) ?_
      refine x_iand (pc := 20) X d_M_led_20 ?_
      refine x_iconst (pc := 21) (v := 1) X d_M_led_21 (by decide) ?_
      refine x_icmp_ne (pc := 22) (tgt := 40) X d_M_led_22 (by decide) (fun c => ?_) (fun c => ?_)
      · have hw := hw.1 c
        refine x_iconst (pc := 40) (v := 0) X d_M_led_40 (by decide) ?_
        refine x_ior (pc := 41) X d_M_led_41 ?_
        refine x_istore_n (pc := 42) (lv' := [(0, .ref (q 0)), (1, .int x1), (2, .int x2), (3, .int (x3 ||| 0)), (4, .int x4)]) X d_M_led_42 (by decide) [1, 2, 3, 0, 4] rfl ?_
        refine x_iinc (pc := 43) (d := 1) (lv' := [(0, .ref (q 0)), (1, .int x1), (2, .int x2), (3, .int (x3 ||| 0)), (4, .int (x4 + 1))]) X d_M_led_43 4 rfl (by decide) (by decide) [1, 2, 3, 4, 0] rfl ?_
        refine x_goto (pc := 46) (tgt := 5) X d_M_led_46 (by decide) ?_
        exact ih x1 x2 (x3 ||| 0) (x4 + 1) σ hw
      · have hw := hw.2 c
        refine x_aload_n (pc := 25) X d_M_led_25 0 rfl ?_
        refine x_get (pc := 26) X tb_M 0 4 (by decide) mw_11 (atM_0 _ _ _) rfl d_M_led_26 ?_
        refine x_bipush (pc := 29) (v := (nI 24)) X d_M_led_29 (by decide) ?_
        refine x_iload_n (pc := 31) X d_M_led_31 2 rfl ?_
        refine x_imul (pc := 32) X d_M_led_32 ?_
        refine x_iload (pc := 33) X d_M_led_33 4 rfl ?_
        refine x_iadd (pc := 35) X d_M_led_35 ?_
        obtain ⟨h1, hw⟩ := hw
        refine x_iald (pc := 36) X 1 (atM_1 _ _ _) h1 d_M_led_36 ?_
        refine x_goto (pc := 37) (tgt := 41) X d_M_led_37 (by decide) ?_
        refine x_ior (pc := 41) X d_M_led_41 ?_
        refine x_istore_n (pc := 42) (lv' := [(0, .ref (q 0)), (1, .int x1), (2, .int x2), (3, .int (x3 ||| (σ.2 0 (((nI 24) * x2) + x4).toNatClampNeg))), (4, .int x4)]) X d_M_led_42 (by decide) [1, 2, 3, 0, 4] rfl ?_
        refine x_iinc (pc := 43) (d := 1) (lv' := [(0, .ref (q 0)), (1, .int x1), (2, .int x2), (3, .int (x3 ||| (σ.2 0 (((nI 24) * x2) + x4).toNatClampNeg))), (4, .int (x4 + 1))]) X d_M_led_43 4 rfl (by decide) (by decide) [1, 2, 3, 4, 0] rfl ?_
        refine x_goto (pc := 46) (tgt := 5) X d_M_led_46 (by decide) ?_
        exact ih x1 x2 (x3 ||| (σ.2 0 (((nI 24) * x2) + x4).toNatClampNeg)) (x4 + 1) σ hw
set_option maxHeartbeats 4000000 in
set_option maxRecDepth 100000 in
theorem c_M_led (l : Launch) (D : va_G) (cI : ClassId) (q : Nat → Nat) (σ : St) (x1 x2 : Int32) (post : Int32 → St → Prop) (hw : wp_M_led x1 x2 σ post) : CI l D cI (wM cI q) y_M_led b_M_led 5 .int rm_M_led [.ref (q 0), .int x1, .int x2] σ post := by
  refine CI_of (by decide) (Nat.le_of_ble_eq_true rfl) ?_
  intro Z hZl hZD hZI X hR
  subst hZl; subst hZD; subst hZI
  unfold wp_M_led at hw
  show VV Z 0 0 (wM (zI Z) q σ) [(0, .ref (q 0)), (1, .int x1), (2, .int x2)] 0 []
  refine x_iconst (pc := 0) (v := 0) X d_M_led_0 (by decide) ?_
  refine x_istore_n (pc := 1) (lv' := [(0, .ref (q 0)), (1, .int x1), (2, .int x2), (3, .int 0)]) X d_M_led_1 (by decide) [1, 2, 3, 0] rfl ?_
  refine x_iconst (pc := 2) (v := 0) X d_M_led_2 (by decide) ?_
  refine x_istore (pc := 3) (lv' := [(0, .ref (q 0)), (1, .int x1), (2, .int x2), (3, .int 0), (4, .int 0)]) X d_M_led_3 (by decide) [1, 2, 3, 4, 0] rfl ?_
  obtain ⟨n2, hw⟩ := hw
  exact wL_M_led_5 X hR n2 x1 x2 0 0 σ hw
end
section
def rm_M_follow : Room := { frames := 1, cells := 0, slots := 0, locals := 24 }
set_option maxHeartbeats 4000000 in
set_option maxRecDepth 100000 in
theorem wL_M_follow_47 {Z : ZT} {q : Nat → Nat} {post : Int32 → St → Prop} {K : Int32 → Int32 → Int32 → St → Prop} (X : Cx Z "WayTableModel" b_M_follow rm_M_follow 6) (hR : RI Z b_M_follow .int (wM (zI Z) q) post) (hK : ∀ (x1 x2 x3 : Int32) (σ : St), K x1 x2 x3 σ → VV Z 0 0 (wM (zI Z) q σ) [(0, .ref (q 0)), (1, .int x1), (2, .int x2), (3, .int x3)] 23 []) : ∀ (n : Nat) (x1 x2 x3 x4 x5 : Int32) (σ : St), L_M_follow_47 post K n x1 x2 x3 x4 x5 σ → VV Z 0 0 (wM (zI Z) q σ) [(0, .ref (q 0)), (1, .int x1), (2, .int x2), (3, .int x3), (4, .int x4), (5, .int x5)] 47 [] := by
  intro n
  induction n with
  | zero => intro x1 x2 x3 x4 x5 σ hw; exact False.elim hw
  | succ n ih =>
    intro x1 x2 x3 x4 x5 σ hw
    unfold L_M_follow_47 at hw
    refine x_iload (pc := 47) X d_M_follow_47 5 rfl ?_
    refine x_iload_n (pc := 49) X d_M_follow_49 1 rfl ?_
    refine x_icmp_ge (pc := 50) (tgt := 71) X d_M_follow_50 (by decide) (fun c => ?_) (fun c => ?_)
    · have hw := hw.1 c
      refine x_iload (pc := 71) X d_M_follow_71 4 rfl ?_
      refine x_if_eq (pc := 73) (tgt := 101) X d_M_follow_73 (by decide) (fun c => ?_) (fun c => ?_)
      · have hw := hw.1 c
        refine x_aload_n (pc := 101) X d_M_follow_101 0 rfl ?_
        refine x_get (pc := 102) X tb_M 0 16 (by decide) mw_76 (atM_0 _ _ _) rfl d_M_follow_102 ?_
        refine x_bipush (pc := 105) (v := (nI 40)) X d_M_follow_105 (by decide) ?_
        refine x_iload_n (pc := 107) X d_M_follow_107 2 rfl ?_
        refine x_imul (pc := 108) X d_M_follow_108 ?_
        refine x_iload_n (pc := 109) X d_M_follow_109 3 rfl ?_
        refine x_iadd (pc := 110) X d_M_follow_110 ?_
        refine x_iload (pc := 111) X d_M_follow_111 4 rfl ?_
        refine x_if_ne (pc := 113) (tgt := 120) X d_M_follow_113 (by decide) (fun c => ?_) (fun c => ?_)
        · have hw := hw.1 c
          refine x_iload (pc := 120) X d_M_follow_120 5 rfl ?_
          obtain ⟨h4, hw⟩ := hw
          refine x_iast (pc := 122) (ws' := (wM (zI Z) q (ua σ 8 (((nI 40) * x2) + x3).toNatClampNeg x5))) X 9 (atM_9 _ _ _) h4 (stM_9 _ _ _ _) d_M_follow_122 ?_
          refine x_iinc (pc := 123) (d := 1) (lv' := [(0, .ref (q 0)), (1, .int x1), (2, .int x2), (3, .int (x3 + 1)), (4, .int x4), (5, .int x5)]) X d_M_follow_123 3 rfl (by decide) (by decide) [1, 2, 3, 0, 4, 5] rfl ?_
          refine x_goto (pc := 126) (tgt := 23) X d_M_follow_126 (by decide) ?_
          refine x_drop [0, 1, 2, 3] rfl ?_
          exact hK x1 x2 (x3 + 1) (ua σ 8 (((nI 40) * x2) + x3).toNatClampNeg x5) hw
        · have hw := hw.2 c
          refine x_iconst (pc := 116) (v := (-1)) X d_M_follow_116 (by decide) ?_
          refine x_goto (pc := 117) (tgt := 122) X d_M_follow_117 (by decide) ?_
          obtain ⟨h5, hw⟩ := hw
          refine x_iast (pc := 122) (ws' := (wM (zI Z) q (ua σ 8 (((nI 40) * x2) + x3).toNatClampNeg (-1)))) X 9 (atM_9 _ _ _) h5 (stM_9 _ _ _ _) d_M_follow_122 ?_
          refine x_iinc (pc := 123) (d := 1) (lv' := [(0, .ref (q 0)), (1, .int x1), (2, .int x2), (3, .int (x3 + 1)), (4, .int x4), (5, .int x5)]) X d_M_follow_123 3 rfl (by decide) (by decide) [1, 2, 3, 0, 4, 5] rfl ?_
          refine x_goto (pc := 126) (tgt := 23) X d_M_follow_126 (by decide) ?_
          refine x_drop [0, 1, 2, 3] rfl ?_
          exact hK x1 x2 (x3 + 1) (ua σ 8 (((nI 40) * x2) + x3).toNatClampNeg (-1)) hw
      · have hw := hw.2 c
        refine x_iload (pc := 76) X d_M_follow_76 5 rfl ?_
        refine x_iload_n (pc := 78) X d_M_follow_78 1 rfl ?_
        refine x_icmp_ne (pc := 79) (tgt := 101) X d_M_follow_79 (by decide) (fun c => ?_) (fun c => ?_)
        · have hw := hw.1 c
          refine x_aload_n (pc := 101) X d_M_follow_101 0 rfl ?_
          refine x_get (pc := 102) X tb_M 0 16 (by decide) mw_76 (atM_0 _ _ _) rfl d_M_follow_102 ?_
          refine x_bipush (pc := 105) (v := (nI 40)) X d_M_follow_105 (by decide) ?_
          refine x_iload_n (pc := 107) X d_M_follow_107 2 rfl ?_
          refine x_imul (pc := 108) X d_M_follow_108 ?_
          refine x_iload_n (pc := 109) X d_M_follow_109 3 rfl ?_
          refine x_iadd (pc := 110) X d_M_follow_110 ?_
          refine x_iload (pc := 111) X d_M_follow_111 4 rfl ?_
          refine x_if_ne (pc := 113) (tgt := 120) X d_M_follow_113 (by decide) (fun c => ?_) (fun c => ?_)
          · have hw := hw.1 c
            refine x_iload (pc := 120) X d_M_follow_120 5 rfl ?_
            obtain ⟨h6, hw⟩ := hw
            refine x_iast (pc := 122) (ws' := (wM (zI Z) q (ua σ 8 (((nI 40) * x2) + x3).toNatClampNeg x5))) X 9 (atM_9 _ _ _) h6 (stM_9 _ _ _ _) d_M_follow_122 ?_
            refine x_iinc (pc := 123) (d := 1) (lv' := [(0, .ref (q 0)), (1, .int x1), (2, .int x2), (3, .int (x3 + 1)), (4, .int x4), (5, .int x5)]) X d_M_follow_123 3 rfl (by decide) (by decide) [1, 2, 3, 0, 4, 5] rfl ?_
            refine x_goto (pc := 126) (tgt := 23) X d_M_follow_126 (by decide) ?_
            refine x_drop [0, 1, 2, 3] rfl ?_
            exact hK x1 x2 (x3 + 1) (ua σ 8 (((nI 40) * x2) + x3).toNatClampNeg x5) hw
          · have hw := hw.2 c
            refine x_iconst (pc := 116) (v := (-1)) X d_M_follow_116 (by decide) ?_
            refine x_goto (pc := 117) (tgt := 122) X d_M_follow_117 (by decide) ?_
            obtain ⟨h7, hw⟩ := hw
            refine x_iast (pc := 122) (ws' := (wM (zI Z) q (ua σ 8 (((nI 40) * x2) + x3).toNatClampNeg (-1)))) X 9 (atM_9 _ _ _) h7 (stM_9 _ _ _ _) d_M_follow_122 ?_
            refine x_iinc (pc := 123) (d := 1) (lv' := [(0, .ref (q 0)), (1, .int x1), (2, .int x2), (3, .int (x3 + 1)), (4, .int x4), (5, .int x5)]) X d_M_follow_123 3 rfl (by decide) (by decide) [1, 2, 3, 0, 4, 5] rfl ?_
            refine x_goto (pc := 126) (tgt := 23) X d_M_follow_126 (by decide) ?_
            refine x_drop [0, 1, 2, 3] rfl ?_
            exact hK x1 x2 (x3 + 1) (ua σ 8 (((nI 40) * x2) + x3).toNatClampNeg (-1)) hw
        · have hw := hw.2 c
          refine x_iload_n (pc := 82) X d_M_follow_82 1 rfl ?_
          refine x_bipush (pc := 83) (v := (nI 120)) X d_M_follow_83 (by decide) ?_
          refine x_icmp_ne (pc := 85) (tgt := 90) X d_M_follow_85 (by decide) (fun c => ?_) (fun c => ?_)
          · have hw := hw.1 c
            refine x_aload_n (pc := 90) X d_M_follow_90 0 rfl ?_
            refine x_get (pc := 91) X tb_M 0 15 (by decide) mw_74 (atM_0 _ _ _) rfl d_M_follow_91 ?_
            refine x_iload_n (pc := 94) X d_M_follow_94 1 rfl ?_
            refine x_iload (pc := 95) X d_M_follow_95 4 rfl ?_
            obtain ⟨h8, hw⟩ := hw
            refine x_iast (pc := 97) (ws' := (wM (zI Z) q (ua σ 7 x1.toNatClampNeg x4))) X 8 (atM_8 _ _ _) h8 (stM_8 _ _ _ _) d_M_follow_97 ?_
            refine x_iinc (pc := 98) (d := 1) (lv' := [(0, .ref (q 0)), (1, .int (x1 + 1)), (2, .int x2), (3, .int x3), (4, .int x4), (5, .int x5)]) X d_M_follow_98 1 rfl (by decide) (by decide) [1, 0, 2, 3, 4, 5] rfl ?_
            refine x_aload_n (pc := 101) X d_M_follow_101 0 rfl ?_
            refine x_get (pc := 102) X tb_M 0 16 (by decide) mw_76 (atM_0 _ _ _) rfl d_M_follow_102 ?_
            refine x_bipush (pc := 105) (v := (nI 40)) X d_M_follow_105 (by decide) ?_
            refine x_iload_n (pc := 107) X d_M_follow_107 2 rfl ?_
            refine x_imul (pc := 108) X d_M_follow_108 ?_
            refine x_iload_n (pc := 109) X d_M_follow_109 3 rfl ?_
            refine x_iadd (pc := 110) X d_M_follow_110 ?_
            refine x_iload (pc := 111) X d_M_follow_111 4 rfl ?_
            refine x_if_ne (pc := 113) (tgt := 120) X d_M_follow_113 (by decide) (fun c => ?_) (fun c => ?_)
            · have hw := hw.1 c
              refine x_iload (pc := 120) X d_M_follow_120 5 rfl ?_
              obtain ⟨h9, hw⟩ := hw
              refine x_iast (pc := 122) (ws' := (wM (zI Z) q (ua (ua σ 7 x1.toNatClampNeg x4) 8 (((nI 40) * x2) + x3).toNatClampNeg x5))) X 9 (atM_9 _ _ _) h9 (stM_9 _ _ _ _) d_M_follow_122 ?_
              refine x_iinc (pc := 123) (d := 1) (lv' := [(0, .ref (q 0)), (1, .int (x1 + 1)), (2, .int x2), (3, .int (x3 + 1)), (4, .int x4), (5, .int x5)]) X d_M_follow_123 3 rfl (by decide) (by decide) [1, 2, 3, 0, 4, 5] rfl ?_
              refine x_goto (pc := 126) (tgt := 23) X d_M_follow_126 (by decide) ?_
              refine x_drop [0, 1, 2, 3] rfl ?_
              exact hK (x1 + 1) x2 (x3 + 1) (ua (ua σ 7 x1.toNatClampNeg x4) 8 (((nI 40) * x2) + x3).toNatClampNeg x5) hw
            · have hw := hw.2 c
              refine x_iconst (pc := 116) (v := (-1)) X d_M_follow_116 (by decide) ?_
              refine x_goto (pc := 117) (tgt := 122) X d_M_follow_117 (by decide) ?_
              obtain ⟨h10, hw⟩ := hw
              refine x_iast (pc := 122) (ws' := (wM (zI Z) q (ua (ua σ 7 x1.toNatClampNeg x4) 8 (((nI 40) * x2) + x3).toNatClampNeg (-1)))) X 9 (atM_9 _ _ _) h10 (stM_9 _ _ _ _) d_M_follow_122 ?_
              refine x_iinc (pc := 123) (d := 1) (lv' := [(0, .ref (q 0)), (1, .int (x1 + 1)), (2, .int x2), (3, .int (x3 + 1)), (4, .int x4), (5, .int x5)]) X d_M_follow_123 3 rfl (by decide) (by decide) [1, 2, 3, 0, 4, 5] rfl ?_
              refine x_goto (pc := 126) (tgt := 23) X d_M_follow_126 (by decide) ?_
              refine x_drop [0, 1, 2, 3] rfl ?_
              exact hK (x1 + 1) x2 (x3 + 1) (ua (ua σ 7 x1.toNatClampNeg x4) 8 (((nI 40) * x2) + x3).toNatClampNeg (-1)) hw
          · have hw := hw.2 c
            refine x_iconst (pc := 88) (v := (-1)) X d_M_follow_88 (by decide) ?_
            exact hR _ _ _ _ d_M_follow_89 (vp_nar_int _) hw
    · have hw := hw.2 c
      refine x_aload_n (pc := 53) X d_M_follow_53 0 rfl ?_
      refine x_get (pc := 54) X tb_M 0 15 (by decide) mw_74 (atM_0 _ _ _) rfl d_M_follow_54 ?_
      refine x_iload (pc := 57) X d_M_follow_57 5 rfl ?_
      obtain ⟨h11, hw⟩ := hw
      refine x_iald (pc := 59) X 8 (atM_8 _ _ _) h11 d_M_follow_59 ?_
      refine x_iload (pc := 60) X d_M_follow_60 4 rfl ?_
      refine x_icmp_eq (pc := 62) (tgt := 71) X d_M_follow_62 (by decide) (fun c => ?_) (fun c => ?_)
      · have hw := hw.1 c
        refine x_iload (pc := 71) X d_M_follow_71 4 rfl ?_
        refine x_if_eq (pc := 73) (tgt := 101) X d_M_follow_73 (by decide) (fun c => ?_) (fun c => ?_)
        · have hw := hw.1 c
          refine x_aload_n (pc := 101) X d_M_follow_101 0 rfl ?_
          refine x_get (pc := 102) X tb_M 0 16 (by decide) mw_76 (atM_0 _ _ _) rfl d_M_follow_102 ?_
          refine x_bipush (pc := 105) (v := (nI 40)) X d_M_follow_105 (by decide) ?_
          refine x_iload_n (pc := 107) X d_M_follow_107 2 rfl ?_
          refine x_imul (pc := 108) X d_M_follow_108 ?_
          refine x_iload_n (pc := 109) X d_M_follow_109 3 rfl ?_
          refine x_iadd (pc := 110) X d_M_follow_110 ?_
          refine x_iload (pc := 111) X d_M_follow_111 4 rfl ?_
          refine x_if_ne (pc := 113) (tgt := 120) X d_M_follow_113 (by decide) (fun c => ?_) (fun c => ?_)
          · have hw := hw.1 c
            refine x_iload (pc := 120) X d_M_follow_120 5 rfl ?_
            obtain ⟨h12, hw⟩ := hw
            refine x_iast (pc := 122) (ws' := (wM (zI Z) q (ua σ 8 (((nI 40) * x2) + x3).toNatClampNeg x5))) X 9 (atM_9 _ _ _) h12 (stM_9 _ _ _ _) d_M_follow_122 ?_
            refine x_iinc (pc := 123) (d := 1) (lv' := [(0, .ref (q 0)), (1, .int x1), (2, .int x2), (3, .int (x3 + 1)), (4, .int x4), (5, .int x5)]) X d_M_follow_123 3 rfl (by decide) (by decide) [1, 2, 3, 0, 4, 5] rfl ?_
            refine x_goto (pc := 126) (tgt := 23) X d_M_follow_126 (by decide) ?_
            refine x_drop [0, 1, 2, 3] rfl ?_
            exact hK x1 x2 (x3 + 1) (ua σ 8 (((nI 40) * x2) + x3).toNatClampNeg x5) hw
          · have hw := hw.2 c
            refine x_iconst (pc := 116) (v := (-1)) X d_M_follow_116 (by decide) ?_
            refine x_goto (pc := 117) (tgt := 122) X d_M_follow_117 (by decide) ?_
            obtain ⟨h13, hw⟩ := hw
            refine x_iast (pc := 122) (ws' := (wM (zI Z) q (ua σ 8 (((nI 40) * x2) + x3).toNatClampNeg (-1)))) X 9 (atM_9 _ _ _) h13 (stM_9 _ _ _ _) d_M_follow_122 ?_
            refine x_iinc (pc := 123) (d := 1) (lv' := [(0, .ref (q 0)), (1, .int x1), (2, .int x2), (3, .int (x3 + 1)), (4, .int x4), (5, .int x5)]) X d_M_follow_123 3 rfl (by decide) (by decide) [1, 2, 3, 0, 4, 5] rfl ?_
            refine x_goto (pc := 126) (tgt := 23) X d_M_follow_126 (by decide) ?_
            refine x_drop [0, 1, 2, 3] rfl ?_
            exact hK x1 x2 (x3 + 1) (ua σ 8 (((nI 40) * x2) + x3).toNatClampNeg (-1)) hw
        · have hw := hw.2 c
          refine x_iload (pc := 76) X d_M_follow_76 5 rfl ?_
          refine x_iload_n (pc := 78) X d_M_follow_78 1 rfl ?_
          refine x_icmp_ne (pc := 79) (tgt := 101) X d_M_follow_79 (by decide) (fun c => ?_) (fun c => ?_)
          · have hw := hw.1 c
            refine x_aload_n (pc := 101) X d_M_follow_101 0 rfl ?_
            refine x_get (pc := 102) X tb_M 0 16 (by decide) mw_76 (atM_0 _ _ _) rfl d_M_follow_102 ?_
            refine x_bipush (pc := 105) (v := (nI 40)) X d_M_follow_105 (by decide) ?_
            refine x_iload_n (pc := 107) X d_M_follow_107 2 rfl ?_
            refine x_imul (pc := 108) X d_M_follow_108 ?_
            refine x_iload_n (pc := 109) X d_M_follow_109 3 rfl ?_
            refine x_iadd (pc := 110) X d_M_follow_110 ?_
            refine x_iload (pc := 111) X d_M_follow_111 4 rfl ?_
            refine x_if_ne (pc := 113) (tgt := 120) X d_M_follow_113 (by decide) (fun c => ?_) (fun c => ?_)
            · have hw := hw.1 c
              refine x_iload (pc := 120) X d_M_follow_120 5 rfl ?_
              obtain ⟨h14, hw⟩ := hw
              refine x_iast (pc := 122) (ws' := (wM (zI Z) q (ua σ 8 (((nI 40) * x2) + x3).toNatClampNeg x5))) X 9 (atM_9 _ _ _) h14 (stM_9 _ _ _ _) d_M_follow_122 ?_
              refine x_iinc (pc := 123) (d := 1) (lv' := [(0, .ref (q 0)), (1, .int x1), (2, .int x2), (3, .int (x3 + 1)), (4, .int x4), (5, .int x5)]) X d_M_follow_123 3 rfl (by decide) (by decide) [1, 2, 3, 0, 4, 5] rfl ?_
              refine x_goto (pc := 126) (tgt := 23) X d_M_follow_126 (by decide) ?_
              refine x_drop [0, 1, 2, 3] rfl ?_
              exact hK x1 x2 (x3 + 1) (ua σ 8 (((nI 40) * x2) + x3).toNatClampNeg x5) hw
            · have hw := hw.2 c
              refine x_iconst (pc := 116) (v := (-1)) X d_M_follow_116 (by decide) ?_
              refine x_goto (pc := 117) (tgt := 122) X d_M_follow_117 (by decide) ?_
              obtain ⟨h15, hw⟩ := hw
              refine x_iast (pc := 122) (ws' := (wM (zI Z) q (ua σ 8 (((nI 40) * x2) + x3).toNatClampNeg (-1)))) X 9 (atM_9 _ _ _) h15 (stM_9 _ _ _ _) d_M_follow_122 ?_
              refine x_iinc (pc := 123) (d := 1) (lv' := [(0, .ref (q 0)), (1, .int x1), (2, .int x2), (3, .int (x3 + 1)), (4, .int x4), (5, .int x5)]) X d_M_follow_123 3 rfl (by decide) (by decide) [1, 2, 3, 0, 4, 5] rfl ?_
              refine x_goto (pc := 126) (tgt := 23) X d_M_follow_126 (by decide) ?_
              refine x_drop [0, 1, 2, 3] rfl ?_
              exact hK x1 x2 (x3 + 1) (ua σ 8 (((nI 40) * x2) + x3).toNatClampNeg (-1)) hw
          · have hw := hw.2 c
            refine x_iload_n (pc := 82) X d_M_follow_82 1 rfl ?_
            refine x_bipush (pc := 83) (v := (nI 120)) X d_M_follow_83 (by decide) ?_
            refine x_icmp_ne (pc := 85) (tgt := 90) X d_M_follow_85 (by decide) (fun c => ?_) (fun c => ?_)
            · have hw := hw.1 c
              refine x_aload_n (pc := 90) X d_M_follow_90 0 rfl ?_
              refine x_get (pc := 91) X tb_M 0 15 (by decide) mw_74 (atM_0 _ _ _) rfl d_M_follow_91 ?_
              refine x_iload_n (pc := 94) X d_M_follow_94 1 rfl ?_
              refine x_iload (pc := 95) X d_M_follow_95 4 rfl ?_
              obtain ⟨h16, hw⟩ := hw
              refine x_iast (pc := 97) (ws' := (wM (zI Z) q (ua σ 7 x1.toNatClampNeg x4))) X 8 (atM_8 _ _ _) h16 (stM_8 _ _ _ _) d_M_follow_97 ?_
              refine x_iinc (pc := 98) (d := 1) (lv' := [(0, .ref (q 0)), (1, .int (x1 + 1)), (2, .int x2), (3, .int x3), (4, .int x4), (5, .int x5)]) X d_M_follow_98 1 rfl (by decide) (by decide) [1, 0, 2, 3, 4, 5] rfl ?_
              refine x_aload_n (pc := 101) X d_M_follow_101 0 rfl ?_
              refine x_get (pc := 102) X tb_M 0 16 (by decide) mw_76 (atM_0 _ _ _) rfl d_M_follow_102 ?_
              refine x_bipush (pc := 105) (v := (nI 40)) X d_M_follow_105 (by decide) ?_
              refine x_iload_n (pc := 107) X d_M_follow_107 2 rfl ?_
              refine x_imul (pc := 108) X d_M_follow_108 ?_
              refine x_iload_n (pc := 109) X d_M_follow_109 3 rfl ?_
              refine x_iadd (pc := 110) X d_M_follow_110 ?_
              refine x_iload (pc := 111) X d_M_follow_111 4 rfl ?_
              refine x_if_ne (pc := 113) (tgt := 120) X d_M_follow_113 (by decide) (fun c => ?_) (fun c => ?_)
              · have hw := hw.1 c
                refine x_iload (pc := 120) X d_M_follow_120 5 rfl ?_
                obtain ⟨h17, hw⟩ := hw
                refine x_iast (pc := 122) (ws' := (wM (zI Z) q (ua (ua σ 7 x1.toNatClampNeg x4) 8 (((nI 40) * x2) + x3).toNatClampNeg x5))) X 9 (atM_9 _ _ _) h17 (stM_9 _ _ _ _) d_M_follow_122 ?_
                refine x_iinc (pc := 123) (d := 1) (lv' := [(0, .ref (q 0)), (1, .int (x1 + 1)), (2, .int x2), (3, .int (x3 + 1)), (4, .int x4), (5, .int x5)]) X d_M_follow_123 3 rfl (by decide) (by decide) [1, 2, 3, 0, 4, 5] rfl ?_
                refine x_goto (pc := 126) (tgt := 23) X d_M_follow_126 (by decide) ?_
                refine x_drop [0, 1, 2, 3] rfl ?_
                exact hK (x1 + 1) x2 (x3 + 1) (ua (ua σ 7 x1.toNatClampNeg x4) 8 (((nI 40) * x2) + x3).toNatClampNeg x5) hw
              · have hw := hw.2 c
                refine x_iconst (pc := 116) (v := (-1)) X d_M_follow_116 (by decide) ?_
                refine x_goto (pc := 117) (tgt := 122) X d_M_follow_117 (by decide) ?_
                obtain ⟨h18, hw⟩ := hw
                refine x_iast (pc := 122) (ws' := (wM (zI Z) q (ua (ua σ 7 x1.toNatClampNeg x4) 8 (((nI 40) * x2) + x3).toNatClampNeg (-1)))) X 9 (atM_9 _ _ _) h18 (stM_9 _ _ _ _) d_M_follow_122 ?_
                refine x_iinc (pc := 123) (d := 1) (lv' := [(0, .ref (q 0)), (1, .int (x1 + 1)), (2, .int x2), (3, .int (x3 + 1)), (4, .int x4), (5, .int x5)]) X d_M_follow_123 3 rfl (by decide) (by decide) [1, 2, 3, 0, 4, 5] rfl ?_
                refine x_goto (pc := 126) (tgt := 23) X d_M_follow_126 (by decide) ?_
                refine x_drop [0, 1, 2, 3] rfl ?_
                exact hK (x1 + 1) x2 (x3 + 1) (ua (ua σ 7 x1.toNatClampNeg x4) 8 (((nI 40) * x2) + x3).toNatClampNeg (-1)) hw
            · have hw := hw.2 c
              refine x_iconst (pc := 88) (v := (-1)) X d_M_follow_88 (by decide) ?_
              exact hR _ _ _ _ d_M_follow_89 (vp_nar_int _) hw
      · have hw := hw.2 c
        refine x_iinc (pc := 65) (d := 1) (lv' := [(0, .ref (q 0)), (1, .int x1), (2, .int x2), (3, .int x3), (4, .int x4), (5, .int (x5 + 1))]) X d_M_follow_65 5 rfl (by decide) (by decide) [1, 2, 3, 4, 5, 0] rfl ?_
        refine x_goto (pc := 68) (tgt := 47) X d_M_follow_68 (by decide) ?_
        exact ih x1 x2 x3 x4 (x5 + 1) σ hw
set_option maxHeartbeats 4000000 in
set_option maxRecDepth 100000 in
theorem wL_M_follow_23 {Z : ZT} {q : Nat → Nat} {post : Int32 → St → Prop} {K : Int32 → Int32 → St → Prop} (X : Cx Z "WayTableModel" b_M_follow rm_M_follow 6) (hR : RI Z b_M_follow .int (wM (zI Z) q) post) (hK : ∀ (x1 x2 : Int32) (σ : St), K x1 x2 σ → VV Z 0 0 (wM (zI Z) q σ) [(0, .ref (q 0)), (1, .int x1), (2, .int x2)] 16 []) : ∀ (n : Nat) (x1 x2 x3 : Int32) (σ : St), L_M_follow_23 post K n x1 x2 x3 σ → VV Z 0 0 (wM (zI Z) q σ) [(0, .ref (q 0)), (1, .int x1), (2, .int x2), (3, .int x3)] 23 [] := by
  intro n
  induction n with
  | zero => intro x1 x2 x3 σ hw; exact False.elim hw
  | succ n ih =>
    intro x1 x2 x3 σ hw
    unfold L_M_follow_23 at hw
    refine x_iload_n (pc := 23) X d_M_follow_23 3 rfl ?_
    refine x_aload_n (pc := 24) X d_M_follow_24 0 rfl ?_
    refine x_get (pc := 25) X tb_M 0 2 (by decide) mw_9 (atM_0 _ _ _) rfl d_M_follow_25 ?_
    refine x_icmp_ge (pc := 28) (tgt := 129) X d_M_follow_28 (by decide) (fun c => ?_) (fun c => ?_)
    · have hw := hw.1 c
      refine x_iinc (pc := 129) (d := 1) (lv' := [(0, .ref (q 0)), (1, .int x1), (2, .int (x2 + 1)), (3, .int x3)]) X d_M_follow_129 2 rfl (by decide) (by decide) [1, 2, 0, 3] rfl ?_
      refine x_goto (pc := 132) (tgt := 16) X d_M_follow_132 (by decide) ?_
      refine x_drop [0, 1, 2] rfl ?_
      exact hK x1 (x2 + 1) σ hw
    · have hw := hw.2 c
      refine x_aload_n (pc := 31) X d_M_follow_31 0 rfl ?_
      refine x_aload_n (pc := 32) X d_M_follow_32 0 rfl ?_
      refine x_get (pc := 33) X tb_M 0 15 (by decide) mw_74 (atM_0 _ _ _) rfl d_M_follow_33 ?_
      refine x_iload_n (pc := 36) X d_M_follow_36 2 rfl ?_
      obtain ⟨h2, hw⟩ := hw
      refine x_iald (pc := 37) X 8 (atM_8 _ _ _) h2 d_M_follow_37 ?_
      refine x_iload_n (pc := 38) X d_M_follow_38 3 rfl ?_
      refine x_cvi (pc := 39) X [.int (σ.2 7 x2.toNatClampNeg), .int x3] (c_M_led (zl Z) (zD Z) (zI Z) q σ (σ.2 7 x2.toNatClampNeg) x3 _ hw) mv_M_led tb_M 0 (atM_0 _ _ _) mw_75 d_M_follow_39 rfl (Nat.le_of_ble_eq_true rfl) ⟨Nat.le_of_ble_eq_true rfl, Nat.le_of_ble_eq_true rfl⟩ ⟨rfl, rfl⟩ ⟨Nat.zero_le _, Nat.zero_le _⟩ ?_
      intro r3 σ3 hw
      refine x_istore (pc := 42) (lv' := [(0, .ref (q 0)), (1, .int x1), (2, .int x2), (3, .int x3), (4, .int r3)]) X d_M_follow_42 (by decide) [1, 2, 3, 4, 0] rfl ?_
      refine x_iconst (pc := 44) (v := 0) X d_M_follow_44 (by decide) ?_
      refine x_istore (pc := 45) (lv' := [(0, .ref (q 0)), (1, .int x1), (2, .int x2), (3, .int x3), (4, .int r3), (5, .int 0)]) X d_M_follow_45 (by decide) [1, 2, 3, 4, 5, 0] rfl ?_
      obtain ⟨n2, hw⟩ := hw
      exact wL_M_follow_47 X hR ih n2 x1 x2 x3 r3 0 σ3 hw
set_option maxHeartbeats 4000000 in
set_option maxRecDepth 100000 in
theorem wL_M_follow_16 {Z : ZT} {q : Nat → Nat} {post : Int32 → St → Prop} (X : Cx Z "WayTableModel" b_M_follow rm_M_follow 6) (hR : RI Z b_M_follow .int (wM (zI Z) q) post) : ∀ (n : Nat) (x1 x2 : Int32) (σ : St), L_M_follow_16 post n x1 x2 σ → VV Z 0 0 (wM (zI Z) q σ) [(0, .ref (q 0)), (1, .int x1), (2, .int x2)] 16 [] := by
  intro n
  induction n with
  | zero => intro x1 x2 σ hw; exact False.elim hw
  | succ n ih =>
    intro x1 x2 σ hw
    unfold L_M_follow_16 at hw
    refine x_iload_n (pc := 16) X d_M_follow_16 2 rfl ?_
    refine x_iload_n (pc := 17) X d_M_follow_17 1 rfl ?_
    refine x_icmp_ge (pc := 18) (tgt := 135) X d_M_follow_18 (by decide) (fun c => ?_) (fun c => ?_)
    · have hw := hw.1 c
      refine x_iload_n (pc := 135) X d_M_follow_135 1 rfl ?_
      exact hR _ _ _ _ d_M_follow_136 (vp_nar_int _) hw
    · have hw := hw.2 c
      refine x_iconst (pc := 21) (v := 0) X d_M_follow_21 (by decide) ?_
      refine x_istore_n (pc := 22) (lv' := [(0, .ref (q 0)), (1, .int x1), (2, .int x2), (3, .int 0)]) X d_M_follow_22 (by decide) [1, 2, 3, 0] rfl ?_
      obtain ⟨n2, hw⟩ := hw
      exact wL_M_follow_23 X hR ih n2 x1 x2 0 σ hw
set_option maxHeartbeats 4000000 in
set_option maxRecDepth 100000 in
theorem c_M_follow (l : Launch) (D : va_G) (cI : ClassId) (q : Nat → Nat) (σ : St) (post : Int32 → St → Prop) (hw : wp_M_follow σ post) : CI l D cI (wM cI q) y_M_follow b_M_follow 6 .int rm_M_follow [.ref (q 0)] σ post := by
  refine CI_of (by decide) (Nat.le_of_ble_eq_true rfl) ?_
  intro Z hZl hZD hZI X hR
  subst hZl; subst hZD; subst hZI
  unfold wp_M_follow at hw
  show VV Z 0 0 (wM (zI Z) q σ) [(0, .ref (q 0))] 0 []
  refine x_iconst (pc := 0) (v := 1) X d_M_follow_0 (by decide) ?_
  refine x_istore_n (pc := 1) (lv' := [(0, .ref (q 0)), (1, .int 1)]) X d_M_follow_1 (by decide) [1, 0] rfl ?_
  refine x_aload_n (pc := 2) X d_M_follow_2 0 rfl ?_
  refine x_get (pc := 3) X tb_M 0 15 (by decide) mw_74 (atM_0 _ _ _) rfl d_M_follow_3 ?_
  refine x_iconst (pc := 6) (v := 0) X d_M_follow_6 (by decide) ?_
  refine x_iconst (pc := 7) (v := 1) X d_M_follow_7 (by decide) ?_
  refine x_aload_n (pc := 8) X d_M_follow_8 0 rfl ?_
  refine x_get (pc := 9) X tb_M 0 3 (by decide) mw_10 (atM_0 _ _ _) rfl d_M_follow_9 ?_
  refine x_ishl (pc := 12) X d_M_follow_12 ?_
  obtain ⟨h1, hw⟩ := hw
  refine x_iast (pc := 13) (ws' := (wM (zI Z) q (ua σ 7 ((0 : Int32).toNatClampNeg) (1 <<< ((σ.1 3) &&& 31))))) X 8 (atM_8 _ _ _) h1 (stM_8 _ _ _ _) d_M_follow_13 ?_
  refine x_iconst (pc := 14) (v := 0) X d_M_follow_14 (by decide) ?_
  refine x_istore_n (pc := 15) (lv' := [(0, .ref (q 0)), (1, .int 1), (2, .int 0)]) X d_M_follow_15 (by decide) [1, 2, 0] rfl ?_
  obtain ⟨n2, hw⟩ := hw
  exact wL_M_follow_16 X hR n2 1 0 (ua σ 7 ((0 : Int32).toNatClampNeg) (1 <<< ((σ.1 3) &&& 31))) hw
end
section
def rm_M_tell : Room := { frames := 0, cells := 0, slots := 0, locals := 0 }
set_option maxHeartbeats 4000000 in
set_option maxRecDepth 100000 in
theorem wL_M_tell_24 {Z : ZT} {q : Nat → Nat} {post : Int32 → St → Prop} {K : Int32 → Int32 → Int32 → Int32 → St → Prop} (X : Cx Z "WayTableModel" b_M_tell rm_M_tell 9) (hR : RI Z b_M_tell .boolean (wM (zI Z) q) post) (hK : ∀ (x1 x2 x3 x4 : Int32) (σ : St), K x1 x2 x3 x4 σ → VV Z 0 0 (wM (zI Z) q σ) [(0, .ref (q 0)), (1, .int x1), (2, .int x2), (3, .int x3), (4, .int x4)] 15 []) : ∀ (n : Nat) (x1 x2 x3 x4 x5 : Int32) (σ : St), L_M_tell_24 post K n x1 x2 x3 x4 x5 σ → VV Z 0 0 (wM (zI Z) q σ) [(0, .ref (q 0)), (1, .int x1), (2, .int x2), (3, .int x3), (4, .int x4), (5, .int x5)] 24 [] := by
  intro n
  induction n with
  | zero => intro x1 x2 x3 x4 x5 σ hw; exact False.elim hw
  | succ n ih =>
    intro x1 x2 x3 x4 x5 σ hw
    unfold L_M_tell_24 at hw
    refine x_iload (pc := 24) X d_M_tell_24 5 rfl ?_
    refine x_aload_n (pc := 26) X d_M_tell_26 0 rfl ?_
    refine x_get (pc := 27) X tb_M 0 6 (by decide) mw_79 (atM_0 _ _ _) rfl d_M_tell_27 ?_
    refine x_icmp_ge (pc := 30) (tgt := 189) X d_M_tell_30 (by decide) (fun c => ?_) (fun c => ?_)
    · have hw := hw.1 c
      refine x_aload_n (pc := 189) X d_M_tell_189 0 rfl ?_
      refine x_get (pc := 190) X tb_M 0 9 (by decide) mw_80 (atM_0 _ _ _) rfl d_M_tell_190 ?_
      refine x_bipush (pc := 193) (v := (nI 120)) X d_M_tell_193 (by decide) ?_
      refine x_iload (pc := 195) X d_M_tell_195 4 rfl ?_
      refine x_imul (pc := 197) X d_M_tell_197 ?_
      refine x_iload_n (pc := 198) X d_M_tell_198 3 rfl ?_
      refine x_iadd (pc := 199) X d_M_tell_199 ?_
      refine x_aload_n (pc := 200) X d_M_tell_200 0 rfl ?_
      refine x_get (pc := 201) X tb_M 0 9 (by decide) mw_80 (atM_0 _ _ _) rfl d_M_tell_201 ?_
      refine x_bipush (pc := 204) (v := (nI 120)) X d_M_tell_204 (by decide) ?_
      refine x_iload_n (pc := 206) X d_M_tell_206 3 rfl ?_
      refine x_imul (pc := 207) X d_M_tell_207 ?_
      refine x_iload (pc := 208) X d_M_tell_208 4 rfl ?_
      refine x_iadd (pc := 210) X d_M_tell_210 ?_
      obtain ⟨h1, hw⟩ := hw
      refine x_iald (pc := 211) X 4 (atM_4 _ _ _) h1 d_M_tell_211 ?_
      obtain ⟨h2, hw⟩ := hw
      refine x_iast (pc := 212) (ws' := (wM (zI Z) q (ua σ 3 (((nI 120) * x4) + x3).toNatClampNeg (σ.2 3 (((nI 120) * x3) + x4).toNatClampNeg)))) X 4 (atM_4 _ _ _) h2 (stM_4 _ _ _ _) d_M_tell_212 ?_
      refine x_aload_n (pc := 213) X d_M_tell_213 0 rfl ?_
      refine x_get (pc := 214) X tb_M 0 10 (by decide) mw_81 (atM_0 _ _ _) rfl d_M_tell_214 ?_
      refine x_bipush (pc := 217) (v := (nI 120)) X d_M_tell_217 (by decide) ?_
      refine x_iload (pc := 219) X d_M_tell_219 4 rfl ?_
      refine x_imul (pc := 221) X d_M_tell_221 ?_
      refine x_iload_n (pc := 222) X d_M_tell_222 3 rfl ?_
      refine x_iadd (pc := 223) X d_M_tell_223 ?_
      refine x_aload_n (pc := 224) X d_M_tell_224 0 rfl ?_
      refine x_get (pc := 225) X tb_M 0 10 (by decide) mw_81 (atM_0 _ _ _) rfl d_M_tell_225 ?_
      refine x_bipush (pc := 228) (v := (nI 120)) X d_M_tell_228 (by decide) ?_
      refine x_iload_n (pc := 230) X d_M_tell_230 3 rfl ?_
      refine x_imul (pc := 231) X d_M_tell_231 ?_
      refine x_iload (pc := 232) X d_M_tell_232 4 rfl ?_
      refine x_iadd (pc := 234) X d_M_tell_234 ?_
      obtain ⟨h3, hw⟩ := hw
      refine x_iald (pc := 235) X 5 (atM_5 _ _ _) h3 d_M_tell_235 ?_
      obtain ⟨h4, hw⟩ := hw
      refine x_iast (pc := 236) (ws' := (wM (zI Z) q (ua (ua σ 3 (((nI 120) * x4) + x3).toNatClampNeg (σ.2 3 (((nI 120) * x3) + x4).toNatClampNeg)) 4 (((nI 120) * x4) + x3).toNatClampNeg ((ua σ 3 (((nI 120) * x4) + x3).toNatClampNeg (σ.2 3 (((nI 120) * x3) + x4).toNatClampNeg)).2 4 (((nI 120) * x3) + x4).toNatClampNeg)))) X 5 (atM_5 _ _ _) h4 (stM_5 _ _ _ _) d_M_tell_236 ?_
      refine x_iinc (pc := 237) (d := 1) (lv' := [(0, .ref (q 0)), (1, .int x1), (2, .int x2), (3, .int x3), (4, .int (x4 + 1)), (5, .int x5)]) X d_M_tell_237 4 rfl (by decide) (by decide) [1, 2, 3, 4, 0, 5] rfl ?_
      refine x_goto (pc := 240) (tgt := 15) X d_M_tell_240 (by decide) ?_
      refine x_drop [0, 1, 2, 3, 4] rfl ?_
      exact hK x1 x2 x3 (x4 + 1) (ua (ua σ 3 (((nI 120) * x4) + x3).toNatClampNeg (σ.2 3 (((nI 120) * x3) + x4).toNatClampNeg)) 4 (((nI 120) * x4) + x3).toNatClampNeg ((ua σ 3 (((nI 120) * x4) + x3).toNatClampNeg (σ.2 3 (((nI 120) * x3) + x4).toNatClampNeg)).2 4 (((nI 120) * x3) + x4).toNatClampNeg)) hw
    · have hw := hw.2 c
      refine x_aload_n (pc := 33) X d_M_tell_33 0 rfl ?_
      refine x_get (pc := 34) X tb_M 0 9 (by decide) mw_80 (atM_0 _ _ _) rfl d_M_tell_34 ?_
      refine x_bipush (pc := 37) (v := (nI 120)) X d_M_tell_37 (by decide) ?_
      refine x_iload_n (pc := 39) X d_M_tell_39 3 rfl ?_
      refine x_imul (pc := 40) X d_M_tell_40 ?_
      refine x_iload (pc := 41) X d_M_tell_41 4 rfl ?_
      refine x_iadd (pc := 43) X d_M_tell_43 ?_
      obtain ⟨h5, hw⟩ := hw
      refine x_iald (pc := 44) X 4 (atM_4 _ _ _) h5 d_M_tell_44 ?_
      refine x_if_ne (pc := 45) (tgt := 189) X d_M_tell_45 (by decide) (fun c => ?_) (fun c => ?_)
      · have hw := hw.1 c
        refine x_aload_n (pc := 189) X d_M_tell_189 0 rfl ?_
        refine x_get (pc := 190) X tb_M 0 9 (by decide) mw_80 (atM_0 _ _ _) rfl d_M_tell_190 ?_
        refine x_bipush (pc := 193) (v := (nI 120)) X d_M_tell_193 (by decide) ?_
        refine x_iload (pc := 195) X d_M_tell_195 4 rfl ?_
        refine x_imul (pc := 197) X d_M_tell_197 ?_
        refine x_iload_n (pc := 198) X d_M_tell_198 3 rfl ?_
        refine x_iadd (pc := 199) X d_M_tell_199 ?_
        refine x_aload_n (pc := 200) X d_M_tell_200 0 rfl ?_
        refine x_get (pc := 201) X tb_M 0 9 (by decide) mw_80 (atM_0 _ _ _) rfl d_M_tell_201 ?_
        refine x_bipush (pc := 204) (v := (nI 120)) X d_M_tell_204 (by decide) ?_
        refine x_iload_n (pc := 206) X d_M_tell_206 3 rfl ?_
        refine x_imul (pc := 207) X d_M_tell_207 ?_
        refine x_iload (pc := 208) X d_M_tell_208 4 rfl ?_
        refine x_iadd (pc := 210) X d_M_tell_210 ?_
        obtain ⟨h6, hw⟩ := hw
        refine x_iald (pc := 211) X 4 (atM_4 _ _ _) h6 d_M_tell_211 ?_
        obtain ⟨h7, hw⟩ := hw
        refine x_iast (pc := 212) (ws' := (wM (zI Z) q (ua σ 3 (((nI 120) * x4) + x3).toNatClampNeg (σ.2 3 (((nI 120) * x3) + x4).toNatClampNeg)))) X 4 (atM_4 _ _ _) h7 (stM_4 _ _ _ _) d_M_tell_212 ?_
        refine x_aload_n (pc := 213) X d_M_tell_213 0 rfl ?_
        refine x_get (pc := 214) X tb_M 0 10 (by decide) mw_81 (atM_0 _ _ _) rfl d_M_tell_214 ?_
        refine x_bipush (pc := 217) (v := (nI 120)) X d_M_tell_217 (by decide) ?_
        refine x_iload (pc := 219) X d_M_tell_219 4 rfl ?_
        refine x_imul (pc := 221) X d_M_tell_221 ?_
        refine x_iload_n (pc := 222) X d_M_tell_222 3 rfl ?_
        refine x_iadd (pc := 223) X d_M_tell_223 ?_
        refine x_aload_n (pc := 224) X d_M_tell_224 0 rfl ?_
        refine x_get (pc := 225) X tb_M 0 10 (by decide) mw_81 (atM_0 _ _ _) rfl d_M_tell_225 ?_
        refine x_bipush (pc := 228) (v := (nI 120)) X d_M_tell_228 (by decide) ?_
        refine x_iload_n (pc := 230) X d_M_tell_230 3 rfl ?_
        refine x_imul (pc := 231) X d_M_tell_231 ?_
        refine x_iload (pc := 232) X d_M_tell_232 4 rfl ?_
        refine x_iadd (pc := 234) X d_M_tell_234 ?_
        obtain ⟨h8, hw⟩ := hw
        refine x_iald (pc := 235) X 5 (atM_5 _ _ _) h8 d_M_tell_235 ?_
        obtain ⟨h9, hw⟩ := hw
        refine x_iast (pc := 236) (ws' := (wM (zI Z) q (ua (ua σ 3 (((nI 120) * x4) + x3).toNatClampNeg (σ.2 3 (((nI 120) * x3) + x4).toNatClampNeg)) 4 (((nI 120) * x4) + x3).toNatClampNeg ((ua σ 3 (((nI 120) * x4) + x3).toNatClampNeg (σ.2 3 (((nI 120) * x3) + x4).toNatClampNeg)).2 4 (((nI 120) * x3) + x4).toNatClampNeg)))) X 5 (atM_5 _ _ _) h9 (stM_5 _ _ _ _) d_M_tell_236 ?_
        refine x_iinc (pc := 237) (d := 1) (lv' := [(0, .ref (q 0)), (1, .int x1), (2, .int x2), (3, .int x3), (4, .int (x4 + 1)), (5, .int x5)]) X d_M_tell_237 4 rfl (by decide) (by decide) [1, 2, 3, 4, 0, 5] rfl ?_
        refine x_goto (pc := 240) (tgt := 15) X d_M_tell_240 (by decide) ?_
        refine x_drop [0, 1, 2, 3, 4] rfl ?_
        exact hK x1 x2 x3 (x4 + 1) (ua (ua σ 3 (((nI 120) * x4) + x3).toNatClampNeg (σ.2 3 (((nI 120) * x3) + x4).toNatClampNeg)) 4 (((nI 120) * x4) + x3).toNatClampNeg ((ua σ 3 (((nI 120) * x4) + x3).toNatClampNeg (σ.2 3 (((nI 120) * x3) + x4).toNatClampNeg)).2 4 (((nI 120) * x3) + x4).toNatClampNeg)) hw
      · have hw := hw.2 c
        refine x_aload_n (pc := 48) X d_M_tell_48 0 rfl ?_
        refine x_get (pc := 49) X tb_M 0 8 (by decide) mw_82 (atM_0 _ _ _) rfl d_M_tell_49 ?_
        refine x_bipush (pc := 52) (v := (nI 40)) X d_M_tell_52 (by decide) ?_
        refine x_iload_n (pc := 54) X d_M_tell_54 3 rfl ?_
        refine x_imul (pc := 55) X d_M_tell_55 ?_
        refine x_iload (pc := 56) X d_M_tell_56 5 rfl ?_
        refine x_iadd (pc := 58) X d_M_tell_58 ?_
        obtain ⟨h10, hw⟩ := hw
        refine x_iald (pc := 59) X 3 (atM_3 _ _ _) h10 d_M_tell_59 ?_
        refine x_istore (pc := 60) (lv' := [(0, .ref (q 0)), (1, .int x1), (2, .int x2), (3, .int x3), (4, .int x4), (5, .int x5), (6, .int (σ.2 2 (((nI 40) * x3) + x5).toNatClampNeg))]) X d_M_tell_60 (by decide) [1, 2, 3, 4, 5, 6, 0] rfl ?_
        refine x_aload_n (pc := 62) X d_M_tell_62 0 rfl ?_
        refine x_get (pc := 63) X tb_M 0 8 (by decide) mw_82 (atM_0 _ _ _) rfl d_M_tell_63 ?_
        refine x_bipush (pc := 66) (v := (nI 40)) X d_M_tell_66 (by decide) ?_
        refine x_iload (pc := 68) X d_M_tell_68 4 rfl ?_
        refine x_imul (pc := 70) X d_M_tell_70 ?_
        refine x_iload (pc := 71) X d_M_tell_71 5 rfl ?_
        refine x_iadd (pc := 73) X d_M_tell_73 ?_
        obtain ⟨h11, hw⟩ := hw
        refine x_iald (pc := 74) X 3 (atM_3 _ _ _) h11 d_M_tell_74 ?_
        refine x_istore (pc := 75) (lv' := [(0, .ref (q 0)), (1, .int x1), (2, .int x2), (3, .int x3), (4, .int x4), (5, .int x5), (6, .int (σ.2 2 (((nI 40) * x3) + x5).toNatClampNeg)), (7, .int (σ.2 2 (((nI 40) * x4) + x5).toNatClampNeg))]) X d_M_tell_75 (by decide) [1, 2, 3, 4, 5, 6, 7, 0] rfl ?_
        refine x_iload_n (pc := 77) X d_M_tell_77 1 rfl ?_
        refine x_iconst (pc := 78) (v := 1) X d_M_tell_78 (by decide) ?_
        refine x_icmp_ne (pc := 79) (tgt := 113) X d_M_tell_79 (by decide) (fun c => ?_) (fun c => ?_)
        · have hw := hw.1 c
          refine x_iload (pc := 113) X d_M_tell_113 6 rfl ?_
          refine x_if_lt (pc := 115) (tgt := 146) X d_M_tell_115 (by decide) (fun c => ?_) (fun c => ?_)
          · have hw := hw.1 c
            refine x_iconst (pc := 146) (v := 0) X d_M_tell_146 (by decide) ?_
            refine x_istore (pc := 147) (lv' := [(0, .ref (q 0)), (1, .int x1), (2, .int x2), (3, .int x3), (4, .int x4), (5, .int x5), (6, .int (σ.2 2 (((nI 40) * x3) + x5).toNatClampNeg)), (7, .int (σ.2 2 (((nI 40) * x4) + x5).toNatClampNeg)), (8, .int 0)]) X d_M_tell_147 (by decide) [1, 2, 3, 4, 5, 6, 7, 8, 0] rfl ?_
            refine x_iload (pc := 149) X d_M_tell_149 8 rfl ?_
            refine x_if_eq (pc := 151) (tgt := 183) X d_M_tell_151 (by decide) (fun _ => ?_) (fun c => absurd c (by decide))
            refine x_iinc (pc := 183) (d := 1) (lv' := [(0, .ref (q 0)), (1, .int x1), (2, .int x2), (3, .int x3), (4, .int x4), (5, .int (x5 + 1)), (6, .int (σ.2 2 (((nI 40) * x3) + x5).toNatClampNeg)), (7, .int (σ.2 2 (((nI 40) * x4) + x5).toNatClampNeg)), (8, .int 0)]) X d_M_tell_183 5 rfl (by decide) (by decide) [1, 2, 3, 4, 5, 0, 6, 7, 8] rfl ?_
            refine x_goto (pc := 186) (tgt := 24) X d_M_tell_186 (by decide) ?_
            refine x_drop [0, 1, 2, 3, 4, 5] rfl ?_
            exact ih x1 x2 x3 x4 (x5 + 1) σ hw
          · have hw := hw.2 c
            refine x_iload (pc := 118) X d_M_tell_118 7 rfl ?_
            refine x_if_lt (pc := 120) (tgt := 146) X d_M_tell_120 (by decide) (fun c => ?_) (fun c => ?_)
            · have hw := hw.1 c
              refine x_iconst (pc := 146) (v := 0) X d_M_tell_146 (by decide) ?_
              refine x_istore (pc := 147) (lv' := [(0, .ref (q 0)), (1, .int x1), (2, .int x2), (3, .int x3), (4, .int x4), (5, .int x5), (6, .int (σ.2 2 (((nI 40) * x3) + x5).toNatClampNeg)), (7, .int (σ.2 2 (((nI 40) * x4) + x5).toNatClampNeg)), (8, .int 0)]) X d_M_tell_147 (by decide) [1, 2, 3, 4, 5, 6, 7, 8, 0] rfl ?_
              refine x_iload (pc := 149) X d_M_tell_149 8 rfl ?_
              refine x_if_eq (pc := 151) (tgt := 183) X d_M_tell_151 (by decide) (fun _ => ?_) (fun c => absurd c (by decide))
              refine x_iinc (pc := 183) (d := 1) (lv' := [(0, .ref (q 0)), (1, .int x1), (2, .int x2), (3, .int x3), (4, .int x4), (5, .int (x5 + 1)), (6, .int (σ.2 2 (((nI 40) * x3) + x5).toNatClampNeg)), (7, .int (σ.2 2 (((nI 40) * x4) + x5).toNatClampNeg)), (8, .int 0)]) X d_M_tell_183 5 rfl (by decide) (by decide) [1, 2, 3, 4, 5, 0, 6, 7, 8] rfl ?_
              refine x_goto (pc := 186) (tgt := 24) X d_M_tell_186 (by decide) ?_
              refine x_drop [0, 1, 2, 3, 4, 5] rfl ?_
              exact ih x1 x2 x3 x4 (x5 + 1) σ hw
            · have hw := hw.2 c
              refine x_aload_n (pc := 123) X d_M_tell_123 0 rfl ?_
              refine x_get (pc := 124) X tb_M 0 9 (by decide) mw_80 (atM_0 _ _ _) rfl d_M_tell_124 ?_
              refine x_bipush (pc := 127) (v := (nI 120)) X d_M_tell_127 (by decide) ?_
              refine x_iload (pc := 129) X d_M_tell_129 6 rfl ?_
              refine x_imul (pc := 131) X d_M_tell_131 ?_
              refine x_iload (pc := 132) X d_M_tell_132 7 rfl ?_
              refine x_iadd (pc := 134) X d_M_tell_134 ?_
              obtain ⟨h12, hw⟩ := hw
              refine x_iald (pc := 135) X 4 (atM_4 _ _ _) h12 d_M_tell_135 ?_
              refine x_iload_n (pc := 136) X d_M_tell_136 1 rfl ?_
              refine x_iconst (pc := 137) (v := 1) X d_M_tell_137 (by decide) ?_
              refine x_isub (pc := 138) X d_M_tell_138 ?_
              refine x_icmp_ne (pc := 139) (tgt := 146) X d_M_tell_139 (by decide) (fun c => ?_) (fun c => ?_)
              · have hw := hw.1 c
                refine x_iconst (pc := 146) (v := 0) X d_M_tell_146 (by decide) ?_
                refine x_istore (pc := 147) (lv' := [(0, .ref (q 0)), (1, .int x1), (2, .int x2), (3, .int x3), (4, .int x4), (5, .int x5), (6, .int (σ.2 2 (((nI 40) * x3) + x5).toNatClampNeg)), (7, .int (σ.2 2 (((nI 40) * x4) + x5).toNatClampNeg)), (8, .int 0)]) X d_M_tell_147 (by decide) [1, 2, 3, 4, 5, 6, 7, 8, 0] rfl ?_
                refine x_iload (pc := 149) X d_M_tell_149 8 rfl ?_
                refine x_if_eq (pc := 151) (tgt := 183) X d_M_tell_151 (by decide) (fun _ => ?_) (fun c => absurd c (by decide))
                refine x_iinc (pc := 183) (d := 1) (lv' := [(0, .ref (q 0)), (1, .int x1), (2, .int x2), (3, .int x3), (4, .int x4), (5, .int (x5 + 1)), (6, .int (σ.2 2 (((nI 40) * x3) + x5).toNatClampNeg)), (7, .int (σ.2 2 (((nI 40) * x4) + x5).toNatClampNeg)), (8, .int 0)]) X d_M_tell_183 5 rfl (by decide) (by decide) [1, 2, 3, 4, 5, 0, 6, 7, 8] rfl ?_
                refine x_goto (pc := 186) (tgt := 24) X d_M_tell_186 (by decide) ?_
                refine x_drop [0, 1, 2, 3, 4, 5] rfl ?_
                exact ih x1 x2 x3 x4 (x5 + 1) σ hw
              · have hw := hw.2 c
                refine x_iconst (pc := 142) (v := 1) X d_M_tell_142 (by decide) ?_
                refine x_goto (pc := 143) (tgt := 147) X d_M_tell_143 (by decide) ?_
                refine x_istore (pc := 147) (lv' := [(0, .ref (q 0)), (1, .int x1), (2, .int x2), (3, .int x3), (4, .int x4), (5, .int x5), (6, .int (σ.2 2 (((nI 40) * x3) + x5).toNatClampNeg)), (7, .int (σ.2 2 (((nI 40) * x4) + x5).toNatClampNeg)), (8, .int 1)]) X d_M_tell_147 (by decide) [1, 2, 3, 4, 5, 6, 7, 8, 0] rfl ?_
                refine x_iload (pc := 149) X d_M_tell_149 8 rfl ?_
                refine x_if_eq (pc := 151) (tgt := 183) X d_M_tell_151 (by decide) (fun c => absurd c (by decide)) (fun _ => ?_)
                refine x_aload_n (pc := 154) X d_M_tell_154 0 rfl ?_
                refine x_get (pc := 155) X tb_M 0 9 (by decide) mw_80 (atM_0 _ _ _) rfl d_M_tell_155 ?_
                refine x_bipush (pc := 158) (v := (nI 120)) X d_M_tell_158 (by decide) ?_
                refine x_iload_n (pc := 160) X d_M_tell_160 3 rfl ?_
                refine x_imul (pc := 161) X d_M_tell_161 ?_
                refine x_iload (pc := 162) X d_M_tell_162 4 rfl ?_
                refine x_iadd (pc := 164) X d_M_tell_164 ?_
                refine x_iload_n (pc := 165) X d_M_tell_165 1 rfl ?_
                obtain ⟨h13, hw⟩ := hw
                refine x_iast (pc := 166) (ws' := (wM (zI Z) q (ua σ 3 (((nI 120) * x3) + x4).toNatClampNeg x1))) X 4 (atM_4 _ _ _) h13 (stM_4 _ _ _ _) d_M_tell_166 ?_
                refine x_aload_n (pc := 167) X d_M_tell_167 0 rfl ?_
                refine x_get (pc := 168) X tb_M 0 10 (by decide) mw_81 (atM_0 _ _ _) rfl d_M_tell_168 ?_
                refine x_bipush (pc := 171) (v := (nI 120)) X d_M_tell_171 (by decide) ?_
                refine x_iload_n (pc := 173) X d_M_tell_173 3 rfl ?_
                refine x_imul (pc := 174) X d_M_tell_174 ?_
                refine x_iload (pc := 175) X d_M_tell_175 4 rfl ?_
                refine x_iadd (pc := 177) X d_M_tell_177 ?_
                refine x_iload (pc := 178) X d_M_tell_178 5 rfl ?_
                obtain ⟨h14, hw⟩ := hw
                refine x_iast (pc := 180) (ws' := (wM (zI Z) q (ua (ua σ 3 (((nI 120) * x3) + x4).toNatClampNeg x1) 4 (((nI 120) * x3) + x4).toNatClampNeg x5))) X 5 (atM_5 _ _ _) h14 (stM_5 _ _ _ _) d_M_tell_180 ?_
                refine x_iconst (pc := 181) (v := 1) X d_M_tell_181 (by decide) ?_
                refine x_istore_n (pc := 182) (lv' := [(0, .ref (q 0)), (1, .int x1), (2, .int 1), (3, .int x3), (4, .int x4), (5, .int x5), (6, .int (σ.2 2 (((nI 40) * x3) + x5).toNatClampNeg)), (7, .int (σ.2 2 (((nI 40) * x4) + x5).toNatClampNeg)), (8, .int 1)]) X d_M_tell_182 (by decide) [1, 2, 0, 3, 4, 5, 6, 7, 8] rfl ?_
                refine x_iinc (pc := 183) (d := 1) (lv' := [(0, .ref (q 0)), (1, .int x1), (2, .int 1), (3, .int x3), (4, .int x4), (5, .int (x5 + 1)), (6, .int (σ.2 2 (((nI 40) * x3) + x5).toNatClampNeg)), (7, .int (σ.2 2 (((nI 40) * x4) + x5).toNatClampNeg)), (8, .int 1)]) X d_M_tell_183 5 rfl (by decide) (by decide) [1, 2, 3, 4, 5, 0, 6, 7, 8] rfl ?_
                refine x_goto (pc := 186) (tgt := 24) X d_M_tell_186 (by decide) ?_
                refine x_drop [0, 1, 2, 3, 4, 5] rfl ?_
                exact ih x1 1 x3 x4 (x5 + 1) (ua (ua σ 3 (((nI 120) * x3) + x4).toNatClampNeg x1) 4 (((nI 120) * x3) + x4).toNatClampNeg x5) hw
        · have hw := hw.2 c
          refine x_iload (pc := 82) X d_M_tell_82 6 rfl ?_
          refine x_if_ge (pc := 84) (tgt := 91) X d_M_tell_84 (by decide) (fun c => ?_) (fun c => ?_)
          · have hw := hw.1 c
            refine x_iconst (pc := 91) (v := 0) X d_M_tell_91 (by decide) ?_
            refine x_iload (pc := 92) X d_M_tell_92 7 rfl ?_
            refine x_if_ge (pc := 94) (tgt := 101) X d_M_tell_94 (by decide) (fun c => ?_) (fun c => ?_)
            · have hw := hw.1 c
              refine x_iconst (pc := 101) (v := 0) X d_M_tell_101 (by decide) ?_
              refine x_icmp_eq (pc := 102) (tgt := 109) X d_M_tell_102 (by decide) (fun _ => ?_) (fun c => absurd c (by decide))
              refine x_iconst (pc := 109) (v := 0) X d_M_tell_109 (by decide) ?_
              refine x_goto (pc := 110) (tgt := 147) X d_M_tell_110 (by decide) ?_
              refine x_istore (pc := 147) (lv' := [(0, .ref (q 0)), (1, .int x1), (2, .int x2), (3, .int x3), (4, .int x4), (5, .int x5), (6, .int (σ.2 2 (((nI 40) * x3) + x5).toNatClampNeg)), (7, .int (σ.2 2 (((nI 40) * x4) + x5).toNatClampNeg)), (8, .int 0)]) X d_M_tell_147 (by decide) [1, 2, 3, 4, 5, 6, 7, 8, 0] rfl ?_
              refine x_iload (pc := 149) X d_M_tell_149 8 rfl ?_
              refine x_if_eq (pc := 151) (tgt := 183) X d_M_tell_151 (by decide) (fun _ => ?_) (fun c => absurd c (by decide))
              refine x_iinc (pc := 183) (d := 1) (lv' := [(0, .ref (q 0)), (1, .int x1), (2, .int x2), (3, .int x3), (4, .int x4), (5, .int (x5 + 1)), (6, .int (σ.2 2 (((nI 40) * x3) + x5).toNatClampNeg)), (7, .int (σ.2 2 (((nI 40) * x4) + x5).toNatClampNeg)), (8, .int 0)]) X d_M_tell_183 5 rfl (by decide) (by decide) [1, 2, 3, 4, 5, 0, 6, 7, 8] rfl ?_
              refine x_goto (pc := 186) (tgt := 24) X d_M_tell_186 (by decide) ?_
              refine x_drop [0, 1, 2, 3, 4, 5] rfl ?_
              exact ih x1 x2 x3 x4 (x5 + 1) σ hw
            · have hw := hw.2 c
              refine x_iconst (pc := 97) (v := 1) X d_M_tell_97 (by decide) ?_
              refine x_goto (pc := 98) (tgt := 102) X d_M_tell_98 (by decide) ?_
              refine x_icmp_eq (pc := 102) (tgt := 109) X d_M_tell_102 (by decide) (fun c => absurd c (by decide)) (fun _ => ?_)
              refine x_iconst (pc := 105) (v := 1) X d_M_tell_105 (by decide) ?_
              refine x_goto (pc := 106) (tgt := 147) X d_M_tell_106 (by decide) ?_
              refine x_istore (pc := 147) (lv' := [(0, .ref (q 0)), (1, .int x1), (2, .int x2), (3, .int x3), (4, .int x4), (5, .int x5), (6, .int (σ.2 2 (((nI 40) * x3) + x5).toNatClampNeg)), (7, .int (σ.2 2 (((nI 40) * x4) + x5).toNatClampNeg)), (8, .int 1)]) X d_M_tell_147 (by decide) [1, 2, 3, 4, 5, 6, 7, 8, 0] rfl ?_
              refine x_iload (pc := 149) X d_M_tell_149 8 rfl ?_
              refine x_if_eq (pc := 151) (tgt := 183) X d_M_tell_151 (by decide) (fun c => absurd c (by decide)) (fun _ => ?_)
              refine x_aload_n (pc := 154) X d_M_tell_154 0 rfl ?_
              refine x_get (pc := 155) X tb_M 0 9 (by decide) mw_80 (atM_0 _ _ _) rfl d_M_tell_155 ?_
              refine x_bipush (pc := 158) (v := (nI 120)) X d_M_tell_158 (by decide) ?_
              refine x_iload_n (pc := 160) X d_M_tell_160 3 rfl ?_
              refine x_imul (pc := 161) X d_M_tell_161 ?_
              refine x_iload (pc := 162) X d_M_tell_162 4 rfl ?_
              refine x_iadd (pc := 164) X d_M_tell_164 ?_
              refine x_iload_n (pc := 165) X d_M_tell_165 1 rfl ?_
              obtain ⟨h15, hw⟩ := hw
              refine x_iast (pc := 166) (ws' := (wM (zI Z) q (ua σ 3 (((nI 120) * x3) + x4).toNatClampNeg x1))) X 4 (atM_4 _ _ _) h15 (stM_4 _ _ _ _) d_M_tell_166 ?_
              refine x_aload_n (pc := 167) X d_M_tell_167 0 rfl ?_
              refine x_get (pc := 168) X tb_M 0 10 (by decide) mw_81 (atM_0 _ _ _) rfl d_M_tell_168 ?_
              refine x_bipush (pc := 171) (v := (nI 120)) X d_M_tell_171 (by decide) ?_
              refine x_iload_n (pc := 173) X d_M_tell_173 3 rfl ?_
              refine x_imul (pc := 174) X d_M_tell_174 ?_
              refine x_iload (pc := 175) X d_M_tell_175 4 rfl ?_
              refine x_iadd (pc := 177) X d_M_tell_177 ?_
              refine x_iload (pc := 178) X d_M_tell_178 5 rfl ?_
              obtain ⟨h16, hw⟩ := hw
              refine x_iast (pc := 180) (ws' := (wM (zI Z) q (ua (ua σ 3 (((nI 120) * x3) + x4).toNatClampNeg x1) 4 (((nI 120) * x3) + x4).toNatClampNeg x5))) X 5 (atM_5 _ _ _) h16 (stM_5 _ _ _ _) d_M_tell_180 ?_
              refine x_iconst (pc := 181) (v := 1) X d_M_tell_181 (by decide) ?_
              refine x_istore_n (pc := 182) (lv' := [(0, .ref (q 0)), (1, .int x1), (2, .int 1), (3, .int x3), (4, .int x4), (5, .int x5), (6, .int (σ.2 2 (((nI 40) * x3) + x5).toNatClampNeg)), (7, .int (σ.2 2 (((nI 40) * x4) + x5).toNatClampNeg)), (8, .int 1)]) X d_M_tell_182 (by decide) [1, 2, 0, 3, 4, 5, 6, 7, 8] rfl ?_
              refine x_iinc (pc := 183) (d := 1) (lv' := [(0, .ref (q 0)), (1, .int x1), (2, .int 1), (3, .int x3), (4, .int x4), (5, .int (x5 + 1)), (6, .int (σ.2 2 (((nI 40) * x3) + x5).toNatClampNeg)), (7, .int (σ.2 2 (((nI 40) * x4) + x5).toNatClampNeg)), (8, .int 1)]) X d_M_tell_183 5 rfl (by decide) (by decide) [1, 2, 3, 4, 5, 0, 6, 7, 8] rfl ?_
              refine x_goto (pc := 186) (tgt := 24) X d_M_tell_186 (by decide) ?_
              refine x_drop [0, 1, 2, 3, 4, 5] rfl ?_
              exact ih x1 1 x3 x4 (x5 + 1) (ua (ua σ 3 (((nI 120) * x3) + x4).toNatClampNeg x1) 4 (((nI 120) * x3) + x4).toNatClampNeg x5) hw
          · have hw := hw.2 c
            refine x_iconst (pc := 87) (v := 1) X d_M_tell_87 (by decide) ?_
            refine x_goto (pc := 88) (tgt := 92) X d_M_tell_88 (by decide) ?_
            refine x_iload (pc := 92) X d_M_tell_92 7 rfl ?_
            refine x_if_ge (pc := 94) (tgt := 101) X d_M_tell_94 (by decide) (fun c => ?_) (fun c => ?_)
            · have hw := hw.1 c
              refine x_iconst (pc := 101) (v := 0) X d_M_tell_101 (by decide) ?_
              refine x_icmp_eq (pc := 102) (tgt := 109) X d_M_tell_102 (by decide) (fun c => absurd c (by decide)) (fun _ => ?_)
              refine x_iconst (pc := 105) (v := 1) X d_M_tell_105 (by decide) ?_
              refine x_goto (pc := 106) (tgt := 147) X d_M_tell_106 (by decide) ?_
              refine x_istore (pc := 147) (lv' := [(0, .ref (q 0)), (1, .int x1), (2, .int x2), (3, .int x3), (4, .int x4), (5, .int x5), (6, .int (σ.2 2 (((nI 40) * x3) + x5).toNatClampNeg)), (7, .int (σ.2 2 (((nI 40) * x4) + x5).toNatClampNeg)), (8, .int 1)]) X d_M_tell_147 (by decide) [1, 2, 3, 4, 5, 6, 7, 8, 0] rfl ?_
              refine x_iload (pc := 149) X d_M_tell_149 8 rfl ?_
              refine x_if_eq (pc := 151) (tgt := 183) X d_M_tell_151 (by decide) (fun c => absurd c (by decide)) (fun _ => ?_)
              refine x_aload_n (pc := 154) X d_M_tell_154 0 rfl ?_
              refine x_get (pc := 155) X tb_M 0 9 (by decide) mw_80 (atM_0 _ _ _) rfl d_M_tell_155 ?_
              refine x_bipush (pc := 158) (v := (nI 120)) X d_M_tell_158 (by decide) ?_
              refine x_iload_n (pc := 160) X d_M_tell_160 3 rfl ?_
              refine x_imul (pc := 161) X d_M_tell_161 ?_
              refine x_iload (pc := 162) X d_M_tell_162 4 rfl ?_
              refine x_iadd (pc := 164) X d_M_tell_164 ?_
              refine x_iload_n (pc := 165) X d_M_tell_165 1 rfl ?_
              obtain ⟨h17, hw⟩ := hw
              refine x_iast (pc := 166) (ws' := (wM (zI Z) q (ua σ 3 (((nI 120) * x3) + x4).toNatClampNeg x1))) X 4 (atM_4 _ _ _) h17 (stM_4 _ _ _ _) d_M_tell_166 ?_
              refine x_aload_n (pc := 167) X d_M_tell_167 0 rfl ?_
              refine x_get (pc := 168) X tb_M 0 10 (by decide) mw_81 (atM_0 _ _ _) rfl d_M_tell_168 ?_
              refine x_bipush (pc := 171) (v := (nI 120)) X d_M_tell_171 (by decide) ?_
              refine x_iload_n (pc := 173) X d_M_tell_173 3 rfl ?_
              refine x_imul (pc := 174) X d_M_tell_174 ?_
              refine x_iload (pc := 175) X d_M_tell_175 4 rfl ?_
              refine x_iadd (pc := 177) X d_M_tell_177 ?_
              refine x_iload (pc := 178) X d_M_tell_178 5 rfl ?_
              obtain ⟨h18, hw⟩ := hw
              refine x_iast (pc := 180) (ws' := (wM (zI Z) q (ua (ua σ 3 (((nI 120) * x3) + x4).toNatClampNeg x1) 4 (((nI 120) * x3) + x4).toNatClampNeg x5))) X 5 (atM_5 _ _ _) h18 (stM_5 _ _ _ _) d_M_tell_180 ?_
              refine x_iconst (pc := 181) (v := 1) X d_M_tell_181 (by decide) ?_
              refine x_istore_n (pc := 182) (lv' := [(0, .ref (q 0)), (1, .int x1), (2, .int 1), (3, .int x3), (4, .int x4), (5, .int x5), (6, .int (σ.2 2 (((nI 40) * x3) + x5).toNatClampNeg)), (7, .int (σ.2 2 (((nI 40) * x4) + x5).toNatClampNeg)), (8, .int 1)]) X d_M_tell_182 (by decide) [1, 2, 0, 3, 4, 5, 6, 7, 8] rfl ?_
              refine x_iinc (pc := 183) (d := 1) (lv' := [(0, .ref (q 0)), (1, .int x1), (2, .int 1), (3, .int x3), (4, .int x4), (5, .int (x5 + 1)), (6, .int (σ.2 2 (((nI 40) * x3) + x5).toNatClampNeg)), (7, .int (σ.2 2 (((nI 40) * x4) + x5).toNatClampNeg)), (8, .int 1)]) X d_M_tell_183 5 rfl (by decide) (by decide) [1, 2, 3, 4, 5, 0, 6, 7, 8] rfl ?_
              refine x_goto (pc := 186) (tgt := 24) X d_M_tell_186 (by decide) ?_
              refine x_drop [0, 1, 2, 3, 4, 5] rfl ?_
              exact ih x1 1 x3 x4 (x5 + 1) (ua (ua σ 3 (((nI 120) * x3) + x4).toNatClampNeg x1) 4 (((nI 120) * x3) + x4).toNatClampNeg x5) hw
            · have hw := hw.2 c
              refine x_iconst (pc := 97) (v := 1) X d_M_tell_97 (by decide) ?_
              refine x_goto (pc := 98) (tgt := 102) X d_M_tell_98 (by decide) ?_
              refine x_icmp_eq (pc := 102) (tgt := 109) X d_M_tell_102 (by decide) (fun _ => ?_) (fun c => absurd c (by decide))
              refine x_iconst (pc := 109) (v := 0) X d_M_tell_109 (by decide) ?_
              refine x_goto (pc := 110) (tgt := 147) X d_M_tell_110 (by decide) ?_
              refine x_istore (pc := 147) (lv' := [(0, .ref (q 0)), (1, .int x1), (2, .int x2), (3, .int x3), (4, .int x4), (5, .int x5), (6, .int (σ.2 2 (((nI 40) * x3) + x5).toNatClampNeg)), (7, .int (σ.2 2 (((nI 40) * x4) + x5).toNatClampNeg)), (8, .int 0)]) X d_M_tell_147 (by decide) [1, 2, 3, 4, 5, 6, 7, 8, 0] rfl ?_
              refine x_iload (pc := 149) X d_M_tell_149 8 rfl ?_
              refine x_if_eq (pc := 151) (tgt := 183) X d_M_tell_151 (by decide) (fun _ => ?_) (fun c => absurd c (by decide))
              refine x_iinc (pc := 183) (d := 1) (lv' := [(0, .ref (q 0)), (1, .int x1), (2, .int x2), (3, .int x3), (4, .int x4), (5, .int (x5 + 1)), (6, .int (σ.2 2 (((nI 40) * x3) + x5).toNatClampNeg)), (7, .int (σ.2 2 (((nI 40) * x4) + x5).toNatClampNeg)), (8, .int 0)]) X d_M_tell_183 5 rfl (by decide) (by decide) [1, 2, 3, 4, 5, 0, 6, 7, 8] rfl ?_
              refine x_goto (pc := 186) (tgt := 24) X d_M_tell_186 (by decide) ?_
              refine x_drop [0, 1, 2, 3, 4, 5] rfl ?_
              exact ih x1 x2 x3 x4 (x5 + 1) σ hw
set_option maxHeartbeats 4000000 in
set_option maxRecDepth 100000 in
theorem wL_M_tell_15 {Z : ZT} {q : Nat → Nat} {post : Int32 → St → Prop} {K : Int32 → Int32 → Int32 → St → Prop} (X : Cx Z "WayTableModel" b_M_tell rm_M_tell 9) (hR : RI Z b_M_tell .boolean (wM (zI Z) q) post) (hK : ∀ (x1 x2 x3 : Int32) (σ : St), K x1 x2 x3 σ → VV Z 0 0 (wM (zI Z) q σ) [(0, .ref (q 0)), (1, .int x1), (2, .int x2), (3, .int x3)] 4 []) : ∀ (n : Nat) (x1 x2 x3 x4 : Int32) (σ : St), L_M_tell_15 post K n x1 x2 x3 x4 σ → VV Z 0 0 (wM (zI Z) q σ) [(0, .ref (q 0)), (1, .int x1), (2, .int x2), (3, .int x3), (4, .int x4)] 15 [] := by
  intro n
  induction n with
  | zero => intro x1 x2 x3 x4 σ hw; exact False.elim hw
  | succ n ih =>
    intro x1 x2 x3 x4 σ hw
    unfold L_M_tell_15 at hw
    refine x_iload (pc := 15) X d_M_tell_15 4 rfl ?_
    refine x_iload_n (pc := 17) X d_M_tell_17 3 rfl ?_
    refine x_icmp_ge (pc := 18) (tgt := 243) X d_M_tell_18 (by decide) (fun c => ?_) (fun c => ?_)
    · have hw := hw.1 c
      refine x_iinc (pc := 243) (d := 1) (lv' := [(0, .ref (q 0)), (1, .int x1), (2, .int x2), (3, .int (x3 + 1)), (4, .int x4)]) X d_M_tell_243 3 rfl (by decide) (by decide) [1, 2, 3, 0, 4] rfl ?_
      refine x_goto (pc := 246) (tgt := 4) X d_M_tell_246 (by decide) ?_
      refine x_drop [0, 1, 2, 3] rfl ?_
      exact hK x1 x2 (x3 + 1) σ hw
    · have hw := hw.2 c
      refine x_iconst (pc := 21) (v := 0) X d_M_tell_21 (by decide) ?_
      refine x_istore (pc := 22) (lv' := [(0, .ref (q 0)), (1, .int x1), (2, .int x2), (3, .int x3), (4, .int x4), (5, .int 0)]) X d_M_tell_22 (by decide) [1, 2, 3, 4, 5, 0] rfl ?_
      obtain ⟨n2, hw⟩ := hw
      exact wL_M_tell_24 X hR ih n2 x1 x2 x3 x4 0 σ hw
set_option maxHeartbeats 4000000 in
set_option maxRecDepth 100000 in
theorem wL_M_tell_4 {Z : ZT} {q : Nat → Nat} {post : Int32 → St → Prop} (X : Cx Z "WayTableModel" b_M_tell rm_M_tell 9) (hR : RI Z b_M_tell .boolean (wM (zI Z) q) post) : ∀ (n : Nat) (x1 x2 x3 : Int32) (σ : St), L_M_tell_4 post n x1 x2 x3 σ → VV Z 0 0 (wM (zI Z) q σ) [(0, .ref (q 0)), (1, .int x1), (2, .int x2), (3, .int x3)] 4 [] := by
  intro n
  induction n with
  | zero => intro x1 x2 x3 σ hw; exact False.elim hw
  | succ n ih =>
    intro x1 x2 x3 σ hw
    unfold L_M_tell_4 at hw
    refine x_iload_n (pc := 4) X d_M_tell_4 3 rfl ?_
    refine x_aload_n (pc := 5) X d_M_tell_5 0 rfl ?_
    refine x_get (pc := 6) X tb_M 0 5 (by decide) mw_78 (atM_0 _ _ _) rfl d_M_tell_6 ?_
    refine x_icmp_ge (pc := 9) (tgt := 249) X d_M_tell_9 (by decide) (fun c => ?_) (fun c => ?_)
    · have hw := hw.1 c
      refine x_iload_n (pc := 249) X d_M_tell_249 2 rfl ?_
      exact hR _ _ _ _ d_M_tell_250 hw.1 hw.2
    · have hw := hw.2 c
      refine x_iconst (pc := 12) (v := 0) X d_M_tell_12 (by decide) ?_
      refine x_istore (pc := 13) (lv' := [(0, .ref (q 0)), (1, .int x1), (2, .int x2), (3, .int x3), (4, .int 0)]) X d_M_tell_13 (by decide) [1, 2, 3, 4, 0] rfl ?_
      obtain ⟨n2, hw⟩ := hw
      exact wL_M_tell_15 X hR ih n2 x1 x2 x3 0 σ hw
set_option maxHeartbeats 4000000 in
set_option maxRecDepth 100000 in
theorem c_M_tell (l : Launch) (D : va_G) (cI : ClassId) (q : Nat → Nat) (σ : St) (x1 : Int32) (post : Int32 → St → Prop) (hw : wp_M_tell x1 σ post) : CI l D cI (wM cI q) y_M_tell b_M_tell 9 .boolean rm_M_tell [.ref (q 0), .int x1] σ post := by
  refine CI_of (by decide) (Nat.le_of_ble_eq_true rfl) ?_
  intro Z hZl hZD hZI X hR
  subst hZl; subst hZD; subst hZI
  unfold wp_M_tell at hw
  show VV Z 0 0 (wM (zI Z) q σ) [(0, .ref (q 0)), (1, .int x1)] 0 []
  refine x_iconst (pc := 0) (v := 0) X d_M_tell_0 (by decide) ?_
  refine x_istore_n (pc := 1) (lv' := [(0, .ref (q 0)), (1, .int x1), (2, .int 0)]) X d_M_tell_1 (by decide) [1, 2, 0] rfl ?_
  refine x_iconst (pc := 2) (v := 0) X d_M_tell_2 (by decide) ?_
  refine x_istore_n (pc := 3) (lv' := [(0, .ref (q 0)), (1, .int x1), (2, .int 0), (3, .int 0)]) X d_M_tell_3 (by decide) [1, 2, 3, 0] rfl ?_
  obtain ⟨n2, hw⟩ := hw
  exact wL_M_tell_4 X hR n2 x1 0 0 σ hw
def rm_M_leastLike : Room := { frames := 0, cells := 0, slots := 0, locals := 0 }
set_option maxHeartbeats 4000000 in
set_option maxRecDepth 100000 in
theorem wL_M_leastLike_2 {Z : ZT} {q : Nat → Nat} {post : Int32 → St → Prop} (X : Cx Z "WayTableModel" b_M_leastLike rm_M_leastLike 3) (hR : RI Z b_M_leastLike .int (wM (zI Z) q) post) : ∀ (n : Nat) (x1 x2 : Int32) (σ : St), L_M_leastLike_2 post n x1 x2 σ → VV Z 0 0 (wM (zI Z) q σ) [(0, .ref (q 0)), (1, .int x1), (2, .int x2)] 2 [] := by
  intro n
  induction n with
  | zero => intro x1 x2 σ hw; exact False.elim hw
  | succ n ih =>
    intro x1 x2 σ hw
    unfold L_M_leastLike_2 at hw
    refine x_aload_n (pc := 2) X d_M_leastLike_2 0 rfl ?_
    refine x_get (pc := 3) X tb_M 0 9 (by decide) mw_80 (atM_0 _ _ _) rfl d_M_leastLike_3 ?_
    refine x_bipush (pc := 6) (v := (nI 120)) X d_M_leastLike_6 (by decide) ?_
    refine x_iload_n (pc := 8) X d_M_leastLike_8 1 rfl ?_
    refine x_imul (pc := 9) X d_M_leastLike_9 ?_
    refine x_iload_n (pc := 10) X d_M_leastLike_10 2 rfl ?_
    refine x_iadd (pc := 11) X d_M_leastLike_11 ?_
    obtain ⟨h1, hw⟩ := hw
    refine x_iald (pc := 12) X 4 (atM_4 _ _ _) h1 d_M_leastLike_12 ?_
    refine x_if_le (pc := 13) (tgt := 22) X d_M_leastLike_13 (by decide) (fun c => ?_) (fun c => ?_)
    · have hw := hw.1 c
      refine x_iload_n (pc := 22) X d_M_leastLike_22 2 rfl ?_
      exact hR _ _ _ _ d_M_leastLike_23 (vp_nar_int _) hw
    · have hw := hw.2 c
      refine x_iinc (pc := 16) (d := 1) (lv' := [(0, .ref (q 0)), (1, .int x1), (2, .int (x2 + 1))]) X d_M_leastLike_16 2 rfl (by decide) (by decide) [1, 2, 0] rfl ?_
      refine x_goto (pc := 19) (tgt := 2) X d_M_leastLike_19 (by decide) ?_
      exact ih x1 (x2 + 1) σ hw
set_option maxHeartbeats 4000000 in
set_option maxRecDepth 100000 in
theorem c_M_leastLike (l : Launch) (D : va_G) (cI : ClassId) (q : Nat → Nat) (σ : St) (x1 : Int32) (post : Int32 → St → Prop) (hw : wp_M_leastLike x1 σ post) : CI l D cI (wM cI q) y_M_leastLike b_M_leastLike 3 .int rm_M_leastLike [.ref (q 0), .int x1] σ post := by
  refine CI_of (by decide) (Nat.le_of_ble_eq_true rfl) ?_
  intro Z hZl hZD hZI X hR
  subst hZl; subst hZD; subst hZI
  unfold wp_M_leastLike at hw
  show VV Z 0 0 (wM (zI Z) q σ) [(0, .ref (q 0)), (1, .int x1)] 0 []
  refine x_iconst (pc := 0) (v := 0) X d_M_leastLike_0 (by decide) ?_
  refine x_istore_n (pc := 1) (lv' := [(0, .ref (q 0)), (1, .int x1), (2, .int 0)]) X d_M_leastLike_1 (by decide) [1, 2, 0] rfl ?_
  obtain ⟨n2, hw⟩ := hw
  exact wL_M_leastLike_2 X hR n2 x1 0 σ hw
end
section
def rm_M_make : Room := { frames := 2, cells := 0, slots := 0, locals := 49 }
set_option maxHeartbeats 4000000 in
set_option maxRecDepth 100000 in
theorem wL_M_make_288 {Z : ZT} {q : Nat → Nat} {post : Int32 → St → Prop} (X : Cx Z "WayTableModel" b_M_make rm_M_make 7) (hR : RI Z b_M_make .int (wM (zI Z) q) post) : ∀ (n : Nat) (x1 x2 x3 : Int32) (σ : St), L_M_make_288 post n x1 x2 x3 σ → VV Z 0 0 (wM (zI Z) q σ) [(0, .ref (q 0)), (1, .int x1), (2, .int x2), (3, .int x3)] 288 [] := by
  intro n
  induction n with
  | zero => intro x1 x2 x3 σ hw; exact False.elim hw
  | succ n ih =>
    intro x1 x2 x3 σ hw
    unfold L_M_make_288 at hw
    refine x_iload_n (pc := 288) X d_M_make_288 3 rfl ?_
    refine x_iload_n (pc := 289) X d_M_make_289 1 rfl ?_
    refine x_icmp_ge (pc := 290) (tgt := 315) X d_M_make_290 (by decide) (fun c => ?_) (fun c => ?_)
    · have hw := hw.1 c
      refine x_aload_n (pc := 315) X d_M_make_315 0 rfl ?_
      refine x_iconst (pc := 316) (v := 0) X d_M_make_316 (by decide) ?_
      refine x_put (pc := 317) (ws' := (wM (zI Z) q (us σ 7 0))) X tb_M 0 14 (by decide) mw_87 (atM_0 _ _ _) rfl pI (Nat.le_of_ble_eq_true rfl) (ptM_7 _ _ _ _) d_M_make_317 ?_
      refine x_aload_n (pc := 320) X d_M_make_320 0 rfl ?_
      refine x_get (pc := 321) X tb_M 0 13 (by decide) mw_86 (atM_0 _ _ _) rfl d_M_make_321 ?_
      exact hR _ _ _ _ d_M_make_324 (vp_nar_int _) hw
    · have hw := hw.2 c
      refine x_aload_n (pc := 293) X d_M_make_293 0 rfl ?_
      refine x_get (pc := 294) X tb_M 0 11 (by decide) mw_84 (atM_0 _ _ _) rfl d_M_make_294 ?_
      refine x_iload_n (pc := 297) X d_M_make_297 3 rfl ?_
      refine x_aload_n (pc := 298) X d_M_make_298 0 rfl ?_
      refine x_get (pc := 299) X tb_M 0 11 (by decide) mw_84 (atM_0 _ _ _) rfl d_M_make_299 ?_
      refine x_aload_n (pc := 302) X d_M_make_302 0 rfl ?_
      refine x_iload_n (pc := 303) X d_M_make_303 3 rfl ?_
      refine x_cvi (pc := 304) X [.int x3] (c_M_leastLike (zl Z) (zD Z) (zI Z) q σ x3 _ hw) mv_M_leastLike tb_M 0 (atM_0 _ _ _) mw_88 d_M_make_304 rfl (Nat.le_of_ble_eq_true rfl) ⟨Nat.le_of_ble_eq_true rfl, Nat.le_of_ble_eq_true rfl⟩ ⟨rfl, rfl⟩ ⟨Nat.zero_le _, Nat.zero_le _⟩ ?_
      intro r5 σ5 hw
      obtain ⟨h6, hw⟩ := hw
      refine x_iald (pc := 307) X 6 (atM_6 _ _ _) h6 d_M_make_307 ?_
      obtain ⟨h7, hw⟩ := hw
      refine x_iast (pc := 308) (ws' := (wM (zI Z) q (ua σ5 5 x3.toNatClampNeg (σ5.2 5 r5.toNatClampNeg)))) X 6 (atM_6 _ _ _) h7 (stM_6 _ _ _ _) d_M_make_308 ?_
      refine x_iinc (pc := 309) (d := 1) (lv' := [(0, .ref (q 0)), (1, .int x1), (2, .int x2), (3, .int (x3 + 1))]) X d_M_make_309 3 rfl (by decide) (by decide) [1, 2, 3, 0] rfl ?_
      refine x_goto (pc := 312) (tgt := 288) X d_M_make_312 (by decide) ?_
      exact ih x1 x2 (x3 + 1) (ua σ5 5 x3.toNatClampNeg (σ5.2 5 r5.toNatClampNeg)) hw
set_option maxHeartbeats 4000000 in
set_option maxRecDepth 100000 in
theorem wL_M_make_182 {Z : ZT} {q : Nat → Nat} {post : Int32 → St → Prop} {K : Int32 → Int32 → Int32 → St → Prop} (X : Cx Z "WayTableModel" b_M_make rm_M_make 7) (hR : RI Z b_M_make .int (wM (zI Z) q) post) (hK : ∀ (x1 x2 x3 : Int32) (σ : St), K x1 x2 x3 σ → VV Z 0 0 (wM (zI Z) q σ) [(0, .ref (q 0)), (1, .int x1), (2, .int x2), (3, .int x3)] 171 []) : ∀ (n : Nat) (x1 x2 x3 x4 : Int32) (σ : St), L_M_make_182 post K n x1 x2 x3 x4 σ → VV Z 0 0 (wM (zI Z) q σ) [(0, .ref (q 0)), (1, .int x1), (2, .int x2), (3, .int x3), (4, .int x4)] 182 [] := by
  intro n
  induction n with
  | zero => intro x1 x2 x3 x4 σ hw; exact False.elim hw
  | succ n ih =>
    intro x1 x2 x3 x4 σ hw
    unfold L_M_make_182 at hw
    refine x_iload (pc := 182) X d_M_make_182 4 rfl ?_
    refine x_aload_n (pc := 184) X d_M_make_184 0 rfl ?_
    refine x_get (pc := 185) X tb_M 0 2 (by decide) mw_9 (atM_0 _ _ _) rfl d_M_make_185 ?_
    refine x_icmp_ge (pc := 188) (tgt := 280) X d_M_make_188 (by decide) (fun c => ?_) (fun c => ?_)
    · have hw := hw.1 c
      refine x_iinc (pc := 280) (d := 1) (lv' := [(0, .ref (q 0)), (1, .int x1), (2, .int x2), (3, .int (x3 + 1)), (4, .int x4)]) X d_M_make_280 3 rfl (by decide) (by decide) [1, 2, 3, 0, 4] rfl ?_
      refine x_goto (pc := 283) (tgt := 171) X d_M_make_283 (by decide) ?_
      refine x_drop [0, 1, 2, 3] rfl ?_
      exact hK x1 x2 (x3 + 1) σ hw
    · have hw := hw.2 c
      refine x_aload_n (pc := 191) X d_M_make_191 0 rfl ?_
      refine x_get (pc := 192) X tb_M 0 8 (by decide) mw_82 (atM_0 _ _ _) rfl d_M_make_192 ?_
      refine x_bipush (pc := 195) (v := (nI 40)) X d_M_make_195 (by decide) ?_
      refine x_aload_n (pc := 197) X d_M_make_197 0 rfl ?_
      refine x_get (pc := 198) X tb_M 0 12 (by decide) mw_85 (atM_0 _ _ _) rfl d_M_make_198 ?_
      refine x_iload_n (pc := 201) X d_M_make_201 3 rfl ?_
      obtain ⟨h8, hw⟩ := hw
      refine x_iald (pc := 202) X 7 (atM_7 _ _ _) h8 d_M_make_202 ?_
      refine x_imul (pc := 203) X d_M_make_203 ?_
      refine x_iload (pc := 204) X d_M_make_204 4 rfl ?_
      refine x_iadd (pc := 206) X d_M_make_206 ?_
      obtain ⟨h9, hw⟩ := hw
      refine x_iald (pc := 207) X 3 (atM_3 _ _ _) h9 d_M_make_207 ?_
      refine x_istore (pc := 208) (lv' := [(0, .ref (q 0)), (1, .int x1), (2, .int x2), (3, .int x3), (4, .int x4), (5, .int (σ.2 2 (((nI 40) * (σ.2 6 x3.toNatClampNeg)) + x4).toNatClampNeg))]) X d_M_make_208 (by decide) [1, 2, 3, 4, 5, 0] rfl ?_
      refine x_iload (pc := 210) X d_M_make_210 5 rfl ?_
      refine x_if_ge (pc := 212) (tgt := 219) X d_M_make_212 (by decide) (fun c => ?_) (fun c => ?_)
      · have hw := hw.1 c
        refine x_aload_n (pc := 219) X d_M_make_219 0 rfl ?_
        refine x_iload (pc := 220) X d_M_make_220 5 rfl ?_
        refine x_cvi (pc := 222) X [.int (σ.2 2 (((nI 40) * (σ.2 6 x3.toNatClampNeg)) + x4).toNatClampNeg)] (c_M_leastLike (zl Z) (zD Z) (zI Z) q σ (σ.2 2 (((nI 40) * (σ.2 6 x3.toNatClampNeg)) + x4).toNatClampNeg) _ hw) mv_M_leastLike tb_M 0 (atM_0 _ _ _) mw_88 d_M_make_222 rfl (Nat.le_of_ble_eq_true rfl) ⟨Nat.le_of_ble_eq_true rfl, Nat.le_of_ble_eq_true rfl⟩ ⟨rfl, rfl⟩ ⟨Nat.zero_le _, Nat.zero_le _⟩ ?_
        intro r10 σ10 hw
        refine x_istore (pc := 225) (lv' := [(0, .ref (q 0)), (1, .int x1), (2, .int x2), (3, .int x3), (4, .int x4), (5, .int (σ.2 2 (((nI 40) * (σ.2 6 x3.toNatClampNeg)) + x4).toNatClampNeg)), (6, .int r10)]) X d_M_make_225 (by decide) [1, 2, 3, 4, 5, 6, 0] rfl ?_
        refine x_iload (pc := 227) X d_M_make_227 5 rfl ?_
        refine x_if_lt (pc := 229) (tgt := 274) X d_M_make_229 (by decide) (fun c => ?_) (fun c => ?_)
        · have hw := hw.1 c
          refine x_iinc (pc := 274) (d := 1) (lv' := [(0, .ref (q 0)), (1, .int x1), (2, .int x2), (3, .int x3), (4, .int (x4 + 1)), (5, .int (σ.2 2 (((nI 40) * (σ.2 6 x3.toNatClampNeg)) + x4).toNatClampNeg)), (6, .int r10)]) X d_M_make_274 4 rfl (by decide) (by decide) [1, 2, 3, 4, 0, 5, 6] rfl ?_
          refine x_goto (pc := 277) (tgt := 182) X d_M_make_277 (by decide) ?_
          refine x_drop [0, 1, 2, 3, 4] rfl ?_
          exact ih x1 x2 x3 (x4 + 1) σ10 hw
        · have hw := hw.2 c
          refine x_aload_n (pc := 232) X d_M_make_232 0 rfl ?_
          refine x_get (pc := 233) X tb_M 0 11 (by decide) mw_84 (atM_0 _ _ _) rfl d_M_make_233 ?_
          refine x_iload (pc := 236) X d_M_make_236 6 rfl ?_
          obtain ⟨h11, hw⟩ := hw
          refine x_iald (pc := 238) X 6 (atM_6 _ _ _) h11 d_M_make_238 ?_
          refine x_if_ge (pc := 239) (tgt := 274) X d_M_make_239 (by decide) (fun c => ?_) (fun c => ?_)
          · have hw := hw.1 c
            refine x_iinc (pc := 274) (d := 1) (lv' := [(0, .ref (q 0)), (1, .int x1), (2, .int x2), (3, .int x3), (4, .int (x4 + 1)), (5, .int (σ.2 2 (((nI 40) * (σ.2 6 x3.toNatClampNeg)) + x4).toNatClampNeg)), (6, .int r10)]) X d_M_make_274 4 rfl (by decide) (by decide) [1, 2, 3, 4, 0, 5, 6] rfl ?_
            refine x_goto (pc := 277) (tgt := 182) X d_M_make_277 (by decide) ?_
            refine x_drop [0, 1, 2, 3, 4] rfl ?_
            exact ih x1 x2 x3 (x4 + 1) σ10 hw
          · have hw := hw.2 c
            refine x_aload_n (pc := 242) X d_M_make_242 0 rfl ?_
            refine x_get (pc := 243) X tb_M 0 11 (by decide) mw_84 (atM_0 _ _ _) rfl d_M_make_243 ?_
            refine x_iload (pc := 246) X d_M_make_246 6 rfl ?_
            refine x_aload_n (pc := 248) X d_M_make_248 0 rfl ?_
            refine x_get (pc := 249) X tb_M 0 13 (by decide) mw_86 (atM_0 _ _ _) rfl d_M_make_249 ?_
            obtain ⟨h12, hw⟩ := hw
            refine x_iast (pc := 252) (ws' := (wM (zI Z) q (ua σ10 5 r10.toNatClampNeg (σ10.1 6)))) X 6 (atM_6 _ _ _) h12 (stM_6 _ _ _ _) d_M_make_252 ?_
            refine x_aload_n (pc := 253) X d_M_make_253 0 rfl ?_
            refine x_get (pc := 254) X tb_M 0 12 (by decide) mw_85 (atM_0 _ _ _) rfl d_M_make_254 ?_
            refine x_aload_n (pc := 257) X d_M_make_257 0 rfl ?_
            refine x_get (pc := 258) X tb_M 0 13 (by decide) mw_86 (atM_0 _ _ _) rfl d_M_make_258 ?_
            refine x_iload (pc := 261) X d_M_make_261 6 rfl ?_
            obtain ⟨h13, hw⟩ := hw
            refine x_iast (pc := 263) (ws' := (wM (zI Z) q (ua (ua σ10 5 r10.toNatClampNeg (σ10.1 6)) 6 ((ua σ10 5 r10.toNatClampNeg (σ10.1 6)).1 6).toNatClampNeg r10))) X 7 (atM_7 _ _ _) h13 (stM_7 _ _ _ _) d_M_make_263 ?_
            refine x_aload_n (pc := 264) X d_M_make_264 0 rfl ?_
            refine x_dup (pc := 265) X d_M_make_265 rfl ?_
            refine x_get (pc := 266) X tb_M 0 13 (by decide) mw_86 (atM_0 _ _ _) rfl d_M_make_266 ?_
            refine x_iconst (pc := 269) (v := 1) X d_M_make_269 (by decide) ?_
            refine x_iadd (pc := 270) X d_M_make_270 ?_
            refine x_put (pc := 271) (ws' := (wM (zI Z) q (us (ua (ua σ10 5 r10.toNatClampNeg (σ10.1 6)) 6 ((ua σ10 5 r10.toNatClampNeg (σ10.1 6)).1 6).toNatClampNeg r10) 6 (((ua (ua σ10 5 r10.toNatClampNeg (σ10.1 6)) 6 ((ua σ10 5 r10.toNatClampNeg (σ10.1 6)).1 6).toNatClampNeg r10).1 6) + 1)))) X tb_M 0 13 (by decide) mw_86 (atM_0 _ _ _) rfl pI (Nat.le_of_ble_eq_true rfl) (ptM_6 _ _ _ _) d_M_make_271 ?_
            refine x_iinc (pc := 274) (d := 1) (lv' := [(0, .ref (q 0)), (1, .int x1), (2, .int x2), (3, .int x3), (4, .int (x4 + 1)), (5, .int (σ.2 2 (((nI 40) * (σ.2 6 x3.toNatClampNeg)) + x4).toNatClampNeg)), (6, .int r10)]) X d_M_make_274 4 rfl (by decide) (by decide) [1, 2, 3, 4, 0, 5, 6] rfl ?_
            refine x_goto (pc := 277) (tgt := 182) X d_M_make_277 (by decide) ?_
            refine x_drop [0, 1, 2, 3, 4] rfl ?_
            exact ih x1 x2 x3 (x4 + 1) (us (ua (ua σ10 5 r10.toNatClampNeg (σ10.1 6)) 6 ((ua σ10 5 r10.toNatClampNeg (σ10.1 6)).1 6).toNatClampNeg r10) 6 (((ua (ua σ10 5 r10.toNatClampNeg (σ10.1 6)) 6 ((ua σ10 5 r10.toNatClampNeg (σ10.1 6)).1 6).toNatClampNeg r10).1 6) + 1)) hw
      · have hw := hw.2 c
        refine x_iconst (pc := 215) (v := 0) X d_M_make_215 (by decide) ?_
        refine x_goto (pc := 216) (tgt := 225) X d_M_make_216 (by decide) ?_
        refine x_istore (pc := 225) (lv' := [(0, .ref (q 0)), (1, .int x1), (2, .int x2), (3, .int x3), (4, .int x4), (5, .int (σ.2 2 (((nI 40) * (σ.2 6 x3.toNatClampNeg)) + x4).toNatClampNeg)), (6, .int 0)]) X d_M_make_225 (by decide) [1, 2, 3, 4, 5, 6, 0] rfl ?_
        refine x_iload (pc := 227) X d_M_make_227 5 rfl ?_
        refine x_if_lt (pc := 229) (tgt := 274) X d_M_make_229 (by decide) (fun c => ?_) (fun c => ?_)
        · have hw := hw.1 c
          refine x_iinc (pc := 274) (d := 1) (lv' := [(0, .ref (q 0)), (1, .int x1), (2, .int x2), (3, .int x3), (4, .int (x4 + 1)), (5, .int (σ.2 2 (((nI 40) * (σ.2 6 x3.toNatClampNeg)) + x4).toNatClampNeg)), (6, .int 0)]) X d_M_make_274 4 rfl (by decide) (by decide) [1, 2, 3, 4, 0, 5, 6] rfl ?_
          refine x_goto (pc := 277) (tgt := 182) X d_M_make_277 (by decide) ?_
          refine x_drop [0, 1, 2, 3, 4] rfl ?_
          exact ih x1 x2 x3 (x4 + 1) σ hw
        · have hw := hw.2 c
          refine x_aload_n (pc := 232) X d_M_make_232 0 rfl ?_
          refine x_get (pc := 233) X tb_M 0 11 (by decide) mw_84 (atM_0 _ _ _) rfl d_M_make_233 ?_
          refine x_iload (pc := 236) X d_M_make_236 6 rfl ?_
          obtain ⟨h14, hw⟩ := hw
          refine x_iald (pc := 238) X 6 (atM_6 _ _ _) h14 d_M_make_238 ?_
          refine x_if_ge (pc := 239) (tgt := 274) X d_M_make_239 (by decide) (fun c => ?_) (fun c => ?_)
          · have hw := hw.1 c
            refine x_iinc (pc := 274) (d := 1) (lv' := [(0, .ref (q 0)), (1, .int x1), (2, .int x2), (3, .int x3), (4, .int (x4 + 1)), (5, .int (σ.2 2 (((nI 40) * (σ.2 6 x3.toNatClampNeg)) + x4).toNatClampNeg)), (6, .int 0)]) X d_M_make_274 4 rfl (by decide) (by decide) [1, 2, 3, 4, 0, 5, 6] rfl ?_
            refine x_goto (pc := 277) (tgt := 182) X d_M_make_277 (by decide) ?_
            refine x_drop [0, 1, 2, 3, 4] rfl ?_
            exact ih x1 x2 x3 (x4 + 1) σ hw
          · have hw := hw.2 c
            refine x_aload_n (pc := 242) X d_M_make_242 0 rfl ?_
            refine x_get (pc := 243) X tb_M 0 11 (by decide) mw_84 (atM_0 _ _ _) rfl d_M_make_243 ?_
            refine x_iload (pc := 246) X d_M_make_246 6 rfl ?_
            refine x_aload_n (pc := 248) X d_M_make_248 0 rfl ?_
            refine x_get (pc := 249) X tb_M 0 13 (by decide) mw_86 (atM_0 _ _ _) rfl d_M_make_249 ?_
            obtain ⟨h15, hw⟩ := hw
            refine x_iast (pc := 252) (ws' := (wM (zI Z) q (ua σ 5 ((0 : Int32).toNatClampNeg) (σ.1 6)))) X 6 (atM_6 _ _ _) h15 (stM_6 _ _ _ _) d_M_make_252 ?_
            refine x_aload_n (pc := 253) X d_M_make_253 0 rfl ?_
            refine x_get (pc := 254) X tb_M 0 12 (by decide) mw_85 (atM_0 _ _ _) rfl d_M_make_254 ?_
            refine x_aload_n (pc := 257) X d_M_make_257 0 rfl ?_
            refine x_get (pc := 258) X tb_M 0 13 (by decide) mw_86 (atM_0 _ _ _) rfl d_M_make_258 ?_
            refine x_iload (pc := 261) X d_M_make_261 6 rfl ?_
            obtain ⟨h16, hw⟩ := hw
            refine x_iast (pc := 263) (ws' := (wM (zI Z) q (ua (ua σ 5 ((0 : Int32).toNatClampNeg) (σ.1 6)) 6 ((ua σ 5 ((0 : Int32).toNatClampNeg) (σ.1 6)).1 6).toNatClampNeg 0))) X 7 (atM_7 _ _ _) h16 (stM_7 _ _ _ _) d_M_make_263 ?_
            refine x_aload_n (pc := 264) X d_M_make_264 0 rfl ?_
            refine x_dup (pc := 265) X d_M_make_265 rfl ?_
            refine x_get (pc := 266) X tb_M 0 13 (by decide) mw_86 (atM_0 _ _ _) rfl d_M_make_266 ?_
            refine x_iconst (pc := 269) (v := 1) X d_M_make_269 (by decide) ?_
            refine x_iadd (pc := 270) X d_M_make_270 ?_
            refine x_put (pc := 271) (ws' := (wM (zI Z) q (us (ua (ua σ 5 ((0 : Int32).toNatClampNeg) (σ.1 6)) 6 ((ua σ 5 ((0 : Int32).toNatClampNeg) (σ.1 6)).1 6).toNatClampNeg 0) 6 (((ua (ua σ 5 ((0 : Int32).toNatClampNeg) (σ.1 6)) 6 ((ua σ 5 ((0 : Int32).toNatClampNeg) (σ.1 6)).1 6).toNatClampNeg 0).1 6) + 1)))) X tb_M 0 13 (by decide) mw_86 (atM_0 _ _ _) rfl pI (Nat.le_of_ble_eq_true rfl) (ptM_6 _ _ _ _) d_M_make_271 ?_
            refine x_iinc (pc := 274) (d := 1) (lv' := [(0, .ref (q 0)), (1, .int x1), (2, .int x2), (3, .int x3), (4, .int (x4 + 1)), (5, .int (σ.2 2 (((nI 40) * (σ.2 6 x3.toNatClampNeg)) + x4).toNatClampNeg)), (6, .int 0)]) X d_M_make_274 4 rfl (by decide) (by decide) [1, 2, 3, 4, 0, 5, 6] rfl ?_
            refine x_goto (pc := 277) (tgt := 182) X d_M_make_277 (by decide) ?_
            refine x_drop [0, 1, 2, 3, 4] rfl ?_
            exact ih x1 x2 x3 (x4 + 1) (us (ua (ua σ 5 ((0 : Int32).toNatClampNeg) (σ.1 6)) 6 ((ua σ 5 ((0 : Int32).toNatClampNeg) (σ.1 6)).1 6).toNatClampNeg 0) 6 (((ua (ua σ 5 ((0 : Int32).toNatClampNeg) (σ.1 6)) 6 ((ua σ 5 ((0 : Int32).toNatClampNeg) (σ.1 6)).1 6).toNatClampNeg 0).1 6) + 1)) hw
set_option maxHeartbeats 4000000 in
set_option maxRecDepth 100000 in
theorem wL_M_make_171 {Z : ZT} {q : Nat → Nat} {post : Int32 → St → Prop} (X : Cx Z "WayTableModel" b_M_make rm_M_make 7) (hR : RI Z b_M_make .int (wM (zI Z) q) post) : ∀ (n : Nat) (x1 x2 x3 : Int32) (σ : St), L_M_make_171 post n x1 x2 x3 σ → VV Z 0 0 (wM (zI Z) q σ) [(0, .ref (q 0)), (1, .int x1), (2, .int x2), (3, .int x3)] 171 [] := by
  intro n
  induction n with
  | zero => intro x1 x2 x3 σ hw; exact False.elim hw
  | succ n ih =>
    intro x1 x2 x3 σ hw
    unfold L_M_make_171 at hw
    refine x_iload_n (pc := 171) X d_M_make_171 3 rfl ?_
    refine x_aload_n (pc := 172) X d_M_make_172 0 rfl ?_
    refine x_get (pc := 173) X tb_M 0 13 (by decide) mw_86 (atM_0 _ _ _) rfl d_M_make_173 ?_
    refine x_icmp_ge (pc := 176) (tgt := 286) X d_M_make_176 (by decide) (fun c => ?_) (fun c => ?_)
    · have hw := hw.1 c
      refine x_iconst (pc := 286) (v := 0) X d_M_make_286 (by decide) ?_
      refine x_istore_n (pc := 287) (lv' := [(0, .ref (q 0)), (1, .int x1), (2, .int x2), (3, .int 0)]) X d_M_make_287 (by decide) [1, 2, 3, 0] rfl ?_
      obtain ⟨n2, hw⟩ := hw
      exact wL_M_make_288 X hR n2 x1 x2 0 σ hw
    · have hw := hw.2 c
      refine x_iconst (pc := 179) (v := 0) X d_M_make_179 (by decide) ?_
      refine x_istore (pc := 180) (lv' := [(0, .ref (q 0)), (1, .int x1), (2, .int x2), (3, .int x3), (4, .int 0)]) X d_M_make_180 (by decide) [1, 2, 3, 4, 0] rfl ?_
      obtain ⟨n2, hw⟩ := hw
      exact wL_M_make_182 X hR ih n2 x1 x2 x3 0 σ hw
set_option maxHeartbeats 4000000 in
set_option maxRecDepth 100000 in
theorem wL_M_make_132 {Z : ZT} {q : Nat → Nat} {post : Int32 → St → Prop} (X : Cx Z "WayTableModel" b_M_make rm_M_make 7) (hR : RI Z b_M_make .int (wM (zI Z) q) post) : ∀ (n : Nat) (x1 x2 x3 : Int32) (σ : St), L_M_make_132 post n x1 x2 x3 σ → VV Z 0 0 (wM (zI Z) q σ) [(0, .ref (q 0)), (1, .int x1), (2, .int x2), (3, .int x3)] 132 [] := by
  intro n
  induction n with
  | zero => intro x1 x2 x3 σ hw; exact False.elim hw
  | succ n ih =>
    intro x1 x2 x3 σ hw
    unfold L_M_make_132 at hw
    refine x_iload_n (pc := 132) X d_M_make_132 3 rfl ?_
    refine x_iload_n (pc := 133) X d_M_make_133 1 rfl ?_
    refine x_icmp_ge (pc := 134) (tgt := 150) X d_M_make_134 (by decide) (fun c => ?_) (fun c => ?_)
    · have hw := hw.1 c
      refine x_aload_n (pc := 150) X d_M_make_150 0 rfl ?_
      refine x_get (pc := 151) X tb_M 0 11 (by decide) mw_84 (atM_0 _ _ _) rfl d_M_make_151 ?_
      refine x_iconst (pc := 154) (v := 0) X d_M_make_154 (by decide) ?_
      refine x_iconst (pc := 155) (v := 0) X d_M_make_155 (by decide) ?_
      obtain ⟨h3, hw⟩ := hw
      refine x_iast (pc := 156) (ws' := (wM (zI Z) q (ua σ 5 ((0 : Int32).toNatClampNeg) 0))) X 6 (atM_6 _ _ _) h3 (stM_6 _ _ _ _) d_M_make_156 ?_
      refine x_aload_n (pc := 157) X d_M_make_157 0 rfl ?_
      refine x_get (pc := 158) X tb_M 0 12 (by decide) mw_85 (atM_0 _ _ _) rfl d_M_make_158 ?_
      refine x_iconst (pc := 161) (v := 0) X d_M_make_161 (by decide) ?_
      refine x_iconst (pc := 162) (v := 0) X d_M_make_162 (by decide) ?_
      obtain ⟨h4, hw⟩ := hw
      refine x_iast (pc := 163) (ws' := (wM (zI Z) q (ua (ua σ 5 ((0 : Int32).toNatClampNeg) 0) 6 ((0 : Int32).toNatClampNeg) 0))) X 7 (atM_7 _ _ _) h4 (stM_7 _ _ _ _) d_M_make_163 ?_
      refine x_aload_n (pc := 164) X d_M_make_164 0 rfl ?_
      refine x_iconst (pc := 165) (v := 1) X d_M_make_165 (by decide) ?_
      refine x_put (pc := 166) (ws' := (wM (zI Z) q (us (ua (ua σ 5 ((0 : Int32).toNatClampNeg) 0) 6 ((0 : Int32).toNatClampNeg) 0) 6 1))) X tb_M 0 13 (by decide) mw_86 (atM_0 _ _ _) rfl pI (Nat.le_of_ble_eq_true rfl) (ptM_6 _ _ _ _) d_M_make_166 ?_
      refine x_iconst (pc := 169) (v := 0) X d_M_make_169 (by decide) ?_
      refine x_istore_n (pc := 170) (lv' := [(0, .ref (q 0)), (1, .int x1), (2, .int x2), (3, .int 0)]) X d_M_make_170 (by decide) [1, 2, 3, 0] rfl ?_
      obtain ⟨n2, hw⟩ := hw
      exact wL_M_make_171 X hR n2 x1 x2 0 (us (ua (ua σ 5 ((0 : Int32).toNatClampNeg) 0) 6 ((0 : Int32).toNatClampNeg) 0) 6 1) hw
    · have hw := hw.2 c
      refine x_aload_n (pc := 137) X d_M_make_137 0 rfl ?_
      refine x_get (pc := 138) X tb_M 0 11 (by decide) mw_84 (atM_0 _ _ _) rfl d_M_make_138 ?_
      refine x_iload_n (pc := 141) X d_M_make_141 3 rfl ?_
      refine x_iconst (pc := 142) (v := (-1)) X d_M_make_142 (by decide) ?_
      obtain ⟨h17, hw⟩ := hw
      refine x_iast (pc := 143) (ws' := (wM (zI Z) q (ua σ 5 x3.toNatClampNeg (-1)))) X 6 (atM_6 _ _ _) h17 (stM_6 _ _ _ _) d_M_make_143 ?_
      refine x_iinc (pc := 144) (d := 1) (lv' := [(0, .ref (q 0)), (1, .int x1), (2, .int x2), (3, .int (x3 + 1))]) X d_M_make_144 3 rfl (by decide) (by decide) [1, 2, 3, 0] rfl ?_
      refine x_goto (pc := 147) (tgt := 132) X d_M_make_147 (by decide) ?_
      exact ih x1 x2 (x3 + 1) (ua σ 5 x3.toNatClampNeg (-1)) hw
set_option maxHeartbeats 4000000 in
set_option maxRecDepth 100000 in
theorem wL_M_make_116 {Z : ZT} {q : Nat → Nat} {post : Int32 → St → Prop} (X : Cx Z "WayTableModel" b_M_make rm_M_make 7) (hR : RI Z b_M_make .int (wM (zI Z) q) post) : ∀ (n : Nat) (x1 x2 : Int32) (σ : St), L_M_make_116 post n x1 x2 σ → VV Z 0 0 (wM (zI Z) q σ) [(0, .ref (q 0)), (1, .int x1), (2, .int x2)] 116 [] := by
  intro n
  induction n with
  | zero => intro x1 x2 σ hw; exact False.elim hw
  | succ n ih =>
    intro x1 x2 σ hw
    unfold L_M_make_116 at hw
    refine x_aload_n (pc := 116) X d_M_make_116 0 rfl ?_
    refine x_iload_n (pc := 117) X d_M_make_117 2 rfl ?_
    refine x_cvi (pc := 118) X [.int x2] (c_M_tell (zl Z) (zD Z) (zI Z) q σ x2 _ hw) mv_M_tell tb_M 0 (atM_0 _ _ _) mw_83 d_M_make_118 rfl (Nat.le_of_ble_eq_true rfl) ⟨Nat.le_of_ble_eq_true rfl, Nat.le_of_ble_eq_true rfl⟩ ⟨rfl, rfl⟩ ⟨Nat.zero_le _, Nat.zero_le _⟩ ?_
    intro r2 σ2 hw
    refine x_if_eq (pc := 121) (tgt := 130) X d_M_make_121 (by decide) (fun c => ?_) (fun c => ?_)
    · have hw := hw.1 c
      refine x_iconst (pc := 130) (v := 0) X d_M_make_130 (by decide) ?_
      refine x_istore_n (pc := 131) (lv' := [(0, .ref (q 0)), (1, .int x1), (2, .int x2), (3, .int 0)]) X d_M_make_131 (by decide) [1, 2, 3, 0] rfl ?_
      obtain ⟨n2, hw⟩ := hw
      exact wL_M_make_132 X hR n2 x1 x2 0 σ2 hw
    · have hw := hw.2 c
      refine x_iinc (pc := 124) (d := 1) (lv' := [(0, .ref (q 0)), (1, .int x1), (2, .int (x2 + 1))]) X d_M_make_124 2 rfl (by decide) (by decide) [1, 2, 0] rfl ?_
      refine x_goto (pc := 127) (tgt := 116) X d_M_make_127 (by decide) ?_
      exact ih x1 (x2 + 1) σ2 hw
set_option maxHeartbeats 4000000 in
set_option maxRecDepth 100000 in
theorem wL_M_make_94 {Z : ZT} {q : Nat → Nat} {post : Int32 → St → Prop} (X : Cx Z "WayTableModel" b_M_make rm_M_make 7) (hR : RI Z b_M_make .int (wM (zI Z) q) post) : ∀ (n : Nat) (x1 x2 : Int32) (σ : St), L_M_make_94 post n x1 x2 σ → VV Z 0 0 (wM (zI Z) q σ) [(0, .ref (q 0)), (1, .int x1), (2, .int x2)] 94 [] := by
  intro n
  induction n with
  | zero => intro x1 x2 σ hw; exact False.elim hw
  | succ n ih =>
    intro x1 x2 σ hw
    unfold L_M_make_94 at hw
    refine x_iload_n (pc := 94) X d_M_make_94 2 rfl ?_
    refine x_sipush (pc := 95) (v := (nI 14400)) X d_M_make_95 (by decide) ?_
    refine x_icmp_ge (pc := 98) (tgt := 114) X d_M_make_98 (by decide) (fun c => ?_) (fun c => ?_)
    · have hw := hw.1 c
      refine x_iconst (pc := 114) (v := 1) X d_M_make_114 (by decide) ?_
      refine x_istore_n (pc := 115) (lv' := [(0, .ref (q 0)), (1, .int x1), (2, .int 1)]) X d_M_make_115 (by decide) [1, 2, 0] rfl ?_
      obtain ⟨n2, hw⟩ := hw
      exact wL_M_make_116 X hR n2 x1 1 σ hw
    · have hw := hw.2 c
      refine x_aload_n (pc := 101) X d_M_make_101 0 rfl ?_
      refine x_get (pc := 102) X tb_M 0 9 (by decide) mw_80 (atM_0 _ _ _) rfl d_M_make_102 ?_
      refine x_iload_n (pc := 105) X d_M_make_105 2 rfl ?_
      refine x_iconst (pc := 106) (v := 0) X d_M_make_106 (by decide) ?_
      obtain ⟨h18, hw⟩ := hw
      refine x_iast (pc := 107) (ws' := (wM (zI Z) q (ua σ 3 x2.toNatClampNeg 0))) X 4 (atM_4 _ _ _) h18 (stM_4 _ _ _ _) d_M_make_107 ?_
      refine x_iinc (pc := 108) (d := 1) (lv' := [(0, .ref (q 0)), (1, .int x1), (2, .int (x2 + 1))]) X d_M_make_108 2 rfl (by decide) (by decide) [1, 2, 0] rfl ?_
      refine x_goto (pc := 111) (tgt := 94) X d_M_make_111 (by decide) ?_
      exact ih x1 (x2 + 1) (ua σ 3 x2.toNatClampNeg 0) hw
set_option maxHeartbeats 4000000 in
set_option maxRecDepth 100000 in
theorem wL_M_make_50 {Z : ZT} {q : Nat → Nat} {post : Int32 → St → Prop} {K : Int32 → Int32 → St → Prop} (X : Cx Z "WayTableModel" b_M_make rm_M_make 7) (hR : RI Z b_M_make .int (wM (zI Z) q) post) (hK : ∀ (x1 x2 : Int32) (σ : St), K x1 x2 σ → VV Z 0 0 (wM (zI Z) q σ) [(0, .ref (q 0)), (1, .int x1), (2, .int x2)] 31 []) : ∀ (n : Nat) (x1 x2 x3 : Int32) (σ : St), L_M_make_50 post K n x1 x2 x3 σ → VV Z 0 0 (wM (zI Z) q σ) [(0, .ref (q 0)), (1, .int x1), (2, .int x2), (3, .int x3)] 50 [] := by
  intro n
  induction n with
  | zero => intro x1 x2 x3 σ hw; exact False.elim hw
  | succ n ih =>
    intro x1 x2 x3 σ hw
    unfold L_M_make_50 at hw
    refine x_iload_n (pc := 50) X d_M_make_50 3 rfl ?_
    refine x_aload_n (pc := 51) X d_M_make_51 0 rfl ?_
    refine x_get (pc := 52) X tb_M 0 2 (by decide) mw_9 (atM_0 _ _ _) rfl d_M_make_52 ?_
    refine x_icmp_ge (pc := 55) (tgt := 86) X d_M_make_55 (by decide) (fun c => ?_) (fun c => ?_)
    · have hw := hw.1 c
      refine x_iinc (pc := 86) (d := 1) (lv' := [(0, .ref (q 0)), (1, .int x1), (2, .int (x2 + 1)), (3, .int x3)]) X d_M_make_86 2 rfl (by decide) (by decide) [1, 2, 0, 3] rfl ?_
      refine x_goto (pc := 89) (tgt := 31) X d_M_make_89 (by decide) ?_
      refine x_drop [0, 1, 2] rfl ?_
      exact hK x1 (x2 + 1) σ hw
    · have hw := hw.2 c
      refine x_aload_n (pc := 58) X d_M_make_58 0 rfl ?_
      refine x_get (pc := 59) X tb_M 0 8 (by decide) mw_82 (atM_0 _ _ _) rfl d_M_make_59 ?_
      refine x_bipush (pc := 62) (v := (nI 40)) X d_M_make_62 (by decide) ?_
      refine x_iload_n (pc := 64) X d_M_make_64 2 rfl ?_
      refine x_imul (pc := 65) X d_M_make_65 ?_
      refine x_iload_n (pc := 66) X d_M_make_66 3 rfl ?_
      refine x_iadd (pc := 67) X d_M_make_67 ?_
      refine x_aload_n (pc := 68) X d_M_make_68 0 rfl ?_
      refine x_get (pc := 69) X tb_M 0 16 (by decide) mw_76 (atM_0 _ _ _) rfl d_M_make_69 ?_
      refine x_bipush (pc := 72) (v := (nI 40)) X d_M_make_72 (by decide) ?_
      refine x_iload_n (pc := 74) X d_M_make_74 2 rfl ?_
      refine x_imul (pc := 75) X d_M_make_75 ?_
      refine x_iload_n (pc := 76) X d_M_make_76 3 rfl ?_
      refine x_iadd (pc := 77) X d_M_make_77 ?_
      obtain ⟨h21, hw⟩ := hw
      refine x_iald (pc := 78) X 9 (atM_9 _ _ _) h21 d_M_make_78 ?_
      obtain ⟨h22, hw⟩ := hw
      refine x_iast (pc := 79) (ws' := (wM (zI Z) q (ua σ 2 (((nI 40) * x2) + x3).toNatClampNeg (σ.2 8 (((nI 40) * x2) + x3).toNatClampNeg)))) X 3 (atM_3 _ _ _) h22 (stM_3 _ _ _ _) d_M_make_79 ?_
      refine x_iinc (pc := 80) (d := 1) (lv' := [(0, .ref (q 0)), (1, .int x1), (2, .int x2), (3, .int (x3 + 1))]) X d_M_make_80 3 rfl (by decide) (by decide) [1, 2, 3, 0] rfl ?_
      refine x_goto (pc := 83) (tgt := 50) X d_M_make_83 (by decide) ?_
      exact ih x1 x2 (x3 + 1) (ua σ 2 (((nI 40) * x2) + x3).toNatClampNeg (σ.2 8 (((nI 40) * x2) + x3).toNatClampNeg)) hw
set_option maxHeartbeats 4000000 in
set_option maxRecDepth 100000 in
theorem wL_M_make_31 {Z : ZT} {q : Nat → Nat} {post : Int32 → St → Prop} (X : Cx Z "WayTableModel" b_M_make rm_M_make 7) (hR : RI Z b_M_make .int (wM (zI Z) q) post) : ∀ (n : Nat) (x1 x2 : Int32) (σ : St), L_M_make_31 post n x1 x2 σ → VV Z 0 0 (wM (zI Z) q σ) [(0, .ref (q 0)), (1, .int x1), (2, .int x2)] 31 [] := by
  intro n
  induction n with
  | zero => intro x1 x2 σ hw; exact False.elim hw
  | succ n ih =>
    intro x1 x2 σ hw
    unfold L_M_make_31 at hw
    refine x_iload_n (pc := 31) X d_M_make_31 2 rfl ?_
    refine x_iload_n (pc := 32) X d_M_make_32 1 rfl ?_
    refine x_icmp_ge (pc := 33) (tgt := 92) X d_M_make_33 (by decide) (fun c => ?_) (fun c => ?_)
    · have hw := hw.1 c
      refine x_iconst (pc := 92) (v := 0) X d_M_make_92 (by decide) ?_
      refine x_istore_n (pc := 93) (lv' := [(0, .ref (q 0)), (1, .int x1), (2, .int 0)]) X d_M_make_93 (by decide) [1, 2, 0] rfl ?_
      obtain ⟨n2, hw⟩ := hw
      exact wL_M_make_94 X hR n2 x1 0 σ hw
    · have hw := hw.2 c
      refine x_aload_n (pc := 36) X d_M_make_36 0 rfl ?_
      refine x_get (pc := 37) X tb_M 0 7 (by decide) mw_89 (atM_0 _ _ _) rfl d_M_make_37 ?_
      refine x_iload_n (pc := 40) X d_M_make_40 2 rfl ?_
      refine x_aload_n (pc := 41) X d_M_make_41 0 rfl ?_
      refine x_get (pc := 42) X tb_M 0 15 (by decide) mw_74 (atM_0 _ _ _) rfl d_M_make_42 ?_
      refine x_iload_n (pc := 45) X d_M_make_45 2 rfl ?_
      obtain ⟨h19, hw⟩ := hw
      refine x_iald (pc := 46) X 8 (atM_8 _ _ _) h19 d_M_make_46 ?_
      obtain ⟨h20, hw⟩ := hw
      refine x_iast (pc := 47) (ws' := (wM (zI Z) q (ua σ 1 x2.toNatClampNeg (σ.2 7 x2.toNatClampNeg)))) X 2 (atM_2 _ _ _) h20 (stM_2 _ _ _ _) d_M_make_47 ?_
      refine x_iconst (pc := 48) (v := 0) X d_M_make_48 (by decide) ?_
      refine x_istore_n (pc := 49) (lv' := [(0, .ref (q 0)), (1, .int x1), (2, .int x2), (3, .int 0)]) X d_M_make_49 (by decide) [1, 2, 3, 0] rfl ?_
      obtain ⟨n2, hw⟩ := hw
      exact wL_M_make_50 X hR ih n2 x1 x2 0 (ua σ 1 x2.toNatClampNeg (σ.2 7 x2.toNatClampNeg)) hw
set_option maxHeartbeats 4000000 in
set_option maxRecDepth 100000 in
theorem c_M_make (l : Launch) (D : va_G) (cI : ClassId) (q : Nat → Nat) (σ : St) (post : Int32 → St → Prop) (hw : wp_M_make σ post) : CI l D cI (wM cI q) y_M_make b_M_make 7 .int rm_M_make [.ref (q 0)] σ post := by
  refine CI_of (by decide) (Nat.le_of_ble_eq_true rfl) ?_
  intro Z hZl hZD hZI X hR
  subst hZl; subst hZD; subst hZI
  unfold wp_M_make at hw
  show VV Z 0 0 (wM (zI Z) q σ) [(0, .ref (q 0))] 0 []
  refine x_aload_n (pc := 0) X d_M_make_0 0 rfl ?_
  refine x_iconst (pc := 1) (v := 0) X d_M_make_1 (by decide) ?_
  refine x_put (pc := 2) (ws' := (wM (zI Z) q (us σ 0 0))) X tb_M 0 0 (by decide) mw_7 (atM_0 _ _ _) rfl pI (Nat.le_of_ble_eq_true rfl) (ptM_0 _ _ _ _) d_M_make_2 ?_
  refine x_aload_n (pc := 5) X d_M_make_5 0 rfl ?_
  refine x_cvi (pc := 6) X [] (c_M_follow (zl Z) (zD Z) (zI Z) q (us σ 0 0) _ hw) mv_M_follow tb_M 0 (atM_0 _ _ _) mw_77 d_M_make_6 rfl (Nat.le_of_ble_eq_true rfl) ⟨Nat.le_of_ble_eq_true rfl, Nat.le_of_ble_eq_true rfl⟩ ⟨rfl, rfl⟩ ⟨Nat.zero_le _, Nat.zero_le _⟩ ?_
  intro r1 σ1 hw
  refine x_istore_n (pc := 9) (lv' := [(0, .ref (q 0)), (1, .int r1)]) X d_M_make_9 (by decide) [1, 0] rfl ?_
  refine x_iload_n (pc := 10) X d_M_make_10 1 rfl ?_
  refine x_if_ge (pc := 11) (tgt := 16) X d_M_make_11 (by decide) (fun c => ?_) (fun c => ?_)
  · have hw := hw.1 c
    refine x_aload_n (pc := 16) X d_M_make_16 0 rfl ?_
    refine x_iload_n (pc := 17) X d_M_make_17 1 rfl ?_
    refine x_put (pc := 18) (ws' := (wM (zI Z) q (us σ1 4 r1))) X tb_M 0 5 (by decide) mw_78 (atM_0 _ _ _) rfl pI (Nat.le_of_ble_eq_true rfl) (ptM_4 _ _ _ _) d_M_make_18 ?_
    refine x_aload_n (pc := 21) X d_M_make_21 0 rfl ?_
    refine x_aload_n (pc := 22) X d_M_make_22 0 rfl ?_
    refine x_get (pc := 23) X tb_M 0 2 (by decide) mw_9 (atM_0 _ _ _) rfl d_M_make_23 ?_
    refine x_put (pc := 26) (ws' := (wM (zI Z) q (us (us σ1 4 r1) 5 ((us σ1 4 r1).1 2)))) X tb_M 0 6 (by decide) mw_79 (atM_0 _ _ _) rfl pI (Nat.le_of_ble_eq_true rfl) (ptM_5 _ _ _ _) d_M_make_26 ?_
    refine x_iconst (pc := 29) (v := 0) X d_M_make_29 (by decide) ?_
    refine x_istore_n (pc := 30) (lv' := [(0, .ref (q 0)), (1, .int r1), (2, .int 0)]) X d_M_make_30 (by decide) [1, 2, 0] rfl ?_
    obtain ⟨n2, hw⟩ := hw
    exact wL_M_make_31 X hR n2 r1 0 (us (us σ1 4 r1) 5 ((us σ1 4 r1).1 2)) hw
  · have hw := hw.2 c
    refine x_iconst (pc := 14) (v := (-1)) X d_M_make_14 (by decide) ?_
    exact hR _ _ _ _ d_M_make_15 (vp_nar_int _) hw
def rm_W_home : Room := { frames := 0, cells := 0, slots := 0, locals := 0 }
set_option maxHeartbeats 4000000 in
set_option maxRecDepth 100000 in
theorem c_W_home (l : Launch) (D : va_G) (cI : ClassId) (q : Nat → Nat) (σ : St) (post : St → Prop) (hw : wp_W_home σ post) : CV l D cI (wC cI q) y_W_home b_W_home 1 rm_W_home [.ref (q 0)] σ post := by
  refine CV_of (by decide) (Nat.le_of_ble_eq_true rfl) ?_
  intro Z hZl hZD hZI X hR
  subst hZl; subst hZD; subst hZI
  unfold wp_W_home at hw
  show VV Z 0 0 (wC (zI Z) q σ) [(0, .ref (q 0))] 0 []
  refine x_aload_n (pc := 0) X d_W_home_0 0 rfl ?_
  refine x_iconst (pc := 1) (v := 0) X d_W_home_1 (by decide) ?_
  refine x_put (pc := 2) (ws' := (wC (zI Z) q (us σ 0 0))) X tb_W 0 2 (by decide) mw_72 (atC_0 _ _ _) rfl pI (Nat.le_of_ble_eq_true rfl) (ptC_0 _ _ _ _) d_W_home_2 ?_
  exact hR _ _ _ d_W_home_5 hw
def rm_M_home : Room := { frames := 0, cells := 0, slots := 0, locals := 0 }
set_option maxHeartbeats 4000000 in
set_option maxRecDepth 100000 in
theorem c_M_home (l : Launch) (D : va_G) (cI : ClassId) (q : Nat → Nat) (σ : St) (post : St → Prop) (hw : wp_M_home σ post) : CV l D cI (wM cI q) y_M_home b_M_home 1 rm_M_home [.ref (q 0)] σ post := by
  refine CV_of (by decide) (Nat.le_of_ble_eq_true rfl) ?_
  intro Z hZl hZD hZI X hR
  subst hZl; subst hZD; subst hZI
  unfold wp_M_home at hw
  show VV Z 0 0 (wM (zI Z) q σ) [(0, .ref (q 0))] 0 []
  refine x_aload_n (pc := 0) X d_M_home_0 0 rfl ?_
  refine x_iconst (pc := 1) (v := 0) X d_M_home_1 (by decide) ?_
  refine x_put (pc := 2) (ws' := (wM (zI Z) q (us σ 0 0))) X tb_M 0 0 (by decide) mw_7 (atM_0 _ _ _) rfl pI (Nat.le_of_ble_eq_true rfl) (ptM_0 _ _ _ _) d_M_home_2 ?_
  refine x_aload_n (pc := 5) X d_M_home_5 0 rfl ?_
  refine x_iconst (pc := 6) (v := 0) X d_M_home_6 (by decide) ?_
  refine x_put (pc := 7) (ws' := (wM (zI Z) q (us (us σ 0 0) 7 0))) X tb_M 0 14 (by decide) mw_87 (atM_0 _ _ _) rfl pI (Nat.le_of_ble_eq_true rfl) (ptM_7 _ _ _ _) d_M_home_7 ?_
  exact hR _ _ _ d_M_home_10 hw
def rm_T_hasState : Room := { frames := 0, cells := 0, slots := 0, locals := 0 }
set_option maxHeartbeats 4000000 in
set_option maxRecDepth 100000 in
theorem c_T_hasState (l : Launch) (D : va_G) (cI : ClassId) (q : Nat → Nat) (σ : St) (x1 : Int32) (post : Int32 → St → Prop) (hw : wp_T_hasState x1 σ post) : CI l D cI (wC cI q) y_T_hasState b_T_hasState 2 .boolean rm_T_hasState [.ref (q 3), .int x1] σ post := by
  refine CI_of (by decide) (Nat.le_of_ble_eq_true rfl) ?_
  intro Z hZl hZD hZI X hR
  subst hZl; subst hZD; subst hZI
  unfold wp_T_hasState at hw
  show VV Z 0 0 (wC (zI Z) q σ) [(0, .ref (q 3)), (1, .int x1)] 0 []
  refine x_iload_n (pc := 0) X d_T_hasState_0 1 rfl ?_
  refine x_if_lt (pc := 1) (tgt := 16) X d_T_hasState_1 (by decide) (fun c => ?_) (fun c => ?_)
  · have hw := hw.1 c
    refine x_iconst (pc := 16) (v := 0) X d_T_hasState_16 (by decide) ?_
    exact hR _ _ _ _ d_T_hasState_17 rfl hw
  · have hw := hw.2 c
    refine x_iload_n (pc := 4) X d_T_hasState_4 1 rfl ?_
    refine x_aload_n (pc := 5) X d_T_hasState_5 0 rfl ?_
    refine x_get (pc := 6) X tb_T 3 2 (by decide) mw_67 (atC_3 _ _ _) rfl d_T_hasState_6 ?_
    refine x_icmp_ge (pc := 9) (tgt := 16) X d_T_hasState_9 (by decide) (fun c => ?_) (fun c => ?_)
    · have hw := hw.1 c
      refine x_iconst (pc := 16) (v := 0) X d_T_hasState_16 (by decide) ?_
      exact hR _ _ _ _ d_T_hasState_17 rfl hw
    · have hw := hw.2 c
      refine x_iconst (pc := 12) (v := 1) X d_T_hasState_12 (by decide) ?_
      refine x_goto (pc := 13) (tgt := 17) X d_T_hasState_13 (by decide) ?_
      exact hR _ _ _ _ d_T_hasState_17 rfl hw
def rm_T_hasLetter : Room := { frames := 0, cells := 0, slots := 0, locals := 0 }
set_option maxHeartbeats 4000000 in
set_option maxRecDepth 100000 in
theorem c_T_hasLetter (l : Launch) (D : va_G) (cI : ClassId) (q : Nat → Nat) (σ : St) (x1 : Int32) (post : Int32 → St → Prop) (hw : wp_T_hasLetter x1 σ post) : CI l D cI (wC cI q) y_T_hasLetter b_T_hasLetter 2 .boolean rm_T_hasLetter [.ref (q 3), .int x1] σ post := by
  refine CI_of (by decide) (Nat.le_of_ble_eq_true rfl) ?_
  intro Z hZl hZD hZI X hR
  subst hZl; subst hZD; subst hZI
  unfold wp_T_hasLetter at hw
  show VV Z 0 0 (wC (zI Z) q σ) [(0, .ref (q 3)), (1, .int x1)] 0 []
  refine x_iload_n (pc := 0) X d_T_hasLetter_0 1 rfl ?_
  refine x_if_lt (pc := 1) (tgt := 16) X d_T_hasLetter_1 (by decide) (fun c => ?_) (fun c => ?_)
  · have hw := hw.1 c
    refine x_iconst (pc := 16) (v := 0) X d_T_hasLetter_16 (by decide) ?_
    exact hR _ _ _ _ d_T_hasLetter_17 rfl hw
  · have hw := hw.2 c
    refine x_iload_n (pc := 4) X d_T_hasLetter_4 1 rfl ?_
    refine x_aload_n (pc := 5) X d_T_hasLetter_5 0 rfl ?_
    refine x_get (pc := 6) X tb_T 3 0 (by decide) mw_37 (atC_3 _ _ _) rfl d_T_hasLetter_6 ?_
    refine x_icmp_ge (pc := 9) (tgt := 16) X d_T_hasLetter_9 (by decide) (fun c => ?_) (fun c => ?_)
    · have hw := hw.1 c
      refine x_iconst (pc := 16) (v := 0) X d_T_hasLetter_16 (by decide) ?_
      exact hR _ _ _ _ d_T_hasLetter_17 rfl hw
    · have hw := hw.2 c
      refine x_iconst (pc := 12) (v := 1) X d_T_hasLetter_12 (by decide) ?_
      refine x_goto (pc := 13) (tgt := 17) X d_T_hasLetter_13 (by decide) ?_
      exact hR _ _ _ _ d_T_hasLetter_17 rfl hw
def rm_T_stateAfter : Room := { frames := 0, cells := 0, slots := 0, locals := 0 }
set_option maxHeartbeats 4000000 in
set_option maxRecDepth 100000 in
theorem c_T_stateAfter (l : Launch) (D : va_G) (cI : ClassId) (q : Nat → Nat) (σ : St) (x1 x2 : Int32) (post : Int32 → St → Prop) (hw : wp_T_stateAfter x1 x2 σ post) : CI l D cI (wC cI q) y_T_stateAfter b_T_stateAfter 4 .int rm_T_stateAfter [.ref (q 3), .int x1, .int x2] σ post := by
  refine CI_of (by decide) (Nat.le_of_ble_eq_true rfl) ?_
  intro Z hZl hZD hZI X hR
  subst hZl; subst hZD; subst hZI
  unfold wp_T_stateAfter at hw
  show VV Z 0 0 (wC (zI Z) q σ) [(0, .ref (q 3)), (1, .int x1), (2, .int x2)] 0 []
  refine x_aload_n (pc := 0) X d_T_stateAfter_0 0 rfl ?_
  refine x_get (pc := 1) X tb_T 3 6 (by decide) mw_44 (atC_3 _ _ _) rfl d_T_stateAfter_1 ?_
  refine x_aload_n (pc := 4) X d_T_stateAfter_4 0 rfl ?_
  refine x_get (pc := 5) X tb_T 3 10 (by decide) mw_68 (atC_3 _ _ _) rfl d_T_stateAfter_5 ?_
  refine x_iload_n (pc := 8) X d_T_stateAfter_8 1 rfl ?_
  obtain ⟨h1, hw⟩ := hw
  refine x_iald (pc := 9) X 10 (atC_10 _ _ _) h1 d_T_stateAfter_9 ?_
  refine x_bipush (pc := 10) (v := (nI 40)) X d_T_stateAfter_10 (by decide) ?_
  refine x_imul (pc := 12) X d_T_stateAfter_12 ?_
  refine x_iload_n (pc := 13) X d_T_stateAfter_13 2 rfl ?_
  refine x_iadd (pc := 14) X d_T_stateAfter_14 ?_
  obtain ⟨h2, hw⟩ := hw
  refine x_iald (pc := 15) X 6 (atC_6 _ _ _) h2 d_T_stateAfter_15 ?_
  refine x_istore_n (pc := 16) (lv' := [(0, .ref (q 3)), (1, .int x1), (2, .int x2), (3, .int (σ.2 3 (((σ.2 7 x1.toNatClampNeg) * (nI 40)) + x2).toNatClampNeg))]) X d_T_stateAfter_16 (by decide) [1, 2, 3, 0] rfl ?_
  refine x_iload_n (pc := 17) X d_T_stateAfter_17 3 rfl ?_
  refine x_iconst (pc := 18) (v := (-1)) X d_T_stateAfter_18 (by decide) ?_
  refine x_icmp_ne (pc := 19) (tgt := 26) X d_T_stateAfter_19 (by decide) (fun c => ?_) (fun c => ?_)
  · have hw := hw.1 c
    refine x_aload_n (pc := 26) X d_T_stateAfter_26 0 rfl ?_
    refine x_get (pc := 27) X tb_T 3 9 (by decide) mw_66 (atC_3 _ _ _) rfl d_T_stateAfter_27 ?_
    refine x_iload_n (pc := 30) X d_T_stateAfter_30 3 rfl ?_
    obtain ⟨h3, hw⟩ := hw
    refine x_iald (pc := 31) X 9 (atC_9 _ _ _) h3 d_T_stateAfter_31 ?_
    exact hR _ _ _ _ d_T_stateAfter_32 (vp_nar_int _) hw
  · have hw := hw.2 c
    refine x_iconst (pc := 22) (v := (-1)) X d_T_stateAfter_22 (by decide) ?_
    refine x_goto (pc := 23) (tgt := 32) X d_T_stateAfter_23 (by decide) ?_
    exact hR _ _ _ _ d_T_stateAfter_32 (vp_nar_int _) hw
def rm_W_to : Room := { frames := 1, cells := 0, slots := 0, locals := 23 }
set_option maxHeartbeats 4000000 in
set_option maxRecDepth 100000 in
theorem c_W_to (l : Launch) (D : va_G) (cI : ClassId) (q : Nat → Nat) (σ : St) (x1 x2 : Int32) (post : Int32 → St → Prop) (hw : wp_W_to x1 x2 σ post) : CI l D cI (wC cI q) y_W_to b_W_to 3 .int rm_W_to [.ref (q 0), .int x1, .int x2] σ post := by
  refine CI_of (by decide) (Nat.le_of_ble_eq_true rfl) ?_
  intro Z hZl hZD hZI X hR
  subst hZl; subst hZD; subst hZI
  unfold wp_W_to at hw
  show VV Z 0 0 (wC (zI Z) q σ) [(0, .ref (q 0)), (1, .int x1), (2, .int x2)] 0 []
  refine x_aload_n (pc := 0) X d_W_to_0 0 rfl ?_
  refine x_get (pc := 1) X tb_W 0 1 (by decide) mw_30 (atC_0 _ _ _) rfl d_W_to_1 ?_
  refine x_iload_n (pc := 4) X d_W_to_4 1 rfl ?_
  refine x_cni (pc := 5) X [.int x1] (c_T_hasState (zl Z) (zD Z) (zI Z) q σ x1 _ hw) mv_T_hasState tb_T 3 (atC_3 _ _ _) nw_90 d_W_to_5 rfl (Nat.le_of_ble_eq_true rfl) ⟨Nat.le_of_ble_eq_true rfl, Nat.le_of_ble_eq_true rfl⟩ ⟨rfl, rfl⟩ ⟨Nat.zero_le _, Nat.zero_le _⟩ ?_
  intro r1 σ1 hw
  refine x_if_eq (pc := 8) (tgt := 22) X d_W_to_8 (by decide) (fun c => ?_) (fun c => ?_)
  · have hw := hw.1 c
    refine x_iconst (pc := 22) (v := (-1)) X d_W_to_22 (by decide) ?_
    exact hR _ _ _ _ d_W_to_23 (vp_nar_int _) hw
  · have hw := hw.2 c
    refine x_aload_n (pc := 11) X d_W_to_11 0 rfl ?_
    refine x_get (pc := 12) X tb_W 0 1 (by decide) mw_30 (atC_0 _ _ _) rfl d_W_to_12 ?_
    refine x_iload_n (pc := 15) X d_W_to_15 2 rfl ?_
    refine x_cni (pc := 16) X [.int x2] (c_T_hasLetter (zl Z) (zD Z) (zI Z) q σ1 x2 _ hw) mv_T_hasLetter tb_T 3 (atC_3 _ _ _) nw_91 d_W_to_16 rfl (Nat.le_of_ble_eq_true rfl) ⟨Nat.le_of_ble_eq_true rfl, Nat.le_of_ble_eq_true rfl⟩ ⟨rfl, rfl⟩ ⟨Nat.zero_le _, Nat.zero_le _⟩ ?_
    intro r2 σ2 hw
    refine x_if_ne (pc := 19) (tgt := 24) X d_W_to_19 (by decide) (fun c => ?_) (fun c => ?_)
    · have hw := hw.1 c
      refine x_aload_n (pc := 24) X d_W_to_24 0 rfl ?_
      refine x_get (pc := 25) X tb_W 0 1 (by decide) mw_30 (atC_0 _ _ _) rfl d_W_to_25 ?_
      refine x_iload_n (pc := 28) X d_W_to_28 1 rfl ?_
      refine x_iload_n (pc := 29) X d_W_to_29 2 rfl ?_
      refine x_cni (pc := 30) X [.int x1, .int x2] (c_T_stateAfter (zl Z) (zD Z) (zI Z) q σ2 x1 x2 _ hw) mv_T_stateAfter tb_T 3 (atC_3 _ _ _) nw_92 d_W_to_30 rfl (Nat.le_of_ble_eq_true rfl) ⟨Nat.le_of_ble_eq_true rfl, Nat.le_of_ble_eq_true rfl⟩ ⟨rfl, rfl⟩ ⟨Nat.zero_le _, Nat.zero_le _⟩ ?_
      intro r3 σ3 hw
      exact hR _ _ _ _ d_W_to_33 (vp_nar_int _) hw
    · have hw := hw.2 c
      refine x_iconst (pc := 22) (v := (-1)) X d_W_to_22 (by decide) ?_
      exact hR _ _ _ _ d_W_to_23 (vp_nar_int _) hw
def rm_W_go : Room := { frames := 2, cells := 0, slots := 0, locals := 45 }
set_option maxHeartbeats 4000000 in
set_option maxRecDepth 100000 in
theorem c_W_go (l : Launch) (D : va_G) (cI : ClassId) (q : Nat → Nat) (σ : St) (x1 : Int32) (post : Int32 → St → Prop) (hw : wp_W_go x1 σ post) : CI l D cI (wC cI q) y_W_go b_W_go 3 .int rm_W_go [.ref (q 0), .int x1] σ post := by
  refine CI_of (by decide) (Nat.le_of_ble_eq_true rfl) ?_
  intro Z hZl hZD hZI X hR
  subst hZl; subst hZD; subst hZI
  unfold wp_W_go at hw
  show VV Z 0 0 (wC (zI Z) q σ) [(0, .ref (q 0)), (1, .int x1)] 0 []
  refine x_aload_n (pc := 0) X d_W_go_0 0 rfl ?_
  refine x_aload_n (pc := 1) X d_W_go_1 0 rfl ?_
  refine x_get (pc := 2) X tb_W 0 2 (by decide) mw_72 (atC_0 _ _ _) rfl d_W_go_2 ?_
  refine x_iload_n (pc := 5) X d_W_go_5 1 rfl ?_
  refine x_cvi (pc := 6) X [.int (σ.1 0), .int x1] (c_W_to (zl Z) (zD Z) (zI Z) q σ (σ.1 0) x1 _ hw) mv_W_to tb_W 0 (atC_0 _ _ _) mw_93 d_W_go_6 rfl (Nat.le_of_ble_eq_true rfl) ⟨Nat.le_of_ble_eq_true rfl, Nat.le_of_ble_eq_true rfl⟩ ⟨rfl, rfl⟩ ⟨Nat.zero_le _, Nat.zero_le _⟩ ?_
  intro r1 σ1 hw
  refine x_istore_n (pc := 9) (lv' := [(0, .ref (q 0)), (1, .int x1), (2, .int r1)]) X d_W_go_9 (by decide) [1, 2, 0] rfl ?_
  refine x_iload_n (pc := 10) X d_W_go_10 2 rfl ?_
  refine x_iconst (pc := 11) (v := (-1)) X d_W_go_11 (by decide) ?_
  refine x_icmp_eq (pc := 12) (tgt := 20) X d_W_go_12 (by decide) (fun c => ?_) (fun c => ?_)
  · have hw := hw.1 c
    refine x_iload_n (pc := 20) X d_W_go_20 2 rfl ?_
    exact hR _ _ _ _ d_W_go_21 (vp_nar_int _) hw
  · have hw := hw.2 c
    refine x_aload_n (pc := 15) X d_W_go_15 0 rfl ?_
    refine x_iload_n (pc := 16) X d_W_go_16 2 rfl ?_
    refine x_put (pc := 17) (ws' := (wC (zI Z) q (us σ1 0 r1))) X tb_W 0 2 (by decide) mw_72 (atC_0 _ _ _) rfl pI (Nat.le_of_ble_eq_true rfl) (ptC_0 _ _ _ _) d_W_go_17 ?_
    refine x_iload_n (pc := 20) X d_W_go_20 2 rfl ?_
    exact hR _ _ _ _ d_W_go_21 (vp_nar_int _) hw
end
section
def rm_M_next : Room := { frames := 0, cells := 0, slots := 0, locals := 0 }
set_option maxHeartbeats 4000000 in
set_option maxRecDepth 100000 in
theorem c_M_next (l : Launch) (D : va_G) (cI : ClassId) (q : Nat → Nat) (σ : St) (x1 x2 : Int32) (post : Int32 → St → Prop) (hw : wp_M_next x1 x2 σ post) : CI l D cI (wM cI q) y_M_next b_M_next 4 .int rm_M_next [.ref (q 0), .int x1, .int x2] σ post := by
  refine CI_of (by decide) (Nat.le_of_ble_eq_true rfl) ?_
  intro Z hZl hZD hZI X hR
  subst hZl; subst hZD; subst hZI
  unfold wp_M_next at hw
  show VV Z 0 0 (wM (zI Z) q σ) [(0, .ref (q 0)), (1, .int x1), (2, .int x2)] 0 []
  refine x_aload_n (pc := 0) X d_M_next_0 0 rfl ?_
  refine x_get (pc := 1) X tb_M 0 8 (by decide) mw_82 (atM_0 _ _ _) rfl d_M_next_1 ?_
  refine x_bipush (pc := 4) (v := (nI 40)) X d_M_next_4 (by decide) ?_
  refine x_aload_n (pc := 6) X d_M_next_6 0 rfl ?_
  refine x_get (pc := 7) X tb_M 0 12 (by decide) mw_85 (atM_0 _ _ _) rfl d_M_next_7 ?_
  refine x_iload_n (pc := 10) X d_M_next_10 1 rfl ?_
  obtain ⟨h1, hw⟩ := hw
  refine x_iald (pc := 11) X 7 (atM_7 _ _ _) h1 d_M_next_11 ?_
  refine x_imul (pc := 12) X d_M_next_12 ?_
  refine x_iload_n (pc := 13) X d_M_next_13 2 rfl ?_
  refine x_iadd (pc := 14) X d_M_next_14 ?_
  obtain ⟨h2, hw⟩ := hw
  refine x_iald (pc := 15) X 3 (atM_3 _ _ _) h2 d_M_next_15 ?_
  refine x_istore_n (pc := 16) (lv' := [(0, .ref (q 0)), (1, .int x1), (2, .int x2), (3, .int (σ.2 2 (((nI 40) * (σ.2 6 x1.toNatClampNeg)) + x2).toNatClampNeg))]) X d_M_next_16 (by decide) [1, 2, 3, 0] rfl ?_
  refine x_iload_n (pc := 17) X d_M_next_17 3 rfl ?_
  refine x_if_ge (pc := 18) (tgt := 25) X d_M_next_18 (by decide) (fun c => ?_) (fun c => ?_)
  · have hw := hw.1 c
    refine x_aload_n (pc := 25) X d_M_next_25 0 rfl ?_
    refine x_get (pc := 26) X tb_M 0 11 (by decide) mw_84 (atM_0 _ _ _) rfl d_M_next_26 ?_
    refine x_iload_n (pc := 29) X d_M_next_29 3 rfl ?_
    obtain ⟨h3, hw⟩ := hw
    refine x_iald (pc := 30) X 6 (atM_6 _ _ _) h3 d_M_next_30 ?_
    exact hR _ _ _ _ d_M_next_31 (vp_nar_int _) hw
  · have hw := hw.2 c
    refine x_iconst (pc := 21) (v := (-1)) X d_M_next_21 (by decide) ?_
    refine x_goto (pc := 22) (tgt := 31) X d_M_next_22 (by decide) ?_
    exact hR _ _ _ _ d_M_next_31 (vp_nar_int _) hw
def rm_M_go : Room := { frames := 1, cells := 0, slots := 0, locals := 23 }
set_option maxHeartbeats 4000000 in
set_option maxRecDepth 100000 in
theorem c_M_go (l : Launch) (D : va_G) (cI : ClassId) (q : Nat → Nat) (σ : St) (x1 : Int32) (post : Int32 → St → Prop) (hw : wp_M_go x1 σ post) : CI l D cI (wM cI q) y_M_go b_M_go 3 .int rm_M_go [.ref (q 0), .int x1] σ post := by
  refine CI_of (by decide) (Nat.le_of_ble_eq_true rfl) ?_
  intro Z hZl hZD hZI X hR
  subst hZl; subst hZD; subst hZI
  unfold wp_M_go at hw
  show VV Z 0 0 (wM (zI Z) q σ) [(0, .ref (q 0)), (1, .int x1)] 0 []
  refine x_aload_n (pc := 0) X d_M_go_0 0 rfl ?_
  refine x_iconst (pc := 1) (v := 0) X d_M_go_1 (by decide) ?_
  refine x_put (pc := 2) (ws' := (wM (zI Z) q (us σ 0 0))) X tb_M 0 0 (by decide) mw_7 (atM_0 _ _ _) rfl pI (Nat.le_of_ble_eq_true rfl) (ptM_0 _ _ _ _) d_M_go_2 ?_
  refine x_iload_n (pc := 5) X d_M_go_5 1 rfl ?_
  refine x_if_lt (pc := 6) (tgt := 17) X d_M_go_6 (by decide) (fun c => ?_) (fun c => ?_)
  · have hw := hw.1 c
    refine x_iconst (pc := 17) (v := (-1)) X d_M_go_17 (by decide) ?_
    refine x_goto (pc := 18) (tgt := 30) X d_M_go_18 (by decide) ?_
    refine x_istore_n (pc := 30) (lv' := [(0, .ref (q 0)), (1, .int x1), (2, .int (-1))]) X d_M_go_30 (by decide) [1, 2, 0] rfl ?_
    refine x_aload_n (pc := 31) X d_M_go_31 0 rfl ?_
    refine x_iload_n (pc := 32) X d_M_go_32 2 rfl ?_
    refine x_if_ge (pc := 33) (tgt := 43) X d_M_go_33 (by decide) (fun c => absurd c (by decide)) (fun _ => ?_)
    refine x_aload_n (pc := 36) X d_M_go_36 0 rfl ?_
    refine x_get (pc := 37) X tb_M 0 14 (by decide) mw_87 (atM_0 _ _ _) rfl d_M_go_37 ?_
    refine x_goto (pc := 40) (tgt := 44) X d_M_go_40 (by decide) ?_
    refine x_put (pc := 44) (ws' := (wM (zI Z) q (us (us σ 0 0) 7 ((us σ 0 0).1 7)))) X tb_M 0 14 (by decide) mw_87 (atM_0 _ _ _) rfl pI (Nat.le_of_ble_eq_true rfl) (ptM_7 _ _ _ _) d_M_go_44 ?_
    refine x_iload_n (pc := 47) X d_M_go_47 2 rfl ?_
    exact hR _ _ _ _ d_M_go_48 (vp_nar_int _) hw
  · have hw := hw.2 c
    refine x_iload_n (pc := 9) X d_M_go_9 1 rfl ?_
    refine x_aload_n (pc := 10) X d_M_go_10 0 rfl ?_
    refine x_get (pc := 11) X tb_M 0 6 (by decide) mw_79 (atM_0 _ _ _) rfl d_M_go_11 ?_
    refine x_icmp_lt (pc := 14) (tgt := 21) X d_M_go_14 (by decide) (fun c => ?_) (fun c => ?_)
    · have hw := hw.1 c
      refine x_aload_n (pc := 21) X d_M_go_21 0 rfl ?_
      refine x_aload_n (pc := 22) X d_M_go_22 0 rfl ?_
      refine x_get (pc := 23) X tb_M 0 14 (by decide) mw_87 (atM_0 _ _ _) rfl d_M_go_23 ?_
      refine x_iload_n (pc := 26) X d_M_go_26 1 rfl ?_
      refine x_cvi (pc := 27) X [.int ((us σ 0 0).1 7), .int x1] (c_M_next (zl Z) (zD Z) (zI Z) q (us σ 0 0) ((us σ 0 0).1 7) x1 _ hw) mv_M_next tb_M 0 (atM_0 _ _ _) mw_94 d_M_go_27 rfl (Nat.le_of_ble_eq_true rfl) ⟨Nat.le_of_ble_eq_true rfl, Nat.le_of_ble_eq_true rfl⟩ ⟨rfl, rfl⟩ ⟨Nat.zero_le _, Nat.zero_le _⟩ ?_
      intro r1 σ1 hw
      refine x_istore_n (pc := 30) (lv' := [(0, .ref (q 0)), (1, .int x1), (2, .int r1)]) X d_M_go_30 (by decide) [1, 2, 0] rfl ?_
      refine x_aload_n (pc := 31) X d_M_go_31 0 rfl ?_
      refine x_iload_n (pc := 32) X d_M_go_32 2 rfl ?_
      refine x_if_ge (pc := 33) (tgt := 43) X d_M_go_33 (by decide) (fun c => ?_) (fun c => ?_)
      · have hw := hw.1 c
        refine x_iload_n (pc := 43) X d_M_go_43 2 rfl ?_
        refine x_put (pc := 44) (ws' := (wM (zI Z) q (us σ1 7 r1))) X tb_M 0 14 (by decide) mw_87 (atM_0 _ _ _) rfl pI (Nat.le_of_ble_eq_true rfl) (ptM_7 _ _ _ _) d_M_go_44 ?_
        refine x_iload_n (pc := 47) X d_M_go_47 2 rfl ?_
        exact hR _ _ _ _ d_M_go_48 (vp_nar_int _) hw
      · have hw := hw.2 c
        refine x_aload_n (pc := 36) X d_M_go_36 0 rfl ?_
        refine x_get (pc := 37) X tb_M 0 14 (by decide) mw_87 (atM_0 _ _ _) rfl d_M_go_37 ?_
        refine x_goto (pc := 40) (tgt := 44) X d_M_go_40 (by decide) ?_
        refine x_put (pc := 44) (ws' := (wM (zI Z) q (us σ1 7 (σ1.1 7)))) X tb_M 0 14 (by decide) mw_87 (atM_0 _ _ _) rfl pI (Nat.le_of_ble_eq_true rfl) (ptM_7 _ _ _ _) d_M_go_44 ?_
        refine x_iload_n (pc := 47) X d_M_go_47 2 rfl ?_
        exact hR _ _ _ _ d_M_go_48 (vp_nar_int _) hw
    · have hw := hw.2 c
      refine x_iconst (pc := 17) (v := (-1)) X d_M_go_17 (by decide) ?_
      refine x_goto (pc := 18) (tgt := 30) X d_M_go_18 (by decide) ?_
      refine x_istore_n (pc := 30) (lv' := [(0, .ref (q 0)), (1, .int x1), (2, .int (-1))]) X d_M_go_30 (by decide) [1, 2, 0] rfl ?_
      refine x_aload_n (pc := 31) X d_M_go_31 0 rfl ?_
      refine x_iload_n (pc := 32) X d_M_go_32 2 rfl ?_
      refine x_if_ge (pc := 33) (tgt := 43) X d_M_go_33 (by decide) (fun c => absurd c (by decide)) (fun _ => ?_)
      refine x_aload_n (pc := 36) X d_M_go_36 0 rfl ?_
      refine x_get (pc := 37) X tb_M 0 14 (by decide) mw_87 (atM_0 _ _ _) rfl d_M_go_37 ?_
      refine x_goto (pc := 40) (tgt := 44) X d_M_go_40 (by decide) ?_
      refine x_put (pc := 44) (ws' := (wM (zI Z) q (us (us σ 0 0) 7 ((us σ 0 0).1 7)))) X tb_M 0 14 (by decide) mw_87 (atM_0 _ _ _) rfl pI (Nat.le_of_ble_eq_true rfl) (ptM_7 _ _ _ _) d_M_go_44 ?_
      refine x_iload_n (pc := 47) X d_M_go_47 2 rfl ?_
      exact hR _ _ _ _ d_M_go_48 (vp_nar_int _) hw
def rm_M_isState : Room := { frames := 0, cells := 0, slots := 0, locals := 0 }
set_option maxHeartbeats 4000000 in
set_option maxRecDepth 100000 in
theorem c_M_isState (l : Launch) (D : va_G) (cI : ClassId) (q : Nat → Nat) (σ : St) (x1 : Int32) (post : Int32 → St → Prop) (hw : wp_M_isState x1 σ post) : CI l D cI (wM cI q) y_M_isState b_M_isState 2 .boolean rm_M_isState [.ref (q 0), .int x1] σ post := by
  refine CI_of (by decide) (Nat.le_of_ble_eq_true rfl) ?_
  intro Z hZl hZD hZI X hR
  subst hZl; subst hZD; subst hZI
  unfold wp_M_isState at hw
  show VV Z 0 0 (wM (zI Z) q σ) [(0, .ref (q 0)), (1, .int x1)] 0 []
  refine x_iload_n (pc := 0) X d_M_isState_0 1 rfl ?_
  refine x_if_lt (pc := 1) (tgt := 16) X d_M_isState_1 (by decide) (fun c => ?_) (fun c => ?_)
  · have hw := hw.1 c
    refine x_iconst (pc := 16) (v := 0) X d_M_isState_16 (by decide) ?_
    exact hR _ _ _ _ d_M_isState_17 rfl hw
  · have hw := hw.2 c
    refine x_iload_n (pc := 4) X d_M_isState_4 1 rfl ?_
    refine x_aload_n (pc := 5) X d_M_isState_5 0 rfl ?_
    refine x_get (pc := 6) X tb_M 0 13 (by decide) mw_86 (atM_0 _ _ _) rfl d_M_isState_6 ?_
    refine x_icmp_ge (pc := 9) (tgt := 16) X d_M_isState_9 (by decide) (fun c => ?_) (fun c => ?_)
    · have hw := hw.1 c
      refine x_iconst (pc := 16) (v := 0) X d_M_isState_16 (by decide) ?_
      exact hR _ _ _ _ d_M_isState_17 rfl hw
    · have hw := hw.2 c
      refine x_iconst (pc := 12) (v := 1) X d_M_isState_12 (by decide) ?_
      refine x_goto (pc := 13) (tgt := 17) X d_M_isState_13 (by decide) ?_
      exact hR _ _ _ _ d_M_isState_17 rfl hw
def rm_M_to : Room := { frames := 1, cells := 0, slots := 0, locals := 23 }
set_option maxHeartbeats 4000000 in
set_option maxRecDepth 100000 in
theorem c_M_to (l : Launch) (D : va_G) (cI : ClassId) (q : Nat → Nat) (σ : St) (x1 x2 : Int32) (post : Int32 → St → Prop) (hw : wp_M_to x1 x2 σ post) : CI l D cI (wM cI q) y_M_to b_M_to 3 .int rm_M_to [.ref (q 0), .int x1, .int x2] σ post := by
  refine CI_of (by decide) (Nat.le_of_ble_eq_true rfl) ?_
  intro Z hZl hZD hZI X hR
  subst hZl; subst hZD; subst hZI
  unfold wp_M_to at hw
  show VV Z 0 0 (wM (zI Z) q σ) [(0, .ref (q 0)), (1, .int x1), (2, .int x2)] 0 []
  refine x_aload_n (pc := 0) X d_M_to_0 0 rfl ?_
  refine x_iconst (pc := 1) (v := 0) X d_M_to_1 (by decide) ?_
  refine x_put (pc := 2) (ws' := (wM (zI Z) q (us σ 0 0))) X tb_M 0 0 (by decide) mw_7 (atM_0 _ _ _) rfl pI (Nat.le_of_ble_eq_true rfl) (ptM_0 _ _ _ _) d_M_to_2 ?_
  refine x_aload_n (pc := 5) X d_M_to_5 0 rfl ?_
  refine x_iload_n (pc := 6) X d_M_to_6 1 rfl ?_
  refine x_cvi (pc := 7) X [.int x1] (c_M_isState (zl Z) (zD Z) (zI Z) q (us σ 0 0) x1 _ hw) mv_M_isState tb_M 0 (atM_0 _ _ _) mw_95 d_M_to_7 rfl (Nat.le_of_ble_eq_true rfl) ⟨Nat.le_of_ble_eq_true rfl, Nat.le_of_ble_eq_true rfl⟩ ⟨rfl, rfl⟩ ⟨Nat.zero_le _, Nat.zero_le _⟩ ?_
  intro r1 σ1 hw
  refine x_if_eq (pc := 10) (tgt := 25) X d_M_to_10 (by decide) (fun c => ?_) (fun c => ?_)
  · have hw := hw.1 c
    refine x_iconst (pc := 25) (v := (-1)) X d_M_to_25 (by decide) ?_
    refine x_goto (pc := 26) (tgt := 35) X d_M_to_26 (by decide) ?_
    exact hR _ _ _ _ d_M_to_35 (vp_nar_int _) hw
  · have hw := hw.2 c
    refine x_iload_n (pc := 13) X d_M_to_13 2 rfl ?_
    refine x_if_lt (pc := 14) (tgt := 25) X d_M_to_14 (by decide) (fun c => ?_) (fun c => ?_)
    · have hw := hw.1 c
      refine x_iconst (pc := 25) (v := (-1)) X d_M_to_25 (by decide) ?_
      refine x_goto (pc := 26) (tgt := 35) X d_M_to_26 (by decide) ?_
      exact hR _ _ _ _ d_M_to_35 (vp_nar_int _) hw
    · have hw := hw.2 c
      refine x_iload_n (pc := 17) X d_M_to_17 2 rfl ?_
      refine x_aload_n (pc := 18) X d_M_to_18 0 rfl ?_
      refine x_get (pc := 19) X tb_M 0 6 (by decide) mw_79 (atM_0 _ _ _) rfl d_M_to_19 ?_
      refine x_icmp_lt (pc := 22) (tgt := 29) X d_M_to_22 (by decide) (fun c => ?_) (fun c => ?_)
      · have hw := hw.1 c
        refine x_aload_n (pc := 29) X d_M_to_29 0 rfl ?_
        refine x_iload_n (pc := 30) X d_M_to_30 1 rfl ?_
        refine x_iload_n (pc := 31) X d_M_to_31 2 rfl ?_
        refine x_cvi (pc := 32) X [.int x1, .int x2] (c_M_next (zl Z) (zD Z) (zI Z) q σ1 x1 x2 _ hw) mv_M_next tb_M 0 (atM_0 _ _ _) mw_94 d_M_to_32 rfl (Nat.le_of_ble_eq_true rfl) ⟨Nat.le_of_ble_eq_true rfl, Nat.le_of_ble_eq_true rfl⟩ ⟨rfl, rfl⟩ ⟨Nat.zero_le _, Nat.zero_le _⟩ ?_
        intro r2 σ2 hw
        exact hR _ _ _ _ d_M_to_35 (vp_nar_int _) hw
      · have hw := hw.2 c
        refine x_iconst (pc := 25) (v := (-1)) X d_M_to_25 (by decide) ?_
        refine x_goto (pc := 26) (tgt := 35) X d_M_to_26 (by decide) ?_
        exact hR _ _ _ _ d_M_to_35 (vp_nar_int _) hw
def rm_T_hasSet : Room := { frames := 0, cells := 0, slots := 0, locals := 0 }
set_option maxHeartbeats 4000000 in
set_option maxRecDepth 100000 in
theorem c_T_hasSet (l : Launch) (D : va_G) (cI : ClassId) (q : Nat → Nat) (σ : St) (x1 : Int32) (post : Int32 → St → Prop) (hw : wp_T_hasSet x1 σ post) : CI l D cI (wC cI q) y_T_hasSet b_T_hasSet 2 .boolean rm_T_hasSet [.ref (q 3), .int x1] σ post := by
  refine CI_of (by decide) (Nat.le_of_ble_eq_true rfl) ?_
  intro Z hZl hZD hZI X hR
  subst hZl; subst hZD; subst hZI
  unfold wp_T_hasSet at hw
  show VV Z 0 0 (wC (zI Z) q σ) [(0, .ref (q 3)), (1, .int x1)] 0 []
  refine x_iload_n (pc := 0) X d_T_hasSet_0 1 rfl ?_
  refine x_if_lt (pc := 1) (tgt := 16) X d_T_hasSet_1 (by decide) (fun c => ?_) (fun c => ?_)
  · have hw := hw.1 c
    refine x_iconst (pc := 16) (v := 0) X d_T_hasSet_16 (by decide) ?_
    exact hR _ _ _ _ d_T_hasSet_17 rfl hw
  · have hw := hw.2 c
    refine x_iload_n (pc := 4) X d_T_hasSet_4 1 rfl ?_
    refine x_aload_n (pc := 5) X d_T_hasSet_5 0 rfl ?_
    refine x_get (pc := 6) X tb_T 3 1 (by decide) mw_38 (atC_3 _ _ _) rfl d_T_hasSet_6 ?_
    refine x_icmp_ge (pc := 9) (tgt := 16) X d_T_hasSet_9 (by decide) (fun c => ?_) (fun c => ?_)
    · have hw := hw.1 c
      refine x_iconst (pc := 16) (v := 0) X d_T_hasSet_16 (by decide) ?_
      exact hR _ _ _ _ d_T_hasSet_17 rfl hw
    · have hw := hw.2 c
      refine x_iconst (pc := 12) (v := 1) X d_T_hasSet_12 (by decide) ?_
      refine x_goto (pc := 13) (tgt := 17) X d_T_hasSet_13 (by decide) ?_
      exact hR _ _ _ _ d_T_hasSet_17 rfl hw
def rm_W_nodes : Room := { frames := 1, cells := 0, slots := 0, locals := 21 }
set_option maxHeartbeats 4000000 in
set_option maxRecDepth 100000 in
theorem c_W_nodes (l : Launch) (D : va_G) (cI : ClassId) (q : Nat → Nat) (σ : St) (x1 : Int32) (post : Int32 → St → Prop) (hw : wp_W_nodes x1 σ post) : CI l D cI (wC cI q) y_W_nodes b_W_nodes 2 .int rm_W_nodes [.ref (q 0), .int x1] σ post := by
  refine CI_of (by decide) (Nat.le_of_ble_eq_true rfl) ?_
  intro Z hZl hZD hZI X hR
  subst hZl; subst hZD; subst hZI
  unfold wp_W_nodes at hw
  show VV Z 0 0 (wC (zI Z) q σ) [(0, .ref (q 0)), (1, .int x1)] 0 []
  refine x_aload_n (pc := 0) X d_W_nodes_0 0 rfl ?_
  refine x_get (pc := 1) X tb_W 0 1 (by decide) mw_30 (atC_0 _ _ _) rfl d_W_nodes_1 ?_
  refine x_iload_n (pc := 4) X d_W_nodes_4 1 rfl ?_
  refine x_cni (pc := 5) X [.int x1] (c_T_hasSet (zl Z) (zD Z) (zI Z) q σ x1 _ hw) mv_T_hasSet tb_T 3 (atC_3 _ _ _) nw_96 d_W_nodes_5 rfl (Nat.le_of_ble_eq_true rfl) ⟨Nat.le_of_ble_eq_true rfl, Nat.le_of_ble_eq_true rfl⟩ ⟨rfl, rfl⟩ ⟨Nat.zero_le _, Nat.zero_le _⟩ ?_
  intro r1 σ1 hw
  refine x_if_eq (pc := 8) (tgt := 23) X d_W_nodes_8 (by decide) (fun c => ?_) (fun c => ?_)
  · have hw := hw.1 c
    refine x_iconst (pc := 23) (v := 0) X d_W_nodes_23 (by decide) ?_
    exact hR _ _ _ _ d_W_nodes_24 (vp_nar_int _) hw
  · have hw := hw.2 c
    refine x_aload_n (pc := 11) X d_W_nodes_11 0 rfl ?_
    refine x_get (pc := 12) X tb_W 0 1 (by decide) mw_30 (atC_0 _ _ _) rfl d_W_nodes_12 ?_
    refine x_getN (pc := 15) X tb_T 3 4 (by decide) nw_97 (atC_3 _ _ _) rfl d_W_nodes_15 ?_
    refine x_iload_n (pc := 18) X d_W_nodes_18 1 rfl ?_
    obtain ⟨h2, hw⟩ := hw
    refine x_iald (pc := 19) X 4 (atC_4 _ _ _) h2 d_W_nodes_19 ?_
    refine x_goto (pc := 20) (tgt := 24) X d_W_nodes_20 (by decide) ?_
    exact hR _ _ _ _ d_W_nodes_24 (vp_nar_int _) hw
def rm_M_nodes : Room := { frames := 0, cells := 0, slots := 0, locals := 0 }
set_option maxHeartbeats 4000000 in
set_option maxRecDepth 100000 in
theorem c_M_nodes (l : Launch) (D : va_G) (cI : ClassId) (q : Nat → Nat) (σ : St) (x1 : Int32) (post : Int32 → St → Prop) (hw : wp_M_nodes x1 σ post) : CI l D cI (wM cI q) y_M_nodes b_M_nodes 2 .int rm_M_nodes [.ref (q 0), .int x1] σ post := by
  refine CI_of (by decide) (Nat.le_of_ble_eq_true rfl) ?_
  intro Z hZl hZD hZI X hR
  subst hZl; subst hZD; subst hZI
  unfold wp_M_nodes at hw
  show VV Z 0 0 (wM (zI Z) q σ) [(0, .ref (q 0)), (1, .int x1)] 0 []
  refine x_aload_n (pc := 0) X d_M_nodes_0 0 rfl ?_
  refine x_iconst (pc := 1) (v := 0) X d_M_nodes_1 (by decide) ?_
  refine x_put (pc := 2) (ws' := (wM (zI Z) q (us σ 0 0))) X tb_M 0 0 (by decide) mw_7 (atM_0 _ _ _) rfl pI (Nat.le_of_ble_eq_true rfl) (ptM_0 _ _ _ _) d_M_nodes_2 ?_
  refine x_iload_n (pc := 5) X d_M_nodes_5 1 rfl ?_
  refine x_if_lt (pc := 6) (tgt := 17) X d_M_nodes_6 (by decide) (fun c => ?_) (fun c => ?_)
  · have hw := hw.1 c
    refine x_iconst (pc := 17) (v := 0) X d_M_nodes_17 (by decide) ?_
    refine x_goto (pc := 18) (tgt := 27) X d_M_nodes_18 (by decide) ?_
    exact hR _ _ _ _ d_M_nodes_27 (vp_nar_int _) hw
  · have hw := hw.2 c
    refine x_iload_n (pc := 9) X d_M_nodes_9 1 rfl ?_
    refine x_aload_n (pc := 10) X d_M_nodes_10 0 rfl ?_
    refine x_get (pc := 11) X tb_M 0 5 (by decide) mw_78 (atM_0 _ _ _) rfl d_M_nodes_11 ?_
    refine x_icmp_lt (pc := 14) (tgt := 21) X d_M_nodes_14 (by decide) (fun c => ?_) (fun c => ?_)
    · have hw := hw.1 c
      refine x_aload_n (pc := 21) X d_M_nodes_21 0 rfl ?_
      refine x_get (pc := 22) X tb_M 0 7 (by decide) mw_89 (atM_0 _ _ _) rfl d_M_nodes_22 ?_
      refine x_iload_n (pc := 25) X d_M_nodes_25 1 rfl ?_
      obtain ⟨h1, hw⟩ := hw
      refine x_iald (pc := 26) X 2 (atM_2 _ _ _) h1 d_M_nodes_26 ?_
      exact hR _ _ _ _ d_M_nodes_27 (vp_nar_int _) hw
    · have hw := hw.2 c
      refine x_iconst (pc := 17) (v := 0) X d_M_nodes_17 (by decide) ?_
      refine x_goto (pc := 18) (tgt := 27) X d_M_nodes_18 (by decide) ?_
      exact hR _ _ _ _ d_M_nodes_27 (vp_nar_int _) hw
def rm_W_state : Room := { frames := 1, cells := 0, slots := 0, locals := 21 }
set_option maxHeartbeats 4000000 in
set_option maxRecDepth 100000 in
theorem c_W_state (l : Launch) (D : va_G) (cI : ClassId) (q : Nat → Nat) (σ : St) (x1 : Int32) (post : Int32 → St → Prop) (hw : wp_W_state x1 σ post) : CI l D cI (wC cI q) y_W_state b_W_state 2 .int rm_W_state [.ref (q 0), .int x1] σ post := by
  refine CI_of (by decide) (Nat.le_of_ble_eq_true rfl) ?_
  intro Z hZl hZD hZI X hR
  subst hZl; subst hZD; subst hZI
  unfold wp_W_state at hw
  show VV Z 0 0 (wC (zI Z) q σ) [(0, .ref (q 0)), (1, .int x1)] 0 []
  refine x_aload_n (pc := 0) X d_W_state_0 0 rfl ?_
  refine x_get (pc := 1) X tb_W 0 1 (by decide) mw_30 (atC_0 _ _ _) rfl d_W_state_1 ?_
  refine x_iload_n (pc := 4) X d_W_state_4 1 rfl ?_
  refine x_cni (pc := 5) X [.int x1] (c_T_hasSet (zl Z) (zD Z) (zI Z) q σ x1 _ hw) mv_T_hasSet tb_T 3 (atC_3 _ _ _) nw_96 d_W_state_5 rfl (Nat.le_of_ble_eq_true rfl) ⟨Nat.le_of_ble_eq_true rfl, Nat.le_of_ble_eq_true rfl⟩ ⟨rfl, rfl⟩ ⟨Nat.zero_le _, Nat.zero_le _⟩ ?_
  intro r1 σ1 hw
  refine x_if_eq (pc := 8) (tgt := 23) X d_W_state_8 (by decide) (fun c => ?_) (fun c => ?_)
  · have hw := hw.1 c
    refine x_iconst (pc := 23) (v := (-1)) X d_W_state_23 (by decide) ?_
    exact hR _ _ _ _ d_W_state_24 (vp_nar_int _) hw
  · have hw := hw.2 c
    refine x_aload_n (pc := 11) X d_W_state_11 0 rfl ?_
    refine x_get (pc := 12) X tb_W 0 1 (by decide) mw_30 (atC_0 _ _ _) rfl d_W_state_12 ?_
    refine x_getN (pc := 15) X tb_T 3 9 (by decide) nw_98 (atC_3 _ _ _) rfl d_W_state_15 ?_
    refine x_iload_n (pc := 18) X d_W_state_18 1 rfl ?_
    obtain ⟨h2, hw⟩ := hw
    refine x_iald (pc := 19) X 9 (atC_9 _ _ _) h2 d_W_state_19 ?_
    refine x_goto (pc := 20) (tgt := 24) X d_W_state_20 (by decide) ?_
    exact hR _ _ _ _ d_W_state_24 (vp_nar_int _) hw
def rm_M_state : Room := { frames := 0, cells := 0, slots := 0, locals := 0 }
set_option maxHeartbeats 4000000 in
set_option maxRecDepth 100000 in
theorem c_M_state (l : Launch) (D : va_G) (cI : ClassId) (q : Nat → Nat) (σ : St) (x1 : Int32) (post : Int32 → St → Prop) (hw : wp_M_state x1 σ post) : CI l D cI (wM cI q) y_M_state b_M_state 2 .int rm_M_state [.ref (q 0), .int x1] σ post := by
  refine CI_of (by decide) (Nat.le_of_ble_eq_true rfl) ?_
  intro Z hZl hZD hZI X hR
  subst hZl; subst hZD; subst hZI
  unfold wp_M_state at hw
  show VV Z 0 0 (wM (zI Z) q σ) [(0, .ref (q 0)), (1, .int x1)] 0 []
  refine x_aload_n (pc := 0) X d_M_state_0 0 rfl ?_
  refine x_iconst (pc := 1) (v := 0) X d_M_state_1 (by decide) ?_
  refine x_put (pc := 2) (ws' := (wM (zI Z) q (us σ 0 0))) X tb_M 0 0 (by decide) mw_7 (atM_0 _ _ _) rfl pI (Nat.le_of_ble_eq_true rfl) (ptM_0 _ _ _ _) d_M_state_2 ?_
  refine x_iload_n (pc := 5) X d_M_state_5 1 rfl ?_
  refine x_if_lt (pc := 6) (tgt := 17) X d_M_state_6 (by decide) (fun c => ?_) (fun c => ?_)
  · have hw := hw.1 c
    refine x_iconst (pc := 17) (v := (-1)) X d_M_state_17 (by decide) ?_
    refine x_goto (pc := 18) (tgt := 27) X d_M_state_18 (by decide) ?_
    exact hR _ _ _ _ d_M_state_27 (vp_nar_int _) hw
  · have hw := hw.2 c
    refine x_iload_n (pc := 9) X d_M_state_9 1 rfl ?_
    refine x_aload_n (pc := 10) X d_M_state_10 0 rfl ?_
    refine x_get (pc := 11) X tb_M 0 5 (by decide) mw_78 (atM_0 _ _ _) rfl d_M_state_11 ?_
    refine x_icmp_lt (pc := 14) (tgt := 21) X d_M_state_14 (by decide) (fun c => ?_) (fun c => ?_)
    · have hw := hw.1 c
      refine x_aload_n (pc := 21) X d_M_state_21 0 rfl ?_
      refine x_get (pc := 22) X tb_M 0 11 (by decide) mw_84 (atM_0 _ _ _) rfl d_M_state_22 ?_
      refine x_iload_n (pc := 25) X d_M_state_25 1 rfl ?_
      obtain ⟨h1, hw⟩ := hw
      refine x_iald (pc := 26) X 6 (atM_6 _ _ _) h1 d_M_state_26 ?_
      exact hR _ _ _ _ d_M_state_27 (vp_nar_int _) hw
    · have hw := hw.2 c
      refine x_iconst (pc := 17) (v := (-1)) X d_M_state_17 (by decide) ?_
      refine x_goto (pc := 18) (tgt := 27) X d_M_state_18 (by decide) ?_
      exact hR _ _ _ _ d_M_state_27 (vp_nar_int _) hw
def rm_T_rowLength : Room := { frames := 2, cells := 0, slots := 0, locals := 43 }
set_option maxHeartbeats 4000000 in
set_option maxRecDepth 100000 in
theorem c_T_rowLength (l : Launch) (D : va_G) (cI : ClassId) (q : Nat → Nat) (σ : St) (x1 x2 : Int32) (post : Int32 → St → Prop) (hw : wp_T_rowLength x1 x2 σ post) : CI l D cI (wC cI q) y_T_rowLength b_T_rowLength 3 .int rm_T_rowLength [.ref (q 3), .int x1, .int x2] σ post := by
  refine CI_of (by decide) (Nat.le_of_ble_eq_true rfl) ?_
  intro Z hZl hZD hZI X hR
  subst hZl; subst hZD; subst hZI
  unfold wp_T_rowLength at hw
  show VV Z 0 0 (wC (zI Z) q σ) [(0, .ref (q 3)), (1, .int x1), (2, .int x2)] 0 []
  refine x_iload_n (pc := 0) X d_T_rowLength_0 1 rfl ?_
  refine x_iload_n (pc := 1) X d_T_rowLength_1 2 rfl ?_
  refine x_icmp_ne (pc := 2) (tgt := 9) X d_T_rowLength_2 (by decide) (fun c => ?_) (fun c => ?_)
  · have hw := hw.1 c
    refine x_aload_n (pc := 9) X d_T_rowLength_9 0 rfl ?_
    refine x_get (pc := 10) X tb_T 3 11 (by decide) mw_54 (atC_3 _ _ _) rfl d_T_rowLength_10 ?_
    refine x_aload_n (pc := 13) X d_T_rowLength_13 0 rfl ?_
    refine x_get (pc := 14) X tb_T 3 10 (by decide) mw_68 (atC_3 _ _ _) rfl d_T_rowLength_14 ?_
    refine x_iload_n (pc := 17) X d_T_rowLength_17 1 rfl ?_
    obtain ⟨h1, hw⟩ := hw
    refine x_iald (pc := 18) X 10 (atC_10 _ _ _) h1 d_T_rowLength_18 ?_
    refine x_aload_n (pc := 19) X d_T_rowLength_19 0 rfl ?_
    refine x_get (pc := 20) X tb_T 3 10 (by decide) mw_68 (atC_3 _ _ _) rfl d_T_rowLength_20 ?_
    refine x_iload_n (pc := 23) X d_T_rowLength_23 2 rfl ?_
    obtain ⟨h2, hw⟩ := hw
    refine x_iald (pc := 24) X 10 (atC_10 _ _ _) h2 d_T_rowLength_24 ?_
    refine x_csi (pc := 25) X [.int (σ.2 7 x1.toNatClampNeg), .int (σ.2 7 x2.toNatClampNeg)] (c_T_pair (zl Z) (zD Z) (zI Z) q σ (σ.2 7 x1.toNatClampNeg) (σ.2 7 x2.toNatClampNeg) _ hw) ms_T_pair mw_62 d_T_rowLength_25 rfl (Nat.le_of_ble_eq_true rfl) ⟨Nat.le_of_ble_eq_true rfl, Nat.le_of_ble_eq_true rfl⟩ ⟨rfl, rfl⟩ ⟨Nat.zero_le _, Nat.zero_le _⟩ ?_
    intro r3 σ3 hw
    obtain ⟨h4, hw⟩ := hw
    refine x_iald (pc := 28) X 11 (atC_11 _ _ _) h4 d_T_rowLength_28 ?_
    exact hR _ _ _ _ d_T_rowLength_29 (vp_nar_int _) hw
  · have hw := hw.2 c
    refine x_iconst (pc := 5) (v := 0) X d_T_rowLength_5 (by decide) ?_
    refine x_goto (pc := 6) (tgt := 29) X d_T_rowLength_6 (by decide) ?_
    exact hR _ _ _ _ d_T_rowLength_29 (vp_nar_int _) hw
def rm_W_apart : Room := { frames := 3, cells := 0, slots := 0, locals := 65 }
set_option maxHeartbeats 4000000 in
set_option maxRecDepth 100000 in
theorem c_W_apart (l : Launch) (D : va_G) (cI : ClassId) (q : Nat → Nat) (σ : St) (x1 x2 : Int32) (post : Int32 → St → Prop) (hw : wp_W_apart x1 x2 σ post) : CI l D cI (wC cI q) y_W_apart b_W_apart 3 .int rm_W_apart [.ref (q 0), .int x1, .int x2] σ post := by
  refine CI_of (by decide) (Nat.le_of_ble_eq_true rfl) ?_
  intro Z hZl hZD hZI X hR
  subst hZl; subst hZD; subst hZI
  unfold wp_W_apart at hw
  show VV Z 0 0 (wC (zI Z) q σ) [(0, .ref (q 0)), (1, .int x1), (2, .int x2)] 0 []
  refine x_aload_n (pc := 0) X d_W_apart_0 0 rfl ?_
  refine x_get (pc := 1) X tb_W 0 1 (by decide) mw_30 (atC_0 _ _ _) rfl d_W_apart_1 ?_
  refine x_iload_n (pc := 4) X d_W_apart_4 1 rfl ?_
  refine x_cni (pc := 5) X [.int x1] (c_T_hasState (zl Z) (zD Z) (zI Z) q σ x1 _ hw) mv_T_hasState tb_T 3 (atC_3 _ _ _) nw_90 d_W_apart_5 rfl (Nat.le_of_ble_eq_true rfl) ⟨Nat.le_of_ble_eq_true rfl, Nat.le_of_ble_eq_true rfl⟩ ⟨rfl, rfl⟩ ⟨Nat.zero_le _, Nat.zero_le _⟩ ?_
  intro r1 σ1 hw
  refine x_if_eq (pc := 8) (tgt := 22) X d_W_apart_8 (by decide) (fun c => ?_) (fun c => ?_)
  · have hw := hw.1 c
    refine x_iconst (pc := 22) (v := (-1)) X d_W_apart_22 (by decide) ?_
    exact hR _ _ _ _ d_W_apart_23 (vp_nar_int _) hw
  · have hw := hw.2 c
    refine x_aload_n (pc := 11) X d_W_apart_11 0 rfl ?_
    refine x_get (pc := 12) X tb_W 0 1 (by decide) mw_30 (atC_0 _ _ _) rfl d_W_apart_12 ?_
    refine x_iload_n (pc := 15) X d_W_apart_15 2 rfl ?_
    refine x_cni (pc := 16) X [.int x2] (c_T_hasState (zl Z) (zD Z) (zI Z) q σ1 x2 _ hw) mv_T_hasState tb_T 3 (atC_3 _ _ _) nw_90 d_W_apart_16 rfl (Nat.le_of_ble_eq_true rfl) ⟨Nat.le_of_ble_eq_true rfl, Nat.le_of_ble_eq_true rfl⟩ ⟨rfl, rfl⟩ ⟨Nat.zero_le _, Nat.zero_le _⟩ ?_
    intro r2 σ2 hw
    refine x_if_ne (pc := 19) (tgt := 24) X d_W_apart_19 (by decide) (fun c => ?_) (fun c => ?_)
    · have hw := hw.1 c
      refine x_aload_n (pc := 24) X d_W_apart_24 0 rfl ?_
      refine x_get (pc := 25) X tb_W 0 1 (by decide) mw_30 (atC_0 _ _ _) rfl d_W_apart_25 ?_
      refine x_iload_n (pc := 28) X d_W_apart_28 1 rfl ?_
      refine x_iload_n (pc := 29) X d_W_apart_29 2 rfl ?_
      refine x_cni (pc := 30) X [.int x1, .int x2] (c_T_rowLength (zl Z) (zD Z) (zI Z) q σ2 x1 x2 _ hw) mv_T_rowLength tb_T 3 (atC_3 _ _ _) nw_99 d_W_apart_30 rfl (Nat.le_of_ble_eq_true rfl) ⟨Nat.le_of_ble_eq_true rfl, Nat.le_of_ble_eq_true rfl⟩ ⟨rfl, rfl⟩ ⟨Nat.zero_le _, Nat.zero_le _⟩ ?_
      intro r3 σ3 hw
      exact hR _ _ _ _ d_W_apart_33 (vp_nar_int _) hw
    · have hw := hw.2 c
      refine x_iconst (pc := 22) (v := (-1)) X d_W_apart_22 (by decide) ?_
      exact hR _ _ _ _ d_W_apart_23 (vp_nar_int _) hw
def rm_M_apart : Room := { frames := 1, cells := 0, slots := 0, locals := 21 }
set_option maxHeartbeats 4000000 in
set_option maxRecDepth 100000 in
theorem c_M_apart (l : Launch) (D : va_G) (cI : ClassId) (q : Nat → Nat) (σ : St) (x1 x2 : Int32) (post : Int32 → St → Prop) (hw : wp_M_apart x1 x2 σ post) : CI l D cI (wM cI q) y_M_apart b_M_apart 3 .int rm_M_apart [.ref (q 0), .int x1, .int x2] σ post := by
  refine CI_of (by decide) (Nat.le_of_ble_eq_true rfl) ?_
  intro Z hZl hZD hZI X hR
  subst hZl; subst hZD; subst hZI
  unfold wp_M_apart at hw
  show VV Z 0 0 (wM (zI Z) q σ) [(0, .ref (q 0)), (1, .int x1), (2, .int x2)] 0 []
  refine x_aload_n (pc := 0) X d_M_apart_0 0 rfl ?_
  refine x_iconst (pc := 1) (v := 0) X d_M_apart_1 (by decide) ?_
  refine x_put (pc := 2) (ws' := (wM (zI Z) q (us σ 0 0))) X tb_M 0 0 (by decide) mw_7 (atM_0 _ _ _) rfl pI (Nat.le_of_ble_eq_true rfl) (ptM_0 _ _ _ _) d_M_apart_2 ?_
  refine x_aload_n (pc := 5) X d_M_apart_5 0 rfl ?_
  refine x_iload_n (pc := 6) X d_M_apart_6 1 rfl ?_
  refine x_cvi (pc := 7) X [.int x1] (c_M_isState (zl Z) (zD Z) (zI Z) q (us σ 0 0) x1 _ hw) mv_M_isState tb_M 0 (atM_0 _ _ _) mw_95 d_M_apart_7 rfl (Nat.le_of_ble_eq_true rfl) ⟨Nat.le_of_ble_eq_true rfl, Nat.le_of_ble_eq_true rfl⟩ ⟨rfl, rfl⟩ ⟨Nat.zero_le _, Nat.zero_le _⟩ ?_
  intro r1 σ1 hw
  refine x_if_eq (pc := 10) (tgt := 69) X d_M_apart_10 (by decide) (fun c => ?_) (fun c => ?_)
  · have hw := hw.1 c
    refine x_iconst (pc := 69) (v := (-1)) X d_M_apart_69 (by decide) ?_
    exact hR _ _ _ _ d_M_apart_70 (vp_nar_int _) hw
  · have hw := hw.2 c
    refine x_aload_n (pc := 13) X d_M_apart_13 0 rfl ?_
    refine x_iload_n (pc := 14) X d_M_apart_14 2 rfl ?_
    refine x_cvi (pc := 15) X [.int x2] (c_M_isState (zl Z) (zD Z) (zI Z) q σ1 x2 _ hw) mv_M_isState tb_M 0 (atM_0 _ _ _) mw_95 d_M_apart_15 rfl (Nat.le_of_ble_eq_true rfl) ⟨Nat.le_of_ble_eq_true rfl, Nat.le_of_ble_eq_true rfl⟩ ⟨rfl, rfl⟩ ⟨Nat.zero_le _, Nat.zero_le _⟩ ?_
    intro r2 σ2 hw
    refine x_if_eq (pc := 18) (tgt := 69) X d_M_apart_18 (by decide) (fun c => ?_) (fun c => ?_)
    · have hw := hw.1 c
      refine x_iconst (pc := 69) (v := (-1)) X d_M_apart_69 (by decide) ?_
      exact hR _ _ _ _ d_M_apart_70 (vp_nar_int _) hw
    · have hw := hw.2 c
      refine x_aload_n (pc := 21) X d_M_apart_21 0 rfl ?_
      refine x_get (pc := 22) X tb_M 0 9 (by decide) mw_80 (atM_0 _ _ _) rfl d_M_apart_22 ?_
      refine x_bipush (pc := 25) (v := (nI 120)) X d_M_apart_25 (by decide) ?_
      refine x_aload_n (pc := 27) X d_M_apart_27 0 rfl ?_
      refine x_get (pc := 28) X tb_M 0 12 (by decide) mw_85 (atM_0 _ _ _) rfl d_M_apart_28 ?_
      refine x_aload_n (pc := 31) X d_M_apart_31 0 rfl ?_
      refine x_iload_n (pc := 32) X d_M_apart_32 1 rfl ?_
      refine x_cvi (pc := 33) X [.int x1] (c_M_isState (zl Z) (zD Z) (zI Z) q σ2 x1 _ hw) mv_M_isState tb_M 0 (atM_0 _ _ _) mw_95 d_M_apart_33 rfl (Nat.le_of_ble_eq_true rfl) ⟨Nat.le_of_ble_eq_true rfl, Nat.le_of_ble_eq_true rfl⟩ ⟨rfl, rfl⟩ ⟨Nat.zero_le _, Nat.zero_le _⟩ ?_
      intro r3 σ3 hw
      refine x_if_eq (pc := 36) (tgt := 43) X d_M_apart_36 (by decide) (fun c => ?_) (fun c => ?_)
      · have hw := hw.1 c
        refine x_iconst (pc := 43) (v := 0) X d_M_apart_43 (by decide) ?_
        obtain ⟨h4, hw⟩ := hw
        refine x_iald (pc := 44) X 7 (atM_7 _ _ _) h4 d_M_apart_44 ?_
        refine x_imul (pc := 45) X d_M_apart_45 ?_
        refine x_aload_n (pc := 46) X d_M_apart_46 0 rfl ?_
        refine x_get (pc := 47) X tb_M 0 12 (by decide) mw_85 (atM_0 _ _ _) rfl d_M_apart_47 ?_
        refine x_aload_n (pc := 50) X d_M_apart_50 0 rfl ?_
        refine x_iload_n (pc := 51) X d_M_apart_51 2 rfl ?_
        refine x_cvi (pc := 52) X [.int x2] (c_M_isState (zl Z) (zD Z) (zI Z) q σ3 x2 _ hw) mv_M_isState tb_M 0 (atM_0 _ _ _) mw_95 d_M_apart_52 rfl (Nat.le_of_ble_eq_true rfl) ⟨Nat.le_of_ble_eq_true rfl, Nat.le_of_ble_eq_true rfl⟩ ⟨rfl, rfl⟩ ⟨Nat.zero_le _, Nat.zero_le _⟩ ?_
        intro r5 σ5 hw
        refine x_if_eq (pc := 55) (tgt := 62) X d_M_apart_55 (by decide) (fun c => ?_) (fun c => ?_)
        · have hw := hw.1 c
          refine x_iconst (pc := 62) (v := 0) X d_M_apart_62 (by decide) ?_
          obtain ⟨h6, hw⟩ := hw
          refine x_iald (pc := 63) X 7 (atM_7 _ _ _) h6 d_M_apart_63 ?_
          refine x_iadd (pc := 64) X d_M_apart_64 ?_
          obtain ⟨h7, hw⟩ := hw
          refine x_iald (pc := 65) X 4 (atM_4 _ _ _) h7 d_M_apart_65 ?_
          refine x_goto (pc := 66) (tgt := 70) X d_M_apart_66 (by decide) ?_
          exact hR _ _ _ _ d_M_apart_70 (vp_nar_int _) hw
        · have hw := hw.2 c
          refine x_iload_n (pc := 58) X d_M_apart_58 2 rfl ?_
          refine x_goto (pc := 59) (tgt := 63) X d_M_apart_59 (by decide) ?_
          obtain ⟨h8, hw⟩ := hw
          refine x_iald (pc := 63) X 7 (atM_7 _ _ _) h8 d_M_apart_63 ?_
          refine x_iadd (pc := 64) X d_M_apart_64 ?_
          obtain ⟨h9, hw⟩ := hw
          refine x_iald (pc := 65) X 4 (atM_4 _ _ _) h9 d_M_apart_65 ?_
          refine x_goto (pc := 66) (tgt := 70) X d_M_apart_66 (by decide) ?_
          exact hR _ _ _ _ d_M_apart_70 (vp_nar_int _) hw
      · have hw := hw.2 c
        refine x_iload_n (pc := 39) X d_M_apart_39 1 rfl ?_
        refine x_goto (pc := 40) (tgt := 44) X d_M_apart_40 (by decide) ?_
        obtain ⟨h10, hw⟩ := hw
        refine x_iald (pc := 44) X 7 (atM_7 _ _ _) h10 d_M_apart_44 ?_
        refine x_imul (pc := 45) X d_M_apart_45 ?_
        refine x_aload_n (pc := 46) X d_M_apart_46 0 rfl ?_
        refine x_get (pc := 47) X tb_M 0 12 (by decide) mw_85 (atM_0 _ _ _) rfl d_M_apart_47 ?_
        refine x_aload_n (pc := 50) X d_M_apart_50 0 rfl ?_
        refine x_iload_n (pc := 51) X d_M_apart_51 2 rfl ?_
        refine x_cvi (pc := 52) X [.int x2] (c_M_isState (zl Z) (zD Z) (zI Z) q σ3 x2 _ hw) mv_M_isState tb_M 0 (atM_0 _ _ _) mw_95 d_M_apart_52 rfl (Nat.le_of_ble_eq_true rfl) ⟨Nat.le_of_ble_eq_true rfl, Nat.le_of_ble_eq_true rfl⟩ ⟨rfl, rfl⟩ ⟨Nat.zero_le _, Nat.zero_le _⟩ ?_
        intro r11 σ11 hw
        refine x_if_eq (pc := 55) (tgt := 62) X d_M_apart_55 (by decide) (fun c => ?_) (fun c => ?_)
        · have hw := hw.1 c
          refine x_iconst (pc := 62) (v := 0) X d_M_apart_62 (by decide) ?_
          obtain ⟨h12, hw⟩ := hw
          refine x_iald (pc := 63) X 7 (atM_7 _ _ _) h12 d_M_apart_63 ?_
          refine x_iadd (pc := 64) X d_M_apart_64 ?_
          obtain ⟨h13, hw⟩ := hw
          refine x_iald (pc := 65) X 4 (atM_4 _ _ _) h13 d_M_apart_65 ?_
          refine x_goto (pc := 66) (tgt := 70) X d_M_apart_66 (by decide) ?_
          exact hR _ _ _ _ d_M_apart_70 (vp_nar_int _) hw
        · have hw := hw.2 c
          refine x_iload_n (pc := 58) X d_M_apart_58 2 rfl ?_
          refine x_goto (pc := 59) (tgt := 63) X d_M_apart_59 (by decide) ?_
          obtain ⟨h14, hw⟩ := hw
          refine x_iald (pc := 63) X 7 (atM_7 _ _ _) h14 d_M_apart_63 ?_
          refine x_iadd (pc := 64) X d_M_apart_64 ?_
          obtain ⟨h15, hw⟩ := hw
          refine x_iald (pc := 65) X 4 (atM_4 _ _ _) h15 d_M_apart_65 ?_
          refine x_goto (pc := 66) (tgt := 70) X d_M_apart_66 (by decide) ?_
          exact hR _ _ _ _ d_M_apart_70 (vp_nar_int _) hw
def rm_T_lengthBehind : Room := { frames := 2, cells := 0, slots := 0, locals := 43 }
set_option maxHeartbeats 4000000 in
set_option maxRecDepth 100000 in
theorem c_T_lengthBehind (l : Launch) (D : va_G) (cI : ClassId) (q : Nat → Nat) (σ : St) (x1 x2 : Int32) (post : Int32 → St → Prop) (hw : wp_T_lengthBehind x1 x2 σ post) : CI l D cI (wC cI q) y_T_lengthBehind b_T_lengthBehind 3 .int rm_T_lengthBehind [.ref (q 3), .int x1, .int x2] σ post := by
  refine CI_of (by decide) (Nat.le_of_ble_eq_true rfl) ?_
  intro Z hZl hZD hZI X hR
  subst hZl; subst hZD; subst hZI
  unfold wp_T_lengthBehind at hw
  show VV Z 0 0 (wC (zI Z) q σ) [(0, .ref (q 3)), (1, .int x1), (2, .int x2)] 0 []
  refine x_iload_n (pc := 0) X d_T_lengthBehind_0 1 rfl ?_
  refine x_iconst (pc := 1) (v := (-1)) X d_T_lengthBehind_1 (by decide) ?_
  refine x_icmp_eq (pc := 2) (tgt := 10) X d_T_lengthBehind_2 (by decide) (fun c => ?_) (fun c => ?_)
  · have hw := hw.1 c
    refine x_iconst (pc := 10) (v := 0) X d_T_lengthBehind_10 (by decide) ?_
    exact hR _ _ _ _ d_T_lengthBehind_11 (vp_nar_int _) hw
  · have hw := hw.2 c
    refine x_iload_n (pc := 5) X d_T_lengthBehind_5 2 rfl ?_
    refine x_iconst (pc := 6) (v := (-1)) X d_T_lengthBehind_6 (by decide) ?_
    refine x_icmp_ne (pc := 7) (tgt := 12) X d_T_lengthBehind_7 (by decide) (fun c => ?_) (fun c => ?_)
    · have hw := hw.1 c
      refine x_aload_n (pc := 12) X d_T_lengthBehind_12 0 rfl ?_
      refine x_get (pc := 13) X tb_T 3 11 (by decide) mw_54 (atC_3 _ _ _) rfl d_T_lengthBehind_13 ?_
      refine x_iload_n (pc := 16) X d_T_lengthBehind_16 1 rfl ?_
      refine x_iload_n (pc := 17) X d_T_lengthBehind_17 2 rfl ?_
      refine x_csi (pc := 18) X [.int x1, .int x2] (c_T_pair (zl Z) (zD Z) (zI Z) q σ x1 x2 _ hw) ms_T_pair mw_62 d_T_lengthBehind_18 rfl (Nat.le_of_ble_eq_true rfl) ⟨Nat.le_of_ble_eq_true rfl, Nat.le_of_ble_eq_true rfl⟩ ⟨rfl, rfl⟩ ⟨Nat.zero_le _, Nat.zero_le _⟩ ?_
      intro r1 σ1 hw
      obtain ⟨h2, hw⟩ := hw
      refine x_iald (pc := 21) X 11 (atC_11 _ _ _) h2 d_T_lengthBehind_21 ?_
      exact hR _ _ _ _ d_T_lengthBehind_22 (vp_nar_int _) hw
    · have hw := hw.2 c
      refine x_iconst (pc := 10) (v := 0) X d_T_lengthBehind_10 (by decide) ?_
      exact hR _ _ _ _ d_T_lengthBehind_11 (vp_nar_int _) hw
def rm_T_leastLetter : Room := { frames := 3, cells := 0, slots := 0, locals := 65 }
set_option maxHeartbeats 4000000 in
set_option maxRecDepth 100000 in
theorem wL_T_leastLetter_3 {Z : ZT} {q : Nat → Nat} {post : Int32 → St → Prop} (X : Cx Z "WayTable$Table" b_T_leastLetter rm_T_leastLetter 7) (hR : RI Z b_T_leastLetter .int (wC (zI Z) q) post) : ∀ (n : Nat) (x1 x2 x3 x4 : Int32) (σ : St), L_T_leastLetter_3 post n x1 x2 x3 x4 σ → VV Z 0 0 (wC (zI Z) q σ) [(0, .ref (q 3)), (1, .int x1), (2, .int x2), (3, .int x3), (4, .int x4)] 3 [] := by
  intro n
  induction n with
  | zero => intro x1 x2 x3 x4 σ hw; exact False.elim hw
  | succ n ih =>
    intro x1 x2 x3 x4 σ hw
    unfold L_T_leastLetter_3 at hw
    refine x_iload (pc := 3) X d_T_leastLetter_3 4 rfl ?_
    refine x_aload_n (pc := 5) X d_T_leastLetter_5 0 rfl ?_
    refine x_get (pc := 6) X tb_T 3 0 (by decide) mw_37 (atC_3 _ _ _) rfl d_T_leastLetter_6 ?_
    refine x_icmp_ge (pc := 9) (tgt := 66) X d_T_leastLetter_9 (by decide) (fun c => ?_) (fun c => ?_)
    · have hw := hw.1 c
      refine x_iconst (pc := 66) (v := (-1)) X d_T_leastLetter_66 (by decide) ?_
      exact hR _ _ _ _ d_T_leastLetter_67 (vp_nar_int _) hw
    · have hw := hw.2 c
      refine x_aload_n (pc := 12) X d_T_leastLetter_12 0 rfl ?_
      refine x_aload_n (pc := 13) X d_T_leastLetter_13 0 rfl ?_
      refine x_get (pc := 14) X tb_T 3 7 (by decide) mw_46 (atC_3 _ _ _) rfl d_T_leastLetter_14 ?_
      refine x_iload_n (pc := 17) X d_T_leastLetter_17 1 rfl ?_
      refine x_iload (pc := 18) X d_T_leastLetter_18 4 rfl ?_
      refine x_cvi (pc := 20) X [.ref (q 7), .int x1, .int x4] (c_T_leaderAfter_7 (zl Z) (zD Z) (zI Z) q σ x1 x4 _ hw) mv_T_leaderAfter tb_T 3 (atC_3 _ _ _) mw_51 d_T_leastLetter_20 rfl (Nat.le_of_ble_eq_true rfl) ⟨Nat.le_of_ble_eq_true rfl, Nat.le_of_ble_eq_true rfl⟩ ⟨rfl, rfl⟩ ⟨Nat.zero_le _, Nat.zero_le _⟩ ?_
      intro r1 σ1 hw
      refine x_istore (pc := 23) (lv' := [(0, .ref (q 3)), (1, .int x1), (2, .int x2), (3, .int x3), (4, .int x4), (5, .int r1)]) X d_T_leastLetter_23 (by decide) [1, 2, 3, 4, 5, 0] rfl ?_
      refine x_aload_n (pc := 25) X d_T_leastLetter_25 0 rfl ?_
      refine x_aload_n (pc := 26) X d_T_leastLetter_26 0 rfl ?_
      refine x_get (pc := 27) X tb_T 3 7 (by decide) mw_46 (atC_3 _ _ _) rfl d_T_leastLetter_27 ?_
      refine x_iload_n (pc := 30) X d_T_leastLetter_30 2 rfl ?_
      refine x_iload (pc := 31) X d_T_leastLetter_31 4 rfl ?_
      refine x_cvi (pc := 33) X [.ref (q 7), .int x2, .int x4] (c_T_leaderAfter_7 (zl Z) (zD Z) (zI Z) q σ1 x2 x4 _ hw) mv_T_leaderAfter tb_T 3 (atC_3 _ _ _) mw_51 d_T_leastLetter_33 rfl (Nat.le_of_ble_eq_true rfl) ⟨Nat.le_of_ble_eq_true rfl, Nat.le_of_ble_eq_true rfl⟩ ⟨rfl, rfl⟩ ⟨Nat.zero_le _, Nat.zero_le _⟩ ?_
      intro r2 σ2 hw
      refine x_istore (pc := 36) (lv' := [(0, .ref (q 3)), (1, .int x1), (2, .int x2), (3, .int x3), (4, .int x4), (5, .int r1), (6, .int r2)]) X d_T_leastLetter_36 (by decide) [1, 2, 3, 4, 5, 6, 0] rfl ?_
      refine x_iload (pc := 38) X d_T_leastLetter_38 5 rfl ?_
      refine x_iload (pc := 40) X d_T_leastLetter_40 6 rfl ?_
      refine x_icmp_eq (pc := 42) (tgt := 60) X d_T_leastLetter_42 (by decide) (fun c => ?_) (fun c => ?_)
      · have hw := hw.1 c
        refine x_iinc (pc := 60) (d := 1) (lv' := [(0, .ref (q 3)), (1, .int x1), (2, .int x2), (3, .int x3), (4, .int (x4 + 1)), (5, .int r1), (6, .int r2)]) X d_T_leastLetter_60 4 rfl (by decide) (by decide) [1, 2, 3, 4, 0, 5, 6] rfl ?_
        refine x_goto (pc := 63) (tgt := 3) X d_T_leastLetter_63 (by decide) ?_
        refine x_drop [0, 1, 2, 3, 4] rfl ?_
        exact ih x1 x2 x3 (x4 + 1) σ2 hw
      · have hw := hw.2 c
        refine x_aload_n (pc := 45) X d_T_leastLetter_45 0 rfl ?_
        refine x_iload (pc := 46) X d_T_leastLetter_46 5 rfl ?_
        refine x_iload (pc := 48) X d_T_leastLetter_48 6 rfl ?_
        refine x_cvi (pc := 50) X [.int r1, .int r2] (c_T_lengthBehind (zl Z) (zD Z) (zI Z) q σ2 r1 r2 _ hw) mv_T_lengthBehind tb_T 3 (atC_3 _ _ _) mw_102 d_T_leastLetter_50 rfl (Nat.le_of_ble_eq_true rfl) ⟨Nat.le_of_ble_eq_true rfl, Nat.le_of_ble_eq_true rfl⟩ ⟨rfl, rfl⟩ ⟨Nat.zero_le _, Nat.zero_le _⟩ ?_
        intro r3 σ3 hw
        refine x_iload_n (pc := 53) X d_T_leastLetter_53 3 rfl ?_
        refine x_icmp_ne (pc := 54) (tgt := 60) X d_T_leastLetter_54 (by decide) (fun c => ?_) (fun c => ?_)
        · have hw := hw.1 c
          refine x_iinc (pc := 60) (d := 1) (lv' := [(0, .ref (q 3)), (1, .int x1), (2, .int x2), (3, .int x3), (4, .int (x4 + 1)), (5, .int r1), (6, .int r2)]) X d_T_leastLetter_60 4 rfl (by decide) (by decide) [1, 2, 3, 4, 0, 5, 6] rfl ?_
          refine x_goto (pc := 63) (tgt := 3) X d_T_leastLetter_63 (by decide) ?_
          refine x_drop [0, 1, 2, 3, 4] rfl ?_
          exact ih x1 x2 x3 (x4 + 1) σ3 hw
        · have hw := hw.2 c
          refine x_iload (pc := 57) X d_T_leastLetter_57 4 rfl ?_
          exact hR _ _ _ _ d_T_leastLetter_59 (vp_nar_int _) hw
set_option maxHeartbeats 4000000 in
set_option maxRecDepth 100000 in
theorem c_T_leastLetter (l : Launch) (D : va_G) (cI : ClassId) (q : Nat → Nat) (σ : St) (x1 x2 x3 : Int32) (post : Int32 → St → Prop) (hw : wp_T_leastLetter x1 x2 x3 σ post) : CI l D cI (wC cI q) y_T_leastLetter b_T_leastLetter 7 .int rm_T_leastLetter [.ref (q 3), .int x1, .int x2, .int x3] σ post := by
  refine CI_of (by decide) (Nat.le_of_ble_eq_true rfl) ?_
  intro Z hZl hZD hZI X hR
  subst hZl; subst hZD; subst hZI
  unfold wp_T_leastLetter at hw
  show VV Z 0 0 (wC (zI Z) q σ) [(0, .ref (q 3)), (1, .int x1), (2, .int x2), (3, .int x3)] 0 []
  refine x_iconst (pc := 0) (v := 0) X d_T_leastLetter_0 (by decide) ?_
  refine x_istore (pc := 1) (lv' := [(0, .ref (q 3)), (1, .int x1), (2, .int x2), (3, .int x3), (4, .int 0)]) X d_T_leastLetter_1 (by decide) [1, 2, 3, 4, 0] rfl ?_
  obtain ⟨n2, hw⟩ := hw
  exact wL_T_leastLetter_3 X hR n2 x1 x2 x3 0 σ hw
end
section
def rm_T_rowLetter : Room := { frames := 4, cells := 0, slots := 0, locals := 91 }
set_option maxHeartbeats 4000000 in
set_option maxRecDepth 100000 in
theorem wL_T_rowLetter_41 {Z : ZT} {q : Nat → Nat} {post : Int32 → St → Prop} (X : Cx Z "WayTable$Table" b_T_rowLetter rm_T_rowLetter 9) (hR : RI Z b_T_rowLetter .int (wC (zI Z) q) post) : ∀ (n : Nat) (x1 x2 x3 x4 x5 x6 x7 x8 : Int32) (σ : St), L_T_rowLetter_41 post n x1 x2 x3 x4 x5 x6 x7 x8 σ → VV Z 0 0 (wC (zI Z) q σ) [(0, .ref (q 3)), (1, .int x1), (2, .int x2), (3, .int x3), (4, .int x4), (5, .int x5), (6, .int x6), (7, .int x7), (8, .int x8)] 41 [] := by
  intro n
  induction n with
  | zero => intro x1 x2 x3 x4 x5 x6 x7 x8 σ hw; exact False.elim hw
  | succ n ih =>
    intro x1 x2 x3 x4 x5 x6 x7 x8 σ hw
    unfold L_T_rowLetter_41 at hw
    refine x_iload (pc := 41) X d_T_rowLetter_41 8 rfl ?_
    refine x_iload_n (pc := 43) X d_T_rowLetter_43 3 rfl ?_
    refine x_icmp_ge (pc := 44) (tgt := 116) X d_T_rowLetter_44 (by decide) (fun c => ?_) (fun c => ?_)
    · have hw := hw.1 c
      refine x_iload (pc := 116) X d_T_rowLetter_116 7 rfl ?_
      exact hR _ _ _ _ d_T_rowLetter_118 (vp_nar_int _) hw
    · have hw := hw.2 c
      refine x_iload (pc := 47) X d_T_rowLetter_47 7 rfl ?_
      refine x_iconst (pc := 49) (v := (-1)) X d_T_rowLetter_49 (by decide) ?_
      refine x_icmp_eq (pc := 50) (tgt := 116) X d_T_rowLetter_50 (by decide) (fun c => ?_) (fun c => ?_)
      · have hw := hw.1 c
        refine x_iload (pc := 116) X d_T_rowLetter_116 7 rfl ?_
        exact hR _ _ _ _ d_T_rowLetter_118 (vp_nar_int _) hw
      · have hw := hw.2 c
        refine x_aload_n (pc := 53) X d_T_rowLetter_53 0 rfl ?_
        refine x_aload_n (pc := 54) X d_T_rowLetter_54 0 rfl ?_
        refine x_get (pc := 55) X tb_T 3 7 (by decide) mw_46 (atC_3 _ _ _) rfl d_T_rowLetter_55 ?_
        refine x_iload (pc := 58) X d_T_rowLetter_58 4 rfl ?_
        refine x_iload (pc := 60) X d_T_rowLetter_60 7 rfl ?_
        refine x_cvi (pc := 62) X [.ref (q 7), .int x4, .int x7] (c_T_leaderAfter_7 (zl Z) (zD Z) (zI Z) q σ x4 x7 _ hw) mv_T_leaderAfter tb_T 3 (atC_3 _ _ _) mw_51 d_T_rowLetter_62 rfl (Nat.le_of_ble_eq_true rfl) ⟨Nat.le_of_ble_eq_true rfl, Nat.le_of_ble_eq_true rfl⟩ ⟨rfl, rfl⟩ ⟨Nat.zero_le _, Nat.zero_le _⟩ ?_
        intro r5 σ5 hw
        refine x_istore (pc := 65) (lv' := [(0, .ref (q 3)), (1, .int x1), (2, .int x2), (3, .int x3), (4, .int r5), (5, .int x5), (6, .int x6), (7, .int x7), (8, .int x8)]) X d_T_rowLetter_65 (by decide) [1, 2, 3, 4, 0, 5, 6, 7, 8] rfl ?_
        refine x_aload_n (pc := 67) X d_T_rowLetter_67 0 rfl ?_
        refine x_aload_n (pc := 68) X d_T_rowLetter_68 0 rfl ?_
        refine x_get (pc := 69) X tb_T 3 7 (by decide) mw_46 (atC_3 _ _ _) rfl d_T_rowLetter_69 ?_
        refine x_iload (pc := 72) X d_T_rowLetter_72 5 rfl ?_
        refine x_iload (pc := 74) X d_T_rowLetter_74 7 rfl ?_
        refine x_cvi (pc := 76) X [.ref (q 7), .int x5, .int x7] (c_T_leaderAfter_7 (zl Z) (zD Z) (zI Z) q σ5 x5 x7 _ hw) mv_T_leaderAfter tb_T 3 (atC_3 _ _ _) mw_51 d_T_rowLetter_76 rfl (Nat.le_of_ble_eq_true rfl) ⟨Nat.le_of_ble_eq_true rfl, Nat.le_of_ble_eq_true rfl⟩ ⟨rfl, rfl⟩ ⟨Nat.zero_le _, Nat.zero_le _⟩ ?_
        intro r6 σ6 hw
        refine x_istore (pc := 79) (lv' := [(0, .ref (q 3)), (1, .int x1), (2, .int x2), (3, .int x3), (4, .int r5), (5, .int r6), (6, .int x6), (7, .int x7), (8, .int x8)]) X d_T_rowLetter_79 (by decide) [1, 2, 3, 4, 5, 0, 6, 7, 8] rfl ?_
        refine x_iload (pc := 81) X d_T_rowLetter_81 4 rfl ?_
        refine x_iconst (pc := 83) (v := (-1)) X d_T_rowLetter_83 (by decide) ?_
        refine x_icmp_eq (pc := 84) (tgt := 93) X d_T_rowLetter_84 (by decide) (fun c => ?_) (fun c => ?_)
        · have hw := hw.1 c
          refine x_iconst (pc := 93) (v := (-1)) X d_T_rowLetter_93 (by decide) ?_
          exact hR _ _ _ _ d_T_rowLetter_94 (vp_nar_int _) hw
        · have hw := hw.2 c
          refine x_iload (pc := 87) X d_T_rowLetter_87 5 rfl ?_
          refine x_iconst (pc := 89) (v := (-1)) X d_T_rowLetter_89 (by decide) ?_
          refine x_icmp_ne (pc := 90) (tgt := 95) X d_T_rowLetter_90 (by decide) (fun c => ?_) (fun c => ?_)
          · have hw := hw.1 c
            refine x_iinc (pc := 95) (d := (-1)) (lv' := [(0, .ref (q 3)), (1, .int x1), (2, .int x2), (3, .int x3), (4, .int r5), (5, .int r6), (6, .int (x6 + (-1))), (7, .int x7), (8, .int x8)]) X d_T_rowLetter_95 6 rfl (by decide) (by decide) [1, 2, 3, 4, 5, 6, 0, 7, 8] rfl ?_
            refine x_aload_n (pc := 98) X d_T_rowLetter_98 0 rfl ?_
            refine x_iload (pc := 99) X d_T_rowLetter_99 4 rfl ?_
            refine x_iload (pc := 101) X d_T_rowLetter_101 5 rfl ?_
            refine x_iload (pc := 103) X d_T_rowLetter_103 6 rfl ?_
            refine x_cvi (pc := 105) X [.int r5, .int r6, .int (x6 + (-1))] (c_T_leastLetter (zl Z) (zD Z) (zI Z) q σ6 r5 r6 (x6 + (-1)) _ hw) mv_T_leastLetter tb_T 3 (atC_3 _ _ _) mw_103 d_T_rowLetter_105 rfl (Nat.le_of_ble_eq_true rfl) ⟨Nat.le_of_ble_eq_true rfl, Nat.le_of_ble_eq_true rfl⟩ ⟨rfl, rfl⟩ ⟨Nat.zero_le _, Nat.zero_le _⟩ ?_
            intro r7 σ7 hw
            refine x_istore (pc := 108) (lv' := [(0, .ref (q 3)), (1, .int x1), (2, .int x2), (3, .int x3), (4, .int r5), (5, .int r6), (6, .int (x6 + (-1))), (7, .int r7), (8, .int x8)]) X d_T_rowLetter_108 (by decide) [1, 2, 3, 4, 5, 6, 7, 0, 8] rfl ?_
            refine x_iinc (pc := 110) (d := 1) (lv' := [(0, .ref (q 3)), (1, .int x1), (2, .int x2), (3, .int x3), (4, .int r5), (5, .int r6), (6, .int (x6 + (-1))), (7, .int r7), (8, .int (x8 + 1))]) X d_T_rowLetter_110 8 rfl (by decide) (by decide) [1, 2, 3, 4, 5, 6, 7, 8, 0] rfl ?_
            refine x_goto (pc := 113) (tgt := 41) X d_T_rowLetter_113 (by decide) ?_
            exact ih x1 x2 x3 r5 r6 (x6 + (-1)) r7 (x8 + 1) σ7 hw
          · have hw := hw.2 c
            refine x_iconst (pc := 93) (v := (-1)) X d_T_rowLetter_93 (by decide) ?_
            exact hR _ _ _ _ d_T_rowLetter_94 (vp_nar_int _) hw
set_option maxHeartbeats 4000000 in
set_option maxRecDepth 100000 in
theorem c_T_rowLetter (l : Launch) (D : va_G) (cI : ClassId) (q : Nat → Nat) (σ : St) (x1 x2 x3 : Int32) (post : Int32 → St → Prop) (hw : wp_T_rowLetter x1 x2 x3 σ post) : CI l D cI (wC cI q) y_T_rowLetter b_T_rowLetter 9 .int rm_T_rowLetter [.ref (q 3), .int x1, .int x2, .int x3] σ post := by
  refine CI_of (by decide) (Nat.le_of_ble_eq_true rfl) ?_
  intro Z hZl hZD hZI X hR
  subst hZl; subst hZD; subst hZI
  unfold wp_T_rowLetter at hw
  show VV Z 0 0 (wC (zI Z) q σ) [(0, .ref (q 3)), (1, .int x1), (2, .int x2), (3, .int x3)] 0 []
  refine x_aload_n (pc := 0) X d_T_rowLetter_0 0 rfl ?_
  refine x_get (pc := 1) X tb_T 3 10 (by decide) mw_68 (atC_3 _ _ _) rfl d_T_rowLetter_1 ?_
  refine x_iload_n (pc := 4) X d_T_rowLetter_4 1 rfl ?_
  obtain ⟨h1, hw⟩ := hw
  refine x_iald (pc := 5) X 10 (atC_10 _ _ _) h1 d_T_rowLetter_5 ?_
  refine x_istore (pc := 6) (lv' := [(0, .ref (q 3)), (1, .int x1), (2, .int x2), (3, .int x3), (4, .int (σ.2 7 x1.toNatClampNeg))]) X d_T_rowLetter_6 (by decide) [1, 2, 3, 4, 0] rfl ?_
  refine x_aload_n (pc := 8) X d_T_rowLetter_8 0 rfl ?_
  refine x_get (pc := 9) X tb_T 3 10 (by decide) mw_68 (atC_3 _ _ _) rfl d_T_rowLetter_9 ?_
  refine x_iload_n (pc := 12) X d_T_rowLetter_12 2 rfl ?_
  obtain ⟨h2, hw⟩ := hw
  refine x_iald (pc := 13) X 10 (atC_10 _ _ _) h2 d_T_rowLetter_13 ?_
  refine x_istore (pc := 14) (lv' := [(0, .ref (q 3)), (1, .int x1), (2, .int x2), (3, .int x3), (4, .int (σ.2 7 x1.toNatClampNeg)), (5, .int (σ.2 7 x2.toNatClampNeg))]) X d_T_rowLetter_14 (by decide) [1, 2, 3, 4, 5, 0] rfl ?_
  refine x_aload_n (pc := 16) X d_T_rowLetter_16 0 rfl ?_
  refine x_iload_n (pc := 17) X d_T_rowLetter_17 1 rfl ?_
  refine x_iload_n (pc := 18) X d_T_rowLetter_18 2 rfl ?_
  refine x_cvi (pc := 19) X [.int x1, .int x2] (c_T_rowLength (zl Z) (zD Z) (zI Z) q σ x1 x2 _ hw) mv_T_rowLength tb_T 3 (atC_3 _ _ _) mw_101 d_T_rowLetter_19 rfl (Nat.le_of_ble_eq_true rfl) ⟨Nat.le_of_ble_eq_true rfl, Nat.le_of_ble_eq_true rfl⟩ ⟨rfl, rfl⟩ ⟨Nat.zero_le _, Nat.zero_le _⟩ ?_
  intro r3 σ3 hw
  refine x_iconst (pc := 22) (v := 1) X d_T_rowLetter_22 (by decide) ?_
  refine x_isub (pc := 23) X d_T_rowLetter_23 ?_
  refine x_istore (pc := 24) (lv' := [(0, .ref (q 3)), (1, .int x1), (2, .int x2), (3, .int x3), (4, .int (σ.2 7 x1.toNatClampNeg)), (5, .int (σ.2 7 x2.toNatClampNeg)), (6, .int (r3 - 1))]) X d_T_rowLetter_24 (by decide) [1, 2, 3, 4, 5, 6, 0] rfl ?_
  refine x_aload_n (pc := 26) X d_T_rowLetter_26 0 rfl ?_
  refine x_iload (pc := 27) X d_T_rowLetter_27 4 rfl ?_
  refine x_iload (pc := 29) X d_T_rowLetter_29 5 rfl ?_
  refine x_iload (pc := 31) X d_T_rowLetter_31 6 rfl ?_
  refine x_cvi (pc := 33) X [.int (σ.2 7 x1.toNatClampNeg), .int (σ.2 7 x2.toNatClampNeg), .int (r3 - 1)] (c_T_leastLetter (zl Z) (zD Z) (zI Z) q σ3 (σ.2 7 x1.toNatClampNeg) (σ.2 7 x2.toNatClampNeg) (r3 - 1) _ hw) mv_T_leastLetter tb_T 3 (atC_3 _ _ _) mw_103 d_T_rowLetter_33 rfl (Nat.le_of_ble_eq_true rfl) ⟨Nat.le_of_ble_eq_true rfl, Nat.le_of_ble_eq_true rfl⟩ ⟨rfl, rfl⟩ ⟨Nat.zero_le _, Nat.zero_le _⟩ ?_
  intro r4 σ4 hw
  refine x_istore (pc := 36) (lv' := [(0, .ref (q 3)), (1, .int x1), (2, .int x2), (3, .int x3), (4, .int (σ.2 7 x1.toNatClampNeg)), (5, .int (σ.2 7 x2.toNatClampNeg)), (6, .int (r3 - 1)), (7, .int r4)]) X d_T_rowLetter_36 (by decide) [1, 2, 3, 4, 5, 6, 7, 0] rfl ?_
  refine x_iconst (pc := 38) (v := 0) X d_T_rowLetter_38 (by decide) ?_
  refine x_istore (pc := 39) (lv' := [(0, .ref (q 3)), (1, .int x1), (2, .int x2), (3, .int x3), (4, .int (σ.2 7 x1.toNatClampNeg)), (5, .int (σ.2 7 x2.toNatClampNeg)), (6, .int (r3 - 1)), (7, .int r4), (8, .int 0)]) X d_T_rowLetter_39 (by decide) [1, 2, 3, 4, 5, 6, 7, 8, 0] rfl ?_
  obtain ⟨n2, hw⟩ := hw
  exact wL_T_rowLetter_41 X hR n2 x1 x2 x3 (σ.2 7 x1.toNatClampNeg) (σ.2 7 x2.toNatClampNeg) (r3 - 1) r4 0 σ4 hw
def rm_W_apartBy : Room := { frames := 5, cells := 0, slots := 0, locals := 119 }
set_option maxHeartbeats 4000000 in
set_option maxRecDepth 100000 in
theorem c_W_apartBy (l : Launch) (D : va_G) (cI : ClassId) (q : Nat → Nat) (σ : St) (x1 x2 x3 : Int32) (post : Int32 → St → Prop) (hw : wp_W_apartBy x1 x2 x3 σ post) : CI l D cI (wC cI q) y_W_apartBy b_W_apartBy 4 .int rm_W_apartBy [.ref (q 0), .int x1, .int x2, .int x3] σ post := by
  refine CI_of (by decide) (Nat.le_of_ble_eq_true rfl) ?_
  intro Z hZl hZD hZI X hR
  subst hZl; subst hZD; subst hZI
  unfold wp_W_apartBy at hw
  show VV Z 0 0 (wC (zI Z) q σ) [(0, .ref (q 0)), (1, .int x1), (2, .int x2), (3, .int x3)] 0 []
  refine x_iload_n (pc := 0) X d_W_apartBy_0 3 rfl ?_
  refine x_if_lt (pc := 1) (tgt := 14) X d_W_apartBy_1 (by decide) (fun c => ?_) (fun c => ?_)
  · have hw := hw.1 c
    refine x_iconst (pc := 14) (v := (-1)) X d_W_apartBy_14 (by decide) ?_
    exact hR _ _ _ _ d_W_apartBy_15 (vp_nar_int _) hw
  · have hw := hw.2 c
    refine x_iload_n (pc := 4) X d_W_apartBy_4 3 rfl ?_
    refine x_aload_n (pc := 5) X d_W_apartBy_5 0 rfl ?_
    refine x_iload_n (pc := 6) X d_W_apartBy_6 1 rfl ?_
    refine x_iload_n (pc := 7) X d_W_apartBy_7 2 rfl ?_
    refine x_cvi (pc := 8) X [.int x1, .int x2] (c_W_apart (zl Z) (zD Z) (zI Z) q σ x1 x2 _ hw) mv_W_apart tb_W 0 (atC_0 _ _ _) mw_100 d_W_apartBy_8 rfl (Nat.le_of_ble_eq_true rfl) ⟨Nat.le_of_ble_eq_true rfl, Nat.le_of_ble_eq_true rfl⟩ ⟨rfl, rfl⟩ ⟨Nat.zero_le _, Nat.zero_le _⟩ ?_
    intro r1 σ1 hw
    refine x_icmp_lt (pc := 11) (tgt := 16) X d_W_apartBy_11 (by decide) (fun c => ?_) (fun c => ?_)
    · have hw := hw.1 c
      refine x_aload_n (pc := 16) X d_W_apartBy_16 0 rfl ?_
      refine x_get (pc := 17) X tb_W 0 1 (by decide) mw_30 (atC_0 _ _ _) rfl d_W_apartBy_17 ?_
      refine x_iload_n (pc := 20) X d_W_apartBy_20 1 rfl ?_
      refine x_iload_n (pc := 21) X d_W_apartBy_21 2 rfl ?_
      refine x_iload_n (pc := 22) X d_W_apartBy_22 3 rfl ?_
      refine x_cni (pc := 23) X [.int x1, .int x2, .int x3] (c_T_rowLetter (zl Z) (zD Z) (zI Z) q σ1 x1 x2 x3 _ hw) mv_T_rowLetter tb_T 3 (atC_3 _ _ _) nw_104 d_W_apartBy_23 rfl (Nat.le_of_ble_eq_true rfl) ⟨Nat.le_of_ble_eq_true rfl, Nat.le_of_ble_eq_true rfl⟩ ⟨rfl, rfl⟩ ⟨Nat.zero_le _, Nat.zero_le _⟩ ?_
      intro r2 σ2 hw
      exact hR _ _ _ _ d_W_apartBy_26 (vp_nar_int _) hw
    · have hw := hw.2 c
      refine x_iconst (pc := 14) (v := (-1)) X d_W_apartBy_14 (by decide) ?_
      exact hR _ _ _ _ d_W_apartBy_15 (vp_nar_int _) hw
def rm_M_apartBy : Room := { frames := 1, cells := 0, slots := 0, locals := 21 }
set_option maxHeartbeats 4000000 in
set_option maxRecDepth 100000 in
theorem wL_M_apartBy_71 {Z : ZT} {q : Nat → Nat} {post : Int32 → St → Prop} (X : Cx Z "WayTableModel" b_M_apartBy rm_M_apartBy 8) (hR : RI Z b_M_apartBy .int (wM (zI Z) q) post) : ∀ (n : Nat) (x1 x2 x3 x4 x5 x6 : Int32) (σ : St), L_M_apartBy_71 post n x1 x2 x3 x4 x5 x6 σ → VV Z 0 0 (wM (zI Z) q σ) [(0, .ref (q 0)), (1, .int x1), (2, .int x2), (3, .int x3), (4, .int x4), (5, .int x5), (6, .int x6)] 71 [] := by
  intro n
  induction n with
  | zero => intro x1 x2 x3 x4 x5 x6 σ hw; exact False.elim hw
  | succ n ih =>
    intro x1 x2 x3 x4 x5 x6 σ hw
    unfold L_M_apartBy_71 at hw
    refine x_iload (pc := 71) X d_M_apartBy_71 6 rfl ?_
    refine x_iload_n (pc := 73) X d_M_apartBy_73 3 rfl ?_
    refine x_icmp_ge (pc := 74) (tgt := 128) X d_M_apartBy_74 (by decide) (fun c => ?_) (fun c => ?_)
    · have hw := hw.1 c
      refine x_aload_n (pc := 128) X d_M_apartBy_128 0 rfl ?_
      refine x_get (pc := 129) X tb_M 0 10 (by decide) mw_81 (atM_0 _ _ _) rfl d_M_apartBy_129 ?_
      refine x_bipush (pc := 132) (v := (nI 120)) X d_M_apartBy_132 (by decide) ?_
      refine x_iload (pc := 134) X d_M_apartBy_134 4 rfl ?_
      refine x_imul (pc := 136) X d_M_apartBy_136 ?_
      refine x_iload (pc := 137) X d_M_apartBy_137 5 rfl ?_
      refine x_iadd (pc := 139) X d_M_apartBy_139 ?_
      obtain ⟨h8, hw⟩ := hw
      refine x_iald (pc := 140) X 5 (atM_5 _ _ _) h8 d_M_apartBy_140 ?_
      exact hR _ _ _ _ d_M_apartBy_141 (vp_nar_int _) hw
    · have hw := hw.2 c
      refine x_aload_n (pc := 77) X d_M_apartBy_77 0 rfl ?_
      refine x_get (pc := 78) X tb_M 0 10 (by decide) mw_81 (atM_0 _ _ _) rfl d_M_apartBy_78 ?_
      refine x_bipush (pc := 81) (v := (nI 120)) X d_M_apartBy_81 (by decide) ?_
      refine x_iload (pc := 83) X d_M_apartBy_83 4 rfl ?_
      refine x_imul (pc := 85) X d_M_apartBy_85 ?_
      refine x_iload (pc := 86) X d_M_apartBy_86 5 rfl ?_
      refine x_iadd (pc := 88) X d_M_apartBy_88 ?_
      obtain ⟨h9, hw⟩ := hw
      refine x_iald (pc := 89) X 5 (atM_5 _ _ _) h9 d_M_apartBy_89 ?_
      refine x_istore (pc := 90) (lv' := [(0, .ref (q 0)), (1, .int x1), (2, .int x2), (3, .int x3), (4, .int x4), (5, .int x5), (6, .int x6), (7, .int (σ.2 4 (((nI 120) * x4) + x5).toNatClampNeg))]) X d_M_apartBy_90 (by decide) [1, 2, 3, 4, 5, 6, 7, 0] rfl ?_
      refine x_aload_n (pc := 92) X d_M_apartBy_92 0 rfl ?_
      refine x_get (pc := 93) X tb_M 0 8 (by decide) mw_82 (atM_0 _ _ _) rfl d_M_apartBy_93 ?_
      refine x_bipush (pc := 96) (v := (nI 40)) X d_M_apartBy_96 (by decide) ?_
      refine x_iload (pc := 98) X d_M_apartBy_98 4 rfl ?_
      refine x_imul (pc := 100) X d_M_apartBy_100 ?_
      refine x_iload (pc := 101) X d_M_apartBy_101 7 rfl ?_
      refine x_iadd (pc := 103) X d_M_apartBy_103 ?_
      obtain ⟨h10, hw⟩ := hw
      refine x_iald (pc := 104) X 3 (atM_3 _ _ _) h10 d_M_apartBy_104 ?_
      refine x_istore (pc := 105) (lv' := [(0, .ref (q 0)), (1, .int x1), (2, .int x2), (3, .int x3), (4, .int (σ.2 2 (((nI 40) * x4) + (σ.2 4 (((nI 120) * x4) + x5).toNatClampNeg)).toNatClampNeg)), (5, .int x5), (6, .int x6), (7, .int (σ.2 4 (((nI 120) * x4) + x5).toNatClampNeg))]) X d_M_apartBy_105 (by decide) [1, 2, 3, 4, 0, 5, 6, 7] rfl ?_
      refine x_aload_n (pc := 107) X d_M_apartBy_107 0 rfl ?_
      refine x_get (pc := 108) X tb_M 0 8 (by decide) mw_82 (atM_0 _ _ _) rfl d_M_apartBy_108 ?_
      refine x_bipush (pc := 111) (v := (nI 40)) X d_M_apartBy_111 (by decide) ?_
      refine x_iload (pc := 113) X d_M_apartBy_113 5 rfl ?_
      refine x_imul (pc := 115) X d_M_apartBy_115 ?_
      refine x_iload (pc := 116) X d_M_apartBy_116 7 rfl ?_
      refine x_iadd (pc := 118) X d_M_apartBy_118 ?_
      obtain ⟨h11, hw⟩ := hw
      refine x_iald (pc := 119) X 3 (atM_3 _ _ _) h11 d_M_apartBy_119 ?_
      refine x_istore (pc := 120) (lv' := [(0, .ref (q 0)), (1, .int x1), (2, .int x2), (3, .int x3), (4, .int (σ.2 2 (((nI 40) * x4) + (σ.2 4 (((nI 120) * x4) + x5).toNatClampNeg)).toNatClampNeg)), (5, .int (σ.2 2 (((nI 40) * x5) + (σ.2 4 (((nI 120) * x4) + x5).toNatClampNeg)).toNatClampNeg)), (6, .int x6), (7, .int (σ.2 4 (((nI 120) * x4) + x5).toNatClampNeg))]) X d_M_apartBy_120 (by decide) [1, 2, 3, 4, 5, 0, 6, 7] rfl ?_
      refine x_iinc (pc := 122) (d := 1) (lv' := [(0, .ref (q 0)), (1, .int x1), (2, .int x2), (3, .int x3), (4, .int (σ.2 2 (((nI 40) * x4) + (σ.2 4 (((nI 120) * x4) + x5).toNatClampNeg)).toNatClampNeg)), (5, .int (σ.2 2 (((nI 40) * x5) + (σ.2 4 (((nI 120) * x4) + x5).toNatClampNeg)).toNatClampNeg)), (6, .int (x6 + 1)), (7, .int (σ.2 4 (((nI 120) * x4) + x5).toNatClampNeg))]) X d_M_apartBy_122 6 rfl (by decide) (by decide) [1, 2, 3, 4, 5, 6, 0, 7] rfl ?_
      refine x_goto (pc := 125) (tgt := 71) X d_M_apartBy_125 (by decide) ?_
      refine x_drop [0, 1, 2, 3, 4, 5, 6] rfl ?_
      exact ih x1 x2 x3 (σ.2 2 (((nI 40) * x4) + (σ.2 4 (((nI 120) * x4) + x5).toNatClampNeg)).toNatClampNeg) (σ.2 2 (((nI 40) * x5) + (σ.2 4 (((nI 120) * x4) + x5).toNatClampNeg)).toNatClampNeg) (x6 + 1) σ hw
set_option maxHeartbeats 4000000 in
set_option maxRecDepth 100000 in
theorem c_M_apartBy (l : Launch) (D : va_G) (cI : ClassId) (q : Nat → Nat) (σ : St) (x1 x2 x3 : Int32) (post : Int32 → St → Prop) (hw : wp_M_apartBy x1 x2 x3 σ post) : CI l D cI (wM cI q) y_M_apartBy b_M_apartBy 8 .int rm_M_apartBy [.ref (q 0), .int x1, .int x2, .int x3] σ post := by
  refine CI_of (by decide) (Nat.le_of_ble_eq_true rfl) ?_
  intro Z hZl hZD hZI X hR
  subst hZl; subst hZD; subst hZI
  unfold wp_M_apartBy at hw
  show VV Z 0 0 (wM (zI Z) q σ) [(0, .ref (q 0)), (1, .int x1), (2, .int x2), (3, .int x3)] 0 []
  refine x_aload_n (pc := 0) X d_M_apartBy_0 0 rfl ?_
  refine x_iconst (pc := 1) (v := 0) X d_M_apartBy_1 (by decide) ?_
  refine x_put (pc := 2) (ws' := (wM (zI Z) q (us σ 0 0))) X tb_M 0 0 (by decide) mw_7 (atM_0 _ _ _) rfl pI (Nat.le_of_ble_eq_true rfl) (ptM_0 _ _ _ _) d_M_apartBy_2 ?_
  refine x_aload_n (pc := 5) X d_M_apartBy_5 0 rfl ?_
  refine x_iload_n (pc := 6) X d_M_apartBy_6 1 rfl ?_
  refine x_cvi (pc := 7) X [.int x1] (c_M_isState (zl Z) (zD Z) (zI Z) q (us σ 0 0) x1 _ hw) mv_M_isState tb_M 0 (atM_0 _ _ _) mw_95 d_M_apartBy_7 rfl (Nat.le_of_ble_eq_true rfl) ⟨Nat.le_of_ble_eq_true rfl, Nat.le_of_ble_eq_true rfl⟩ ⟨rfl, rfl⟩ ⟨Nat.zero_le _, Nat.zero_le _⟩ ?_
  intro r1 σ1 hw
  refine x_if_eq (pc := 10) (tgt := 50) X d_M_apartBy_10 (by decide) (fun c => ?_) (fun c => ?_)
  · have hw := hw.1 c
    refine x_iconst (pc := 50) (v := (-1)) X d_M_apartBy_50 (by decide) ?_
    exact hR _ _ _ _ d_M_apartBy_51 (vp_nar_int _) hw
  · have hw := hw.2 c
    refine x_aload_n (pc := 13) X d_M_apartBy_13 0 rfl ?_
    refine x_iload_n (pc := 14) X d_M_apartBy_14 2 rfl ?_
    refine x_cvi (pc := 15) X [.int x2] (c_M_isState (zl Z) (zD Z) (zI Z) q σ1 x2 _ hw) mv_M_isState tb_M 0 (atM_0 _ _ _) mw_95 d_M_apartBy_15 rfl (Nat.le_of_ble_eq_true rfl) ⟨Nat.le_of_ble_eq_true rfl, Nat.le_of_ble_eq_true rfl⟩ ⟨rfl, rfl⟩ ⟨Nat.zero_le _, Nat.zero_le _⟩ ?_
    intro r2 σ2 hw
    refine x_if_eq (pc := 18) (tgt := 50) X d_M_apartBy_18 (by decide) (fun c => ?_) (fun c => ?_)
    · have hw := hw.1 c
      refine x_iconst (pc := 50) (v := (-1)) X d_M_apartBy_50 (by decide) ?_
      exact hR _ _ _ _ d_M_apartBy_51 (vp_nar_int _) hw
    · have hw := hw.2 c
      refine x_iload_n (pc := 21) X d_M_apartBy_21 3 rfl ?_
      refine x_if_lt (pc := 22) (tgt := 50) X d_M_apartBy_22 (by decide) (fun c => ?_) (fun c => ?_)
      · have hw := hw.1 c
        refine x_iconst (pc := 50) (v := (-1)) X d_M_apartBy_50 (by decide) ?_
        exact hR _ _ _ _ d_M_apartBy_51 (vp_nar_int _) hw
      · have hw := hw.2 c
        refine x_iload_n (pc := 25) X d_M_apartBy_25 3 rfl ?_
        refine x_aload_n (pc := 26) X d_M_apartBy_26 0 rfl ?_
        refine x_get (pc := 27) X tb_M 0 9 (by decide) mw_80 (atM_0 _ _ _) rfl d_M_apartBy_27 ?_
        refine x_bipush (pc := 30) (v := (nI 120)) X d_M_apartBy_30 (by decide) ?_
        refine x_aload_n (pc := 32) X d_M_apartBy_32 0 rfl ?_
        refine x_get (pc := 33) X tb_M 0 12 (by decide) mw_85 (atM_0 _ _ _) rfl d_M_apartBy_33 ?_
        refine x_iload_n (pc := 36) X d_M_apartBy_36 1 rfl ?_
        obtain ⟨h3, hw⟩ := hw
        refine x_iald (pc := 37) X 7 (atM_7 _ _ _) h3 d_M_apartBy_37 ?_
        refine x_imul (pc := 38) X d_M_apartBy_38 ?_
        refine x_aload_n (pc := 39) X d_M_apartBy_39 0 rfl ?_
        refine x_get (pc := 40) X tb_M 0 12 (by decide) mw_85 (atM_0 _ _ _) rfl d_M_apartBy_40 ?_
        refine x_iload_n (pc := 43) X d_M_apartBy_43 2 rfl ?_
        obtain ⟨h4, hw⟩ := hw
        refine x_iald (pc := 44) X 7 (atM_7 _ _ _) h4 d_M_apartBy_44 ?_
        refine x_iadd (pc := 45) X d_M_apartBy_45 ?_
        obtain ⟨h5, hw⟩ := hw
        refine x_iald (pc := 46) X 4 (atM_4 _ _ _) h5 d_M_apartBy_46 ?_
        refine x_icmp_lt (pc := 47) (tgt := 52) X d_M_apartBy_47 (by decide) (fun c => ?_) (fun c => ?_)
        · have hw := hw.1 c
          refine x_aload_n (pc := 52) X d_M_apartBy_52 0 rfl ?_
          refine x_get (pc := 53) X tb_M 0 12 (by decide) mw_85 (atM_0 _ _ _) rfl d_M_apartBy_53 ?_
          refine x_iload_n (pc := 56) X d_M_apartBy_56 1 rfl ?_
          obtain ⟨h6, hw⟩ := hw
          refine x_iald (pc := 57) X 7 (atM_7 _ _ _) h6 d_M_apartBy_57 ?_
          refine x_istore (pc := 58) (lv' := [(0, .ref (q 0)), (1, .int x1), (2, .int x2), (3, .int x3), (4, .int (σ2.2 6 x1.toNatClampNeg))]) X d_M_apartBy_58 (by decide) [1, 2, 3, 4, 0] rfl ?_
          refine x_aload_n (pc := 60) X d_M_apartBy_60 0 rfl ?_
          refine x_get (pc := 61) X tb_M 0 12 (by decide) mw_85 (atM_0 _ _ _) rfl d_M_apartBy_61 ?_
          refine x_iload_n (pc := 64) X d_M_apartBy_64 2 rfl ?_
          obtain ⟨h7, hw⟩ := hw
          refine x_iald (pc := 65) X 7 (atM_7 _ _ _) h7 d_M_apartBy_65 ?_
          refine x_istore (pc := 66) (lv' := [(0, .ref (q 0)), (1, .int x1), (2, .int x2), (3, .int x3), (4, .int (σ2.2 6 x1.toNatClampNeg)), (5, .int (σ2.2 6 x2.toNatClampNeg))]) X d_M_apartBy_66 (by decide) [1, 2, 3, 4, 5, 0] rfl ?_
          refine x_iconst (pc := 68) (v := 0) X d_M_apartBy_68 (by decide) ?_
          refine x_istore (pc := 69) (lv' := [(0, .ref (q 0)), (1, .int x1), (2, .int x2), (3, .int x3), (4, .int (σ2.2 6 x1.toNatClampNeg)), (5, .int (σ2.2 6 x2.toNatClampNeg)), (6, .int 0)]) X d_M_apartBy_69 (by decide) [1, 2, 3, 4, 5, 6, 0] rfl ?_
          obtain ⟨n2, hw⟩ := hw
          exact wL_M_apartBy_71 X hR n2 x1 x2 x3 (σ2.2 6 x1.toNatClampNeg) (σ2.2 6 x2.toNatClampNeg) 0 σ2 hw
        · have hw := hw.2 c
          refine x_iconst (pc := 50) (v := (-1)) X d_M_apartBy_50 (by decide) ?_
          exact hR _ _ _ _ d_M_apartBy_51 (vp_nar_int _) hw
def rm_W_is : Room := { frames := 2, cells := 0, slots := 0, locals := 44 }
set_option maxHeartbeats 4000000 in
set_option maxRecDepth 100000 in
theorem c_W_is (l : Launch) (D : va_G) (cI : ClassId) (q : Nat → Nat) (σ : St) (x1 x2 x3 : Int32) (post : Int32 → St → Prop) (hw : wp_W_is x1 x2 x3 σ post) : CI l D cI (wC cI q) y_W_is b_W_is 4 .boolean rm_W_is [.ref (q 0), .int x1, .int x2, .int x3] σ post := by
  refine CI_of (by decide) (Nat.le_of_ble_eq_true rfl) ?_
  intro Z hZl hZD hZI X hR
  subst hZl; subst hZD; subst hZI
  unfold wp_W_is at hw
  show VV Z 0 0 (wC (zI Z) q σ) [(0, .ref (q 0)), (1, .int x1), (2, .int x2), (3, .int x3)] 0 []
  refine x_aload_n (pc := 0) X d_W_is_0 0 rfl ?_
  refine x_get (pc := 1) X tb_W 0 0 (by decide) mw_0 (atC_0 _ _ _) rfl d_W_is_1 ?_
  refine x_iload_n (pc := 4) X d_W_is_4 1 rfl ?_
  refine x_iload_n (pc := 5) X d_W_is_5 2 rfl ?_
  refine x_iload_n (pc := 6) X d_W_is_6 3 rfl ?_
  refine x_cni (pc := 7) X [.int x1, .int x2, .int x3] (c_G_canHold (zl Z) (zD Z) (zI Z) q σ x1 x2 x3 _ hw) mv_G_canHold tb_G 1 (atC_1 _ _ _) nw_14 d_W_is_7 rfl (Nat.le_of_ble_eq_true rfl) ⟨Nat.le_of_ble_eq_true rfl, Nat.le_of_ble_eq_true rfl⟩ ⟨rfl, rfl⟩ ⟨Nat.zero_le _, Nat.zero_le _⟩ ?_
  intro r1 σ1 hw
  refine x_if_eq (pc := 10) (tgt := 30) X d_W_is_10 (by decide) (fun c => ?_) (fun c => ?_)
  · have hw := hw.1 c
    refine x_iconst (pc := 30) (v := 0) X d_W_is_30 (by decide) ?_
    exact hR _ _ _ _ d_W_is_31 rfl hw
  · have hw := hw.2 c
    refine x_aload_n (pc := 13) X d_W_is_13 0 rfl ?_
    refine x_get (pc := 14) X tb_W 0 0 (by decide) mw_0 (atC_0 _ _ _) rfl d_W_is_14 ?_
    refine x_iload_n (pc := 17) X d_W_is_17 1 rfl ?_
    refine x_iload_n (pc := 18) X d_W_is_18 2 rfl ?_
    refine x_iload_n (pc := 19) X d_W_is_19 3 rfl ?_
    refine x_cni (pc := 20) X [.int x1, .int x2, .int x3] (c_G_holds (zl Z) (zD Z) (zI Z) q σ1 x1 x2 x3 _ hw) mv_G_holds tb_G 1 (atC_1 _ _ _) nw_16 d_W_is_20 rfl (Nat.le_of_ble_eq_true rfl) ⟨Nat.le_of_ble_eq_true rfl, Nat.le_of_ble_eq_true rfl⟩ ⟨rfl, rfl⟩ ⟨Nat.zero_le _, Nat.zero_le _⟩ ?_
    intro r2 σ2 hw
    refine x_if_eq (pc := 23) (tgt := 30) X d_W_is_23 (by decide) (fun c => ?_) (fun c => ?_)
    · have hw := hw.1 c
      refine x_iconst (pc := 30) (v := 0) X d_W_is_30 (by decide) ?_
      exact hR _ _ _ _ d_W_is_31 rfl hw
    · have hw := hw.2 c
      refine x_iconst (pc := 26) (v := 1) X d_W_is_26 (by decide) ?_
      refine x_goto (pc := 27) (tgt := 31) X d_W_is_27 (by decide) ?_
      exact hR _ _ _ _ d_W_is_31 rfl hw
def rm_I_bitCount1 : Room := { frames := 0, cells := 0, slots := 0, locals := 0 }
set_option maxHeartbeats 4000000 in
set_option maxRecDepth 100000 in
theorem c_I_bitCount1 (l : Launch) (D : va_G) (cI : ClassId) (q : Nat → Nat) (σ : St) (x0 : Int32) (post : Int32 → St → Prop) (hw : wp_I_bitCount1 x0 σ post) : CI l D cI (wC cI q) y_I_bitCount1 b_I_bitCount1 1 .int rm_I_bitCount1 [.int x0] σ post := by
  refine CI_of (by decide) (Nat.le_of_ble_eq_true rfl) ?_
  intro Z hZl hZD hZI X hR
  subst hZl; subst hZD; subst hZI
  unfold wp_I_bitCount1 at hw
  show VV Z 0 0 (wC (zI Z) q σ) [(0, .int x0)] 0 []
  refine x_iload_n (pc := 0) X d_I_bitCount1_0 0 rfl ?_
  refine x_iload_n (pc := 1) X d_I_bitCount1_1 0 rfl ?_
  refine x_iconst (pc := 2) (v := 1) X d_I_bitCount1_2 (by decide) ?_
  refine x_iushr (pc := 3) X d_I_bitCount1_3 ?_
  refine x_ldcw (pc := 4) (v := (1431655765 : Int32)) X mw_105 d_I_bitCount1_4 ?_
  refine x_iand (pc := 7) X d_I_bitCount1_7 ?_
  refine x_isub (pc := 8) X d_I_bitCount1_8 ?_
  refine x_istore_n (pc := 9) (lv' := [(0, .int (x0 - ((ush x0 1) &&& (1431655765 : Int32))))]) X d_I_bitCount1_9 (by decide) [0] rfl ?_
  refine x_iload_n (pc := 10) X d_I_bitCount1_10 0 rfl ?_
  refine x_ldcw (pc := 11) (v := (858993459 : Int32)) X mw_106 d_I_bitCount1_11 ?_
  refine x_iand (pc := 14) X d_I_bitCount1_14 ?_
  refine x_iload_n (pc := 15) X d_I_bitCount1_15 0 rfl ?_
  refine x_iconst (pc := 16) (v := (nI 2)) X d_I_bitCount1_16 (by decide) ?_
  refine x_iushr (pc := 17) X d_I_bitCount1_17 ?_
  refine x_ldcw (pc := 18) (v := (858993459 : Int32)) X mw_106 d_I_bitCount1_18 ?_
  refine x_iand (pc := 21) X d_I_bitCount1_21 ?_
  refine x_iadd (pc := 22) X d_I_bitCount1_22 ?_
  refine x_topi (fun y1 e1 => ?_)
  have hw := hw y1 e1
  refine x_istore_n (pc := 23) (lv' := [(0, .int y1)]) X d_I_bitCount1_23 (by decide) [0] rfl ?_
  refine x_iload_n (pc := 24) X d_I_bitCount1_24 0 rfl ?_
  refine x_iload_n (pc := 25) X d_I_bitCount1_25 0 rfl ?_
  refine x_iconst (pc := 26) (v := (nI 4)) X d_I_bitCount1_26 (by decide) ?_
  refine x_iushr (pc := 27) X d_I_bitCount1_27 ?_
  refine x_iadd (pc := 28) X d_I_bitCount1_28 ?_
  refine x_ldcw (pc := 29) (v := (252645135 : Int32)) X mw_107 d_I_bitCount1_29 ?_
  refine x_iand (pc := 32) X d_I_bitCount1_32 ?_
  refine x_istore_n (pc := 33) (lv' := [(0, .int ((y1 + (ush y1 (nI 4))) &&& (252645135 : Int32)))]) X d_I_bitCount1_33 (by decide) [0] rfl ?_
  refine x_iload_n (pc := 34) X d_I_bitCount1_34 0 rfl ?_
  refine x_iload_n (pc := 35) X d_I_bitCount1_35 0 rfl ?_
  refine x_bipush (pc := 36) (v := (nI 8)) X d_I_bitCount1_36 (by decide) ?_
  refine x_iushr (pc := 38) X d_I_bitCount1_38 ?_
  refine x_iadd (pc := 39) X d_I_bitCount1_39 ?_
  refine x_topi (fun y2 e2 => ?_)
  have hw := hw y2 e2
  refine x_istore_n (pc := 40) (lv' := [(0, .int y2)]) X d_I_bitCount1_40 (by decide) [0] rfl ?_
  refine x_iload_n (pc := 41) X d_I_bitCount1_41 0 rfl ?_
  refine x_iload_n (pc := 42) X d_I_bitCount1_42 0 rfl ?_
  refine x_bipush (pc := 43) (v := (nI 16)) X d_I_bitCount1_43 (by decide) ?_
  refine x_iushr (pc := 45) X d_I_bitCount1_45 ?_
  refine x_iadd (pc := 46) X d_I_bitCount1_46 ?_
  refine x_istore_n (pc := 47) (lv' := [(0, .int (y2 + (ush y2 (nI 16))))]) X d_I_bitCount1_47 (by decide) [0] rfl ?_
  refine x_iload_n (pc := 48) X d_I_bitCount1_48 0 rfl ?_
  refine x_bipush (pc := 49) (v := (nI 63)) X d_I_bitCount1_49 (by decide) ?_
  refine x_iand (pc := 51) X d_I_bitCount1_51 ?_
  exact hR _ _ _ _ d_I_bitCount1_52 (vp_nar_int _) hw
def rm_G_countWays : Room := { frames := 1, cells := 0, slots := 0, locals := 20 }
set_option maxHeartbeats 4000000 in
set_option maxRecDepth 100000 in
theorem wL_G_countWays_4 {Z : ZT} {q : Nat → Nat} {post : Int32 → St → Prop} (X : Cx Z "WayTable$Graph" b_G_countWays rm_G_countWays 3) (hR : RI Z b_G_countWays .int (wC (zI Z) q) post) : ∀ (n : Nat) (x1 x2 : Int32) (σ : St), L_G_countWays_4 post n x1 x2 σ → VV Z 0 0 (wC (zI Z) q σ) [(0, .ref (q 1)), (1, .int x1), (2, .int x2)] 4 [] := by
  intro n
  induction n with
  | zero => intro x1 x2 σ hw; exact False.elim hw
  | succ n ih =>
    intro x1 x2 σ hw
    unfold L_G_countWays_4 at hw
    refine x_iload_n (pc := 4) X d_G_countWays_4 2 rfl ?_
    refine x_aload_n (pc := 5) X d_G_countWays_5 0 rfl ?_
    refine x_get (pc := 6) X tb_G 1 3 (by decide) mw_4 (atC_1 _ _ _) rfl d_G_countWays_6 ?_
    refine x_alen (pc := 9) X 2 (atC_2 _ _ _) d_G_countWays_9 ?_
    refine x_icmp_ge (pc := 10) (tgt := 31) X d_G_countWays_10 (by decide) (fun c => ?_) (fun c => ?_)
    · have hw := hw.1 c
      refine x_iload_n (pc := 31) X d_G_countWays_31 1 rfl ?_
      exact hR _ _ _ _ d_G_countWays_32 (vp_nar_int _) hw
    · have hw := hw.2 c
      refine x_iload_n (pc := 13) X d_G_countWays_13 1 rfl ?_
      refine x_aload_n (pc := 14) X d_G_countWays_14 0 rfl ?_
      refine x_get (pc := 15) X tb_G 1 3 (by decide) mw_4 (atC_1 _ _ _) rfl d_G_countWays_15 ?_
      refine x_iload_n (pc := 18) X d_G_countWays_18 2 rfl ?_
      obtain ⟨h1, hw⟩ := hw
      refine x_iald (pc := 19) X 2 (atC_2 _ _ _) h1 d_G_countWays_19 ?_
      refine x_csi (pc := 20) X [.int (σ.2 0 x2.toNatClampNeg)] (c_I_bitCount1 (zl Z) (zD Z) (zI Z) q σ (σ.2 0 x2.toNatClampNeg) _ hw) ms_I_bitCount1 mw_108 d_G_countWays_20 rfl (Nat.le_of_ble_eq_true rfl) ⟨Nat.le_of_ble_eq_true rfl, Nat.le_of_ble_eq_true rfl⟩ ⟨rfl, rfl⟩ ⟨Nat.zero_le _, Nat.zero_le _⟩ ?_
      intro r2 σ2 hw
      refine x_iadd (pc := 23) X d_G_countWays_23 ?_
      refine x_istore_n (pc := 24) (lv' := [(0, .ref (q 1)), (1, .int (x1 + r2)), (2, .int x2)]) X d_G_countWays_24 (by decide) [1, 0, 2] rfl ?_
      refine x_iinc (pc := 25) (d := 1) (lv' := [(0, .ref (q 1)), (1, .int (x1 + r2)), (2, .int (x2 + 1))]) X d_G_countWays_25 2 rfl (by decide) (by decide) [1, 2, 0] rfl ?_
      refine x_goto (pc := 28) (tgt := 4) X d_G_countWays_28 (by decide) ?_
      exact ih (x1 + r2) (x2 + 1) σ2 hw
set_option maxHeartbeats 4000000 in
set_option maxRecDepth 100000 in
theorem c_G_countWays (l : Launch) (D : va_G) (cI : ClassId) (q : Nat → Nat) (σ : St) (post : Int32 → St → Prop) (hw : wp_G_countWays σ post) : CI l D cI (wC cI q) y_G_countWays b_G_countWays 3 .int rm_G_countWays [.ref (q 1)] σ post := by
  refine CI_of (by decide) (Nat.le_of_ble_eq_true rfl) ?_
  intro Z hZl hZD hZI X hR
  subst hZl; subst hZD; subst hZI
  unfold wp_G_countWays at hw
  show VV Z 0 0 (wC (zI Z) q σ) [(0, .ref (q 1))] 0 []
  refine x_iconst (pc := 0) (v := 0) X d_G_countWays_0 (by decide) ?_
  refine x_istore_n (pc := 1) (lv' := [(0, .ref (q 1)), (1, .int 0)]) X d_G_countWays_1 (by decide) [1, 0] rfl ?_
  refine x_iconst (pc := 2) (v := 0) X d_G_countWays_2 (by decide) ?_
  refine x_istore_n (pc := 3) (lv' := [(0, .ref (q 1)), (1, .int 0), (2, .int 0)]) X d_G_countWays_3 (by decide) [1, 2, 0] rfl ?_
  obtain ⟨n2, hw⟩ := hw
  exact wL_G_countWays_4 X hR n2 0 0 σ hw
def rm_T_countGoing : Room := { frames := 1, cells := 0, slots := 0, locals := 23 }
set_option maxHeartbeats 4000000 in
set_option maxRecDepth 100000 in
theorem wL_T_countGoing_14 {Z : ZT} {q : Nat → Nat} {post : Int32 → St → Prop} {K : Int32 → Int32 → St → Prop} (X : Cx Z "WayTable$Table" b_T_countGoing rm_T_countGoing 4) (hR : RI Z b_T_countGoing .int (wC (zI Z) q) post) (hK : ∀ (x1 x2 : Int32) (σ : St), K x1 x2 σ → VV Z 0 0 (wC (zI Z) q σ) [(0, .ref (q 3)), (1, .int x1), (2, .int x2)] 4 []) : ∀ (n : Nat) (x1 x2 x3 : Int32) (σ : St), L_T_countGoing_14 post K n x1 x2 x3 σ → VV Z 0 0 (wC (zI Z) q σ) [(0, .ref (q 3)), (1, .int x1), (2, .int x2), (3, .int x3)] 14 [] := by
  intro n
  induction n with
  | zero => intro x1 x2 x3 σ hw; exact False.elim hw
  | succ n ih =>
    intro x1 x2 x3 σ hw
    unfold L_T_countGoing_14 at hw
    refine x_iload_n (pc := 14) X d_T_countGoing_14 3 rfl ?_
    refine x_aload_n (pc := 15) X d_T_countGoing_15 0 rfl ?_
    refine x_get (pc := 16) X tb_T 3 0 (by decide) mw_37 (atC_3 _ _ _) rfl d_T_countGoing_16 ?_
    refine x_icmp_ge (pc := 19) (tgt := 41) X d_T_countGoing_19 (by decide) (fun c => ?_) (fun c => ?_)
    · have hw := hw.1 c
      refine x_iinc (pc := 41) (d := 1) (lv' := [(0, .ref (q 3)), (1, .int x1), (2, .int (x2 + 1)), (3, .int x3)]) X d_T_countGoing_41 2 rfl (by decide) (by decide) [1, 2, 0, 3] rfl ?_
      refine x_goto (pc := 44) (tgt := 4) X d_T_countGoing_44 (by decide) ?_
      refine x_drop [0, 1, 2] rfl ?_
      exact hK x1 (x2 + 1) σ hw
    · have hw := hw.2 c
      refine x_aload_n (pc := 22) X d_T_countGoing_22 0 rfl ?_
      refine x_iload_n (pc := 23) X d_T_countGoing_23 2 rfl ?_
      refine x_iload_n (pc := 24) X d_T_countGoing_24 3 rfl ?_
      refine x_cvi (pc := 25) X [.int x2, .int x3] (c_T_stateAfter (zl Z) (zD Z) (zI Z) q σ x2 x3 _ hw) mv_T_stateAfter tb_T 3 (atC_3 _ _ _) mw_112 d_T_countGoing_25 rfl (Nat.le_of_ble_eq_true rfl) ⟨Nat.le_of_ble_eq_true rfl, Nat.le_of_ble_eq_true rfl⟩ ⟨rfl, rfl⟩ ⟨Nat.zero_le _, Nat.zero_le _⟩ ?_
      intro r1 σ1 hw
      refine x_iconst (pc := 28) (v := (-1)) X d_T_countGoing_28 (by decide) ?_
      refine x_icmp_eq (pc := 29) (tgt := 35) X d_T_countGoing_29 (by decide) (fun c => ?_) (fun c => ?_)
      · have hw := hw.1 c
        refine x_iinc (pc := 35) (d := 1) (lv' := [(0, .ref (q 3)), (1, .int x1), (2, .int x2), (3, .int (x3 + 1))]) X d_T_countGoing_35 3 rfl (by decide) (by decide) [1, 2, 3, 0] rfl ?_
        refine x_goto (pc := 38) (tgt := 14) X d_T_countGoing_38 (by decide) ?_
        exact ih x1 x2 (x3 + 1) σ1 hw
      · have hw := hw.2 c
        refine x_iinc (pc := 32) (d := 1) (lv' := [(0, .ref (q 3)), (1, .int (x1 + 1)), (2, .int x2), (3, .int x3)]) X d_T_countGoing_32 1 rfl (by decide) (by decide) [1, 0, 2, 3] rfl ?_
        refine x_iinc (pc := 35) (d := 1) (lv' := [(0, .ref (q 3)), (1, .int (x1 + 1)), (2, .int x2), (3, .int (x3 + 1))]) X d_T_countGoing_35 3 rfl (by decide) (by decide) [1, 2, 3, 0] rfl ?_
        refine x_goto (pc := 38) (tgt := 14) X d_T_countGoing_38 (by decide) ?_
        exact ih (x1 + 1) x2 (x3 + 1) σ1 hw
set_option maxHeartbeats 4000000 in
set_option maxRecDepth 100000 in
theorem wL_T_countGoing_4 {Z : ZT} {q : Nat → Nat} {post : Int32 → St → Prop} (X : Cx Z "WayTable$Table" b_T_countGoing rm_T_countGoing 4) (hR : RI Z b_T_countGoing .int (wC (zI Z) q) post) : ∀ (n : Nat) (x1 x2 : Int32) (σ : St), L_T_countGoing_4 post n x1 x2 σ → VV Z 0 0 (wC (zI Z) q σ) [(0, .ref (q 3)), (1, .int x1), (2, .int x2)] 4 [] := by
  intro n
  induction n with
  | zero => intro x1 x2 σ hw; exact False.elim hw
  | succ n ih =>
    intro x1 x2 σ hw
    unfold L_T_countGoing_4 at hw
    refine x_iload_n (pc := 4) X d_T_countGoing_4 2 rfl ?_
    refine x_aload_n (pc := 5) X d_T_countGoing_5 0 rfl ?_
    refine x_get (pc := 6) X tb_T 3 2 (by decide) mw_67 (atC_3 _ _ _) rfl d_T_countGoing_6 ?_
    refine x_icmp_ge (pc := 9) (tgt := 47) X d_T_countGoing_9 (by decide) (fun c => ?_) (fun c => ?_)
    · have hw := hw.1 c
      refine x_iload_n (pc := 47) X d_T_countGoing_47 1 rfl ?_
      exact hR _ _ _ _ d_T_countGoing_48 (vp_nar_int _) hw
    · have hw := hw.2 c
      refine x_iconst (pc := 12) (v := 0) X d_T_countGoing_12 (by decide) ?_
      refine x_istore_n (pc := 13) (lv' := [(0, .ref (q 3)), (1, .int x1), (2, .int x2), (3, .int 0)]) X d_T_countGoing_13 (by decide) [1, 2, 3, 0] rfl ?_
      obtain ⟨n2, hw⟩ := hw
      exact wL_T_countGoing_14 X hR ih n2 x1 x2 0 σ hw
set_option maxHeartbeats 4000000 in
set_option maxRecDepth 100000 in
theorem c_T_countGoing (l : Launch) (D : va_G) (cI : ClassId) (q : Nat → Nat) (σ : St) (post : Int32 → St → Prop) (hw : wp_T_countGoing σ post) : CI l D cI (wC cI q) y_T_countGoing b_T_countGoing 4 .int rm_T_countGoing [.ref (q 3)] σ post := by
  refine CI_of (by decide) (Nat.le_of_ble_eq_true rfl) ?_
  intro Z hZl hZD hZI X hR
  subst hZl; subst hZD; subst hZI
  unfold wp_T_countGoing at hw
  show VV Z 0 0 (wC (zI Z) q σ) [(0, .ref (q 3))] 0 []
  refine x_iconst (pc := 0) (v := 0) X d_T_countGoing_0 (by decide) ?_
  refine x_istore_n (pc := 1) (lv' := [(0, .ref (q 3)), (1, .int 0)]) X d_T_countGoing_1 (by decide) [1, 0] rfl ?_
  refine x_iconst (pc := 2) (v := 0) X d_T_countGoing_2 (by decide) ?_
  refine x_istore_n (pc := 3) (lv' := [(0, .ref (q 3)), (1, .int 0), (2, .int 0)]) X d_T_countGoing_3 (by decide) [1, 2, 0] rfl ?_
  obtain ⟨n2, hw⟩ := hw
  exact wL_T_countGoing_4 X hR n2 0 0 σ hw
def rm_W_look : Room := { frames := 2, cells := 0, slots := 0, locals := 46 }
set_option maxHeartbeats 4000000 in
set_option maxRecDepth 100000 in
theorem c_W_look (l : Launch) (D : va_G) (cI : ClassId) (q : Nat → Nat) (σ : St) (x1 : Int32) (post : Int32 → St → Prop) (hw : wp_W_look x1 σ post) : CI l D cI (wC cI q) y_W_look b_W_look 2 .int rm_W_look [.ref (q 0), .int x1] σ post := by
  refine CI_of (by decide) (Nat.le_of_ble_eq_true rfl) ?_
  intro Z hZl hZD hZI X hR
  subst hZl; subst hZD; subst hZI
  unfold wp_W_look at hw
  show VV Z 0 0 (wC (zI Z) q σ) [(0, .ref (q 0)), (1, .int x1)] 0 []
  refine x_iload_n (pc := 0) X d_W_look_0 1 rfl ?_
  refine x_table (pc := 1) (N := 10) (dt := 133) X (fun j => [56, 64, 72, 80, 88, 96, 104, 112, 120, 128].getD j 0) d_W_look_1 (by decide) (by decide) (by decide) (by decide) (fun j hj hx => ?_) (fun hx => ?_)
  · rcases (show j = 0 ∨ j = 1 ∨ j = 2 ∨ j = 3 ∨ j = 4 ∨ j = 5 ∨ j = 6 ∨ j = 7 ∨ j = 8 ∨ j = 9 by omega) with rfl | rfl | rfl | rfl | rfl | rfl | rfl | rfl | rfl | rfl
    · have hw := hw.1 hx
      show VV Z 0 0 (wC (zI Z) q σ) [(0, .ref (q 0)), (1, .int x1)] 56 []
      refine x_aload_n (pc := 56) X d_W_look_56 0 rfl ?_
      refine x_get (pc := 57) X tb_W 0 0 (by decide) mw_0 (atC_0 _ _ _) rfl d_W_look_57 ?_
      refine x_getN (pc := 60) X tb_G 1 0 (by decide) nw_23 (atC_1 _ _ _) rfl d_W_look_60 ?_
      exact hR _ _ _ _ d_W_look_63 (vp_nar_int _) hw
    · have hw := hw.2.1 hx
      show VV Z 0 0 (wC (zI Z) q σ) [(0, .ref (q 0)), (1, .int x1)] 64 []
      refine x_aload_n (pc := 64) X d_W_look_64 0 rfl ?_
      refine x_get (pc := 65) X tb_W 0 0 (by decide) mw_0 (atC_0 _ _ _) rfl d_W_look_65 ?_
      refine x_getN (pc := 68) X tb_G 1 1 (by decide) nw_25 (atC_1 _ _ _) rfl d_W_look_68 ?_
      exact hR _ _ _ _ d_W_look_71 (vp_nar_int _) hw
    · have hw := hw.2.2.1 hx
      show VV Z 0 0 (wC (zI Z) q σ) [(0, .ref (q 0)), (1, .int x1)] 72 []
      refine x_aload_n (pc := 72) X d_W_look_72 0 rfl ?_
      refine x_get (pc := 73) X tb_W 0 0 (by decide) mw_0 (atC_0 _ _ _) rfl d_W_look_73 ?_
      refine x_cni (pc := 76) X [] (c_G_countWays (zl Z) (zD Z) (zI Z) q σ _ hw) mv_G_countWays tb_G 1 (atC_1 _ _ _) nw_109 d_W_look_76 rfl (Nat.le_of_ble_eq_true rfl) ⟨Nat.le_of_ble_eq_true rfl, Nat.le_of_ble_eq_true rfl⟩ ⟨rfl, rfl⟩ ⟨Nat.zero_le _, Nat.zero_le _⟩ ?_
      intro r1 σ1 hw
      exact hR _ _ _ _ d_W_look_79 (vp_nar_int _) hw
    · have hw := hw.2.2.2.1 hx
      show VV Z 0 0 (wC (zI Z) q σ) [(0, .ref (q 0)), (1, .int x1)] 80 []
      refine x_aload_n (pc := 80) X d_W_look_80 0 rfl ?_
      refine x_get (pc := 81) X tb_W 0 0 (by decide) mw_0 (atC_0 _ _ _) rfl d_W_look_81 ?_
      refine x_getN (pc := 84) X tb_G 1 2 (by decide) nw_29 (atC_1 _ _ _) rfl d_W_look_84 ?_
      exact hR _ _ _ _ d_W_look_87 (vp_nar_int _) hw
    · have hw := hw.2.2.2.2.1 hx
      show VV Z 0 0 (wC (zI Z) q σ) [(0, .ref (q 0)), (1, .int x1)] 88 []
      refine x_aload_n (pc := 88) X d_W_look_88 0 rfl ?_
      refine x_get (pc := 89) X tb_W 0 1 (by decide) mw_30 (atC_0 _ _ _) rfl d_W_look_89 ?_
      refine x_getN (pc := 92) X tb_T 3 1 (by decide) nw_110 (atC_3 _ _ _) rfl d_W_look_92 ?_
      exact hR _ _ _ _ d_W_look_95 (vp_nar_int _) hw
    · have hw := hw.2.2.2.2.2.1 hx
      show VV Z 0 0 (wC (zI Z) q σ) [(0, .ref (q 0)), (1, .int x1)] 96 []
      refine x_aload_n (pc := 96) X d_W_look_96 0 rfl ?_
      refine x_get (pc := 97) X tb_W 0 1 (by decide) mw_30 (atC_0 _ _ _) rfl d_W_look_97 ?_
      refine x_getN (pc := 100) X tb_T 3 2 (by decide) nw_73 (atC_3 _ _ _) rfl d_W_look_100 ?_
      exact hR _ _ _ _ d_W_look_103 (vp_nar_int _) hw
    · have hw := hw.2.2.2.2.2.2.1 hx
      show VV Z 0 0 (wC (zI Z) q σ) [(0, .ref (q 0)), (1, .int x1)] 104 []
      refine x_aload_n (pc := 104) X d_W_look_104 0 rfl ?_
      refine x_get (pc := 105) X tb_W 0 1 (by decide) mw_30 (atC_0 _ _ _) rfl d_W_look_105 ?_
      refine x_getN (pc := 108) X tb_T 3 0 (by decide) nw_111 (atC_3 _ _ _) rfl d_W_look_108 ?_
      exact hR _ _ _ _ d_W_look_111 (vp_nar_int _) hw
    · have hw := hw.2.2.2.2.2.2.2.1 hx
      show VV Z 0 0 (wC (zI Z) q σ) [(0, .ref (q 0)), (1, .int x1)] 112 []
      refine x_aload_n (pc := 112) X d_W_look_112 0 rfl ?_
      refine x_get (pc := 113) X tb_W 0 1 (by decide) mw_30 (atC_0 _ _ _) rfl d_W_look_113 ?_
      refine x_cni (pc := 116) X [] (c_T_countGoing (zl Z) (zD Z) (zI Z) q σ _ hw) mv_T_countGoing tb_T 3 (atC_3 _ _ _) nw_113 d_W_look_116 rfl (Nat.le_of_ble_eq_true rfl) ⟨Nat.le_of_ble_eq_true rfl, Nat.le_of_ble_eq_true rfl⟩ ⟨rfl, rfl⟩ ⟨Nat.zero_le _, Nat.zero_le _⟩ ?_
      intro r2 σ2 hw
      exact hR _ _ _ _ d_W_look_119 (vp_nar_int _) hw
    · have hw := hw.2.2.2.2.2.2.2.2.1 hx
      show VV Z 0 0 (wC (zI Z) q σ) [(0, .ref (q 0)), (1, .int x1)] 120 []
      refine x_aload_n (pc := 120) X d_W_look_120 0 rfl ?_
      refine x_get (pc := 121) X tb_W 0 1 (by decide) mw_30 (atC_0 _ _ _) rfl d_W_look_121 ?_
      refine x_getN (pc := 124) X tb_T 3 3 (by decide) nw_114 (atC_3 _ _ _) rfl d_W_look_124 ?_
      exact hR _ _ _ _ d_W_look_127 (vp_nar_int _) hw
    · have hw := hw.2.2.2.2.2.2.2.2.2.1 hx
      show VV Z 0 0 (wC (zI Z) q σ) [(0, .ref (q 0)), (1, .int x1)] 128 []
      refine x_aload_n (pc := 128) X d_W_look_128 0 rfl ?_
      refine x_get (pc := 129) X tb_W 0 2 (by decide) mw_72 (atC_0 _ _ _) rfl d_W_look_129 ?_
      exact hR _ _ _ _ d_W_look_132 (vp_nar_int _) hw
  · have hw := hw.2.2.2.2.2.2.2.2.2.2 hx
    refine x_iconst (pc := 133) (v := (-1)) X d_W_look_133 (by decide) ?_
    exact hR _ _ _ _ d_W_look_134 (vp_nar_int _) hw
end
section
def rm_M_wayMany : Room := { frames := 0, cells := 0, slots := 0, locals := 0 }
set_option maxHeartbeats 4000000 in
set_option maxRecDepth 100000 in
theorem wL_M_wayMany_17 {Z : ZT} {q : Nat → Nat} {post : Int32 → St → Prop} {K : Int32 → Int32 → St → Prop} (X : Cx Z "WayTableModel" b_M_wayMany rm_M_wayMany 4) (hR : RI Z b_M_wayMany .int (wM (zI Z) q) post) (hK : ∀ (x1 x2 : Int32) (σ : St), K x1 x2 σ → VV Z 0 0 (wM (zI Z) q σ) [(0, .ref (q 0)), (1, .int x1), (2, .int x2)] 4 []) : ∀ (n : Nat) (x1 x2 x3 : Int32) (σ : St), L_M_wayMany_17 post K n x1 x2 x3 σ → VV Z 0 0 (wM (zI Z) q σ) [(0, .ref (q 0)), (1, .int x1), (2, .int x2), (3, .int x3)] 17 [] := by
  intro n
  induction n with
  | zero => intro x1 x2 x3 σ hw; exact False.elim hw
  | succ n ih =>
    intro x1 x2 x3 σ hw
    unfold L_M_wayMany_17 at hw
    refine x_iload_n (pc := 17) X d_M_wayMany_17 3 rfl ?_
    refine x_aload_n (pc := 18) X d_M_wayMany_18 0 rfl ?_
    refine x_get (pc := 19) X tb_M 0 1 (by decide) mw_8 (atM_0 _ _ _) rfl d_M_wayMany_19 ?_
    refine x_icmp_ge (pc := 22) (tgt := 44) X d_M_wayMany_22 (by decide) (fun c => ?_) (fun c => ?_)
    · have hw := hw.1 c
      refine x_iinc (pc := 44) (d := 1) (lv' := [(0, .ref (q 0)), (1, .int x1), (2, .int (x2 + 1)), (3, .int x3)]) X d_M_wayMany_44 2 rfl (by decide) (by decide) [1, 2, 0, 3] rfl ?_
      refine x_goto (pc := 47) (tgt := 4) X d_M_wayMany_47 (by decide) ?_
      refine x_drop [0, 1, 2] rfl ?_
      exact hK x1 (x2 + 1) σ hw
    · have hw := hw.2 c
      refine x_iload_n (pc := 25) X d_M_wayMany_25 1 rfl ?_
      refine x_aload_n (pc := 26) X d_M_wayMany_26 0 rfl ?_
      refine x_get (pc := 27) X tb_M 0 4 (by decide) mw_11 (atM_0 _ _ _) rfl d_M_wayMany_27 ?_
      refine x_iload_n (pc := 30) X d_M_wayMany_30 2 rfl ?_
      obtain ⟨h1, hw⟩ := hw
      refine x_iald (pc := 31) X 1 (atM_1 _ _ _) h1 d_M_wayMany_31 ?_
      refine x_iload_n (pc := 32) X d_M_wayMany_32 3 rfl ?_
      refine x_ishr (pc := 33) X d_M_wayMany_33 ?_
      refine x_iconst (pc := 34) (v := 1) X d_M_wayMany_34 (by decide) ?_
      refine x_iand (pc := 35) X d_M_wayMany_35 ?_
      refine x_iadd (pc := 36) X d_M_wayMany_36 ?_
      refine x_istore_n (pc := 37) (lv' := [(0, .ref (q 0)), (1, .int (x1 + (((σ.2 0 x2.toNatClampNeg) >>> (x3 &&& 31)) &&& 1))), (2, .int x2), (3, .int x3)]) X d_M_wayMany_37 (by decide) [1, 0, 2, 3] rfl ?_
      refine x_iinc (pc := 38) (d := 1) (lv' := [(0, .ref (q 0)), (1, .int (x1 + (((σ.2 0 x2.toNatClampNeg) >>> (x3 &&& 31)) &&& 1))), (2, .int x2), (3, .int (x3 + 1))]) X d_M_wayMany_38 3 rfl (by decide) (by decide) [1, 2, 3, 0] rfl ?_
      refine x_goto (pc := 41) (tgt := 17) X d_M_wayMany_41 (by decide) ?_
      exact ih (x1 + (((σ.2 0 x2.toNatClampNeg) >>> (x3 &&& 31)) &&& 1)) x2 (x3 + 1) σ hw
set_option maxHeartbeats 4000000 in
set_option maxRecDepth 100000 in
theorem wL_M_wayMany_4 {Z : ZT} {q : Nat → Nat} {post : Int32 → St → Prop} (X : Cx Z "WayTableModel" b_M_wayMany rm_M_wayMany 4) (hR : RI Z b_M_wayMany .int (wM (zI Z) q) post) : ∀ (n : Nat) (x1 x2 : Int32) (σ : St), L_M_wayMany_4 post n x1 x2 σ → VV Z 0 0 (wM (zI Z) q σ) [(0, .ref (q 0)), (1, .int x1), (2, .int x2)] 4 [] := by
  intro n
  induction n with
  | zero => intro x1 x2 σ hw; exact False.elim hw
  | succ n ih =>
    intro x1 x2 σ hw
    unfold L_M_wayMany_4 at hw
    refine x_iload_n (pc := 4) X d_M_wayMany_4 2 rfl ?_
    refine x_bipush (pc := 5) (v := (nI 24)) X d_M_wayMany_5 (by decide) ?_
    refine x_aload_n (pc := 7) X d_M_wayMany_7 0 rfl ?_
    refine x_get (pc := 8) X tb_M 0 2 (by decide) mw_9 (atM_0 _ _ _) rfl d_M_wayMany_8 ?_
    refine x_imul (pc := 11) X d_M_wayMany_11 ?_
    refine x_icmp_ge (pc := 12) (tgt := 50) X d_M_wayMany_12 (by decide) (fun c => ?_) (fun c => ?_)
    · have hw := hw.1 c
      refine x_iload_n (pc := 50) X d_M_wayMany_50 1 rfl ?_
      exact hR _ _ _ _ d_M_wayMany_51 (vp_nar_int _) hw
    · have hw := hw.2 c
      refine x_iconst (pc := 15) (v := 0) X d_M_wayMany_15 (by decide) ?_
      refine x_istore_n (pc := 16) (lv' := [(0, .ref (q 0)), (1, .int x1), (2, .int x2), (3, .int 0)]) X d_M_wayMany_16 (by decide) [1, 2, 3, 0] rfl ?_
      obtain ⟨n2, hw⟩ := hw
      exact wL_M_wayMany_17 X hR ih n2 x1 x2 0 σ hw
set_option maxHeartbeats 4000000 in
set_option maxRecDepth 100000 in
theorem c_M_wayMany (l : Launch) (D : va_G) (cI : ClassId) (q : Nat → Nat) (σ : St) (post : Int32 → St → Prop) (hw : wp_M_wayMany σ post) : CI l D cI (wM cI q) y_M_wayMany b_M_wayMany 4 .int rm_M_wayMany [.ref (q 0)] σ post := by
  refine CI_of (by decide) (Nat.le_of_ble_eq_true rfl) ?_
  intro Z hZl hZD hZI X hR
  subst hZl; subst hZD; subst hZI
  unfold wp_M_wayMany at hw
  show VV Z 0 0 (wM (zI Z) q σ) [(0, .ref (q 0))] 0 []
  refine x_iconst (pc := 0) (v := 0) X d_M_wayMany_0 (by decide) ?_
  refine x_istore_n (pc := 1) (lv' := [(0, .ref (q 0)), (1, .int 0)]) X d_M_wayMany_1 (by decide) [1, 0] rfl ?_
  refine x_iconst (pc := 2) (v := 0) X d_M_wayMany_2 (by decide) ?_
  refine x_istore_n (pc := 3) (lv' := [(0, .ref (q 0)), (1, .int 0), (2, .int 0)]) X d_M_wayMany_3 (by decide) [1, 2, 0] rfl ?_
  obtain ⟨n2, hw⟩ := hw
  exact wL_M_wayMany_4 X hR n2 0 0 σ hw
def rm_M_somewhere : Room := { frames := 1, cells := 0, slots := 0, locals := 23 }
set_option maxHeartbeats 4000000 in
set_option maxRecDepth 100000 in
theorem wL_M_somewhere_14 {Z : ZT} {q : Nat → Nat} {post : Int32 → St → Prop} {K : Int32 → Int32 → St → Prop} (X : Cx Z "WayTableModel" b_M_somewhere rm_M_somewhere 4) (hR : RI Z b_M_somewhere .int (wM (zI Z) q) post) (hK : ∀ (x1 x2 : Int32) (σ : St), K x1 x2 σ → VV Z 0 0 (wM (zI Z) q σ) [(0, .ref (q 0)), (1, .int x1), (2, .int x2)] 4 []) : ∀ (n : Nat) (x1 x2 x3 : Int32) (σ : St), L_M_somewhere_14 post K n x1 x2 x3 σ → VV Z 0 0 (wM (zI Z) q σ) [(0, .ref (q 0)), (1, .int x1), (2, .int x2), (3, .int x3)] 14 [] := by
  intro n
  induction n with
  | zero => intro x1 x2 x3 σ hw; exact False.elim hw
  | succ n ih =>
    intro x1 x2 x3 σ hw
    unfold L_M_somewhere_14 at hw
    refine x_iload_n (pc := 14) X d_M_somewhere_14 3 rfl ?_
    refine x_aload_n (pc := 15) X d_M_somewhere_15 0 rfl ?_
    refine x_get (pc := 16) X tb_M 0 6 (by decide) mw_79 (atM_0 _ _ _) rfl d_M_somewhere_16 ?_
    refine x_icmp_ge (pc := 19) (tgt := 45) X d_M_somewhere_19 (by decide) (fun c => ?_) (fun c => ?_)
    · have hw := hw.1 c
      refine x_iinc (pc := 45) (d := 1) (lv' := [(0, .ref (q 0)), (1, .int x1), (2, .int (x2 + 1)), (3, .int x3)]) X d_M_somewhere_45 2 rfl (by decide) (by decide) [1, 2, 0, 3] rfl ?_
      refine x_goto (pc := 48) (tgt := 4) X d_M_somewhere_48 (by decide) ?_
      refine x_drop [0, 1, 2] rfl ?_
      exact hK x1 (x2 + 1) σ hw
    · have hw := hw.2 c
      refine x_iload_n (pc := 22) X d_M_somewhere_22 1 rfl ?_
      refine x_aload_n (pc := 23) X d_M_somewhere_23 0 rfl ?_
      refine x_iload_n (pc := 24) X d_M_somewhere_24 2 rfl ?_
      refine x_iload_n (pc := 25) X d_M_somewhere_25 3 rfl ?_
      refine x_cvi (pc := 26) X [.int x2, .int x3] (c_M_next (zl Z) (zD Z) (zI Z) q σ x2 x3 _ hw) mv_M_next tb_M 0 (atM_0 _ _ _) mw_94 d_M_somewhere_26 rfl (Nat.le_of_ble_eq_true rfl) ⟨Nat.le_of_ble_eq_true rfl, Nat.le_of_ble_eq_true rfl⟩ ⟨rfl, rfl⟩ ⟨Nat.zero_le _, Nat.zero_le _⟩ ?_
      intro r1 σ1 hw
      refine x_if_lt (pc := 29) (tgt := 36) X d_M_somewhere_29 (by decide) (fun c => ?_) (fun c => ?_)
      · have hw := hw.1 c
        refine x_iconst (pc := 36) (v := 0) X d_M_somewhere_36 (by decide) ?_
        refine x_iadd (pc := 37) X d_M_somewhere_37 ?_
        refine x_istore_n (pc := 38) (lv' := [(0, .ref (q 0)), (1, .int (x1 + 0)), (2, .int x2), (3, .int x3)]) X d_M_somewhere_38 (by decide) [1, 0, 2, 3] rfl ?_
        refine x_iinc (pc := 39) (d := 1) (lv' := [(0, .ref (q 0)), (1, .int (x1 + 0)), (2, .int x2), (3, .int (x3 + 1))]) X d_M_somewhere_39 3 rfl (by decide) (by decide) [1, 2, 3, 0] rfl ?_
        refine x_goto (pc := 42) (tgt := 14) X d_M_somewhere_42 (by decide) ?_
        exact ih (x1 + 0) x2 (x3 + 1) σ1 hw
      · have hw := hw.2 c
        refine x_iconst (pc := 32) (v := 1) X d_M_somewhere_32 (by decide) ?_
        refine x_goto (pc := 33) (tgt := 37) X d_M_somewhere_33 (by decide) ?_
        refine x_iadd (pc := 37) X d_M_somewhere_37 ?_
        refine x_istore_n (pc := 38) (lv' := [(0, .ref (q 0)), (1, .int (x1 + 1)), (2, .int x2), (3, .int x3)]) X d_M_somewhere_38 (by decide) [1, 0, 2, 3] rfl ?_
        refine x_iinc (pc := 39) (d := 1) (lv' := [(0, .ref (q 0)), (1, .int (x1 + 1)), (2, .int x2), (3, .int (x3 + 1))]) X d_M_somewhere_39 3 rfl (by decide) (by decide) [1, 2, 3, 0] rfl ?_
        refine x_goto (pc := 42) (tgt := 14) X d_M_somewhere_42 (by decide) ?_
        exact ih (x1 + 1) x2 (x3 + 1) σ1 hw
set_option maxHeartbeats 4000000 in
set_option maxRecDepth 100000 in
theorem wL_M_somewhere_4 {Z : ZT} {q : Nat → Nat} {post : Int32 → St → Prop} (X : Cx Z "WayTableModel" b_M_somewhere rm_M_somewhere 4) (hR : RI Z b_M_somewhere .int (wM (zI Z) q) post) : ∀ (n : Nat) (x1 x2 : Int32) (σ : St), L_M_somewhere_4 post n x1 x2 σ → VV Z 0 0 (wM (zI Z) q σ) [(0, .ref (q 0)), (1, .int x1), (2, .int x2)] 4 [] := by
  intro n
  induction n with
  | zero => intro x1 x2 σ hw; exact False.elim hw
  | succ n ih =>
    intro x1 x2 σ hw
    unfold L_M_somewhere_4 at hw
    refine x_iload_n (pc := 4) X d_M_somewhere_4 2 rfl ?_
    refine x_aload_n (pc := 5) X d_M_somewhere_5 0 rfl ?_
    refine x_get (pc := 6) X tb_M 0 13 (by decide) mw_86 (atM_0 _ _ _) rfl d_M_somewhere_6 ?_
    refine x_icmp_ge (pc := 9) (tgt := 51) X d_M_somewhere_9 (by decide) (fun c => ?_) (fun c => ?_)
    · have hw := hw.1 c
      refine x_iload_n (pc := 51) X d_M_somewhere_51 1 rfl ?_
      exact hR _ _ _ _ d_M_somewhere_52 (vp_nar_int _) hw
    · have hw := hw.2 c
      refine x_iconst (pc := 12) (v := 0) X d_M_somewhere_12 (by decide) ?_
      refine x_istore_n (pc := 13) (lv' := [(0, .ref (q 0)), (1, .int x1), (2, .int x2), (3, .int 0)]) X d_M_somewhere_13 (by decide) [1, 2, 3, 0] rfl ?_
      obtain ⟨n2, hw⟩ := hw
      exact wL_M_somewhere_14 X hR ih n2 x1 x2 0 σ hw
set_option maxHeartbeats 4000000 in
set_option maxRecDepth 100000 in
theorem c_M_somewhere (l : Launch) (D : va_G) (cI : ClassId) (q : Nat → Nat) (σ : St) (post : Int32 → St → Prop) (hw : wp_M_somewhere σ post) : CI l D cI (wM cI q) y_M_somewhere b_M_somewhere 4 .int rm_M_somewhere [.ref (q 0)] σ post := by
  refine CI_of (by decide) (Nat.le_of_ble_eq_true rfl) ?_
  intro Z hZl hZD hZI X hR
  subst hZl; subst hZD; subst hZI
  unfold wp_M_somewhere at hw
  show VV Z 0 0 (wM (zI Z) q σ) [(0, .ref (q 0))] 0 []
  refine x_iconst (pc := 0) (v := 0) X d_M_somewhere_0 (by decide) ?_
  refine x_istore_n (pc := 1) (lv' := [(0, .ref (q 0)), (1, .int 0)]) X d_M_somewhere_1 (by decide) [1, 0] rfl ?_
  refine x_iconst (pc := 2) (v := 0) X d_M_somewhere_2 (by decide) ?_
  refine x_istore_n (pc := 3) (lv' := [(0, .ref (q 0)), (1, .int 0), (2, .int 0)]) X d_M_somewhere_3 (by decide) [1, 2, 0] rfl ?_
  obtain ⟨n2, hw⟩ := hw
  exact wL_M_somewhere_4 X hR n2 0 0 σ hw
def rm_M_longest : Room := { frames := 0, cells := 0, slots := 0, locals := 0 }
set_option maxHeartbeats 4000000 in
set_option maxRecDepth 100000 in
theorem wL_M_longest_14 {Z : ZT} {q : Nat → Nat} {post : Int32 → St → Prop} {K : Int32 → Int32 → St → Prop} (X : Cx Z "WayTableModel" b_M_longest rm_M_longest 5) (hR : RI Z b_M_longest .int (wM (zI Z) q) post) (hK : ∀ (x1 x2 : Int32) (σ : St), K x1 x2 σ → VV Z 0 0 (wM (zI Z) q σ) [(0, .ref (q 0)), (1, .int x1), (2, .int x2)] 4 []) : ∀ (n : Nat) (x1 x2 x3 : Int32) (σ : St), L_M_longest_14 post K n x1 x2 x3 σ → VV Z 0 0 (wM (zI Z) q σ) [(0, .ref (q 0)), (1, .int x1), (2, .int x2), (3, .int x3)] 14 [] := by
  intro n
  induction n with
  | zero => intro x1 x2 x3 σ hw; exact False.elim hw
  | succ n ih =>
    intro x1 x2 x3 σ hw
    unfold L_M_longest_14 at hw
    refine x_iload_n (pc := 14) X d_M_longest_14 3 rfl ?_
    refine x_iload_n (pc := 15) X d_M_longest_15 2 rfl ?_
    refine x_icmp_ge (pc := 16) (tgt := 61) X d_M_longest_16 (by decide) (fun c => ?_) (fun c => ?_)
    · have hw := hw.1 c
      refine x_iinc (pc := 61) (d := 1) (lv' := [(0, .ref (q 0)), (1, .int x1), (2, .int (x2 + 1)), (3, .int x3)]) X d_M_longest_61 2 rfl (by decide) (by decide) [1, 2, 0, 3] rfl ?_
      refine x_goto (pc := 64) (tgt := 4) X d_M_longest_64 (by decide) ?_
      refine x_drop [0, 1, 2] rfl ?_
      exact hK x1 (x2 + 1) σ hw
    · have hw := hw.2 c
      refine x_aload_n (pc := 19) X d_M_longest_19 0 rfl ?_
      refine x_get (pc := 20) X tb_M 0 9 (by decide) mw_80 (atM_0 _ _ _) rfl d_M_longest_20 ?_
      refine x_bipush (pc := 23) (v := (nI 120)) X d_M_longest_23 (by decide) ?_
      refine x_aload_n (pc := 25) X d_M_longest_25 0 rfl ?_
      refine x_get (pc := 26) X tb_M 0 12 (by decide) mw_85 (atM_0 _ _ _) rfl d_M_longest_26 ?_
      refine x_iload_n (pc := 29) X d_M_longest_29 2 rfl ?_
      obtain ⟨h1, hw⟩ := hw
      refine x_iald (pc := 30) X 7 (atM_7 _ _ _) h1 d_M_longest_30 ?_
      refine x_imul (pc := 31) X d_M_longest_31 ?_
      refine x_aload_n (pc := 32) X d_M_longest_32 0 rfl ?_
      refine x_get (pc := 33) X tb_M 0 12 (by decide) mw_85 (atM_0 _ _ _) rfl d_M_longest_33 ?_
      refine x_iload_n (pc := 36) X d_M_longest_36 3 rfl ?_
      obtain ⟨h2, hw⟩ := hw
      refine x_iald (pc := 37) X 7 (atM_7 _ _ _) h2 d_M_longest_37 ?_
      refine x_iadd (pc := 38) X d_M_longest_38 ?_
      obtain ⟨h3, hw⟩ := hw
      refine x_iald (pc := 39) X 4 (atM_4 _ _ _) h3 d_M_longest_39 ?_
      refine x_istore (pc := 40) (lv' := [(0, .ref (q 0)), (1, .int x1), (2, .int x2), (3, .int x3), (4, .int (σ.2 3 (((nI 120) * (σ.2 6 x2.toNatClampNeg)) + (σ.2 6 x3.toNatClampNeg)).toNatClampNeg))]) X d_M_longest_40 (by decide) [1, 2, 3, 4, 0] rfl ?_
      refine x_iload (pc := 42) X d_M_longest_42 4 rfl ?_
      refine x_iload_n (pc := 44) X d_M_longest_44 1 rfl ?_
      refine x_icmp_le (pc := 45) (tgt := 53) X d_M_longest_45 (by decide) (fun c => ?_) (fun c => ?_)
      · have hw := hw.1 c
        refine x_iload_n (pc := 53) X d_M_longest_53 1 rfl ?_
        refine x_istore_n (pc := 54) (lv' := [(0, .ref (q 0)), (1, .int x1), (2, .int x2), (3, .int x3), (4, .int (σ.2 3 (((nI 120) * (σ.2 6 x2.toNatClampNeg)) + (σ.2 6 x3.toNatClampNeg)).toNatClampNeg))]) X d_M_longest_54 (by decide) [1, 0, 2, 3, 4] rfl ?_
        refine x_iinc (pc := 55) (d := 1) (lv' := [(0, .ref (q 0)), (1, .int x1), (2, .int x2), (3, .int (x3 + 1)), (4, .int (σ.2 3 (((nI 120) * (σ.2 6 x2.toNatClampNeg)) + (σ.2 6 x3.toNatClampNeg)).toNatClampNeg))]) X d_M_longest_55 3 rfl (by decide) (by decide) [1, 2, 3, 0, 4] rfl ?_
        refine x_goto (pc := 58) (tgt := 14) X d_M_longest_58 (by decide) ?_
        refine x_drop [0, 1, 2, 3] rfl ?_
        exact ih x1 x2 (x3 + 1) σ hw
      · have hw := hw.2 c
        refine x_iload (pc := 48) X d_M_longest_48 4 rfl ?_
        refine x_goto (pc := 50) (tgt := 54) X d_M_longest_50 (by decide) ?_
        refine x_istore_n (pc := 54) (lv' := [(0, .ref (q 0)), (1, .int (σ.2 3 (((nI 120) * (σ.2 6 x2.toNatClampNeg)) + (σ.2 6 x3.toNatClampNeg)).toNatClampNeg)), (2, .int x2), (3, .int x3), (4, .int (σ.2 3 (((nI 120) * (σ.2 6 x2.toNatClampNeg)) + (σ.2 6 x3.toNatClampNeg)).toNatClampNeg))]) X d_M_longest_54 (by decide) [1, 0, 2, 3, 4] rfl ?_
        refine x_iinc (pc := 55) (d := 1) (lv' := [(0, .ref (q 0)), (1, .int (σ.2 3 (((nI 120) * (σ.2 6 x2.toNatClampNeg)) + (σ.2 6 x3.toNatClampNeg)).toNatClampNeg)), (2, .int x2), (3, .int (x3 + 1)), (4, .int (σ.2 3 (((nI 120) * (σ.2 6 x2.toNatClampNeg)) + (σ.2 6 x3.toNatClampNeg)).toNatClampNeg))]) X d_M_longest_55 3 rfl (by decide) (by decide) [1, 2, 3, 0, 4] rfl ?_
        refine x_goto (pc := 58) (tgt := 14) X d_M_longest_58 (by decide) ?_
        refine x_drop [0, 1, 2, 3] rfl ?_
        exact ih (σ.2 3 (((nI 120) * (σ.2 6 x2.toNatClampNeg)) + (σ.2 6 x3.toNatClampNeg)).toNatClampNeg) x2 (x3 + 1) σ hw
set_option maxHeartbeats 4000000 in
set_option maxRecDepth 100000 in
theorem wL_M_longest_4 {Z : ZT} {q : Nat → Nat} {post : Int32 → St → Prop} (X : Cx Z "WayTableModel" b_M_longest rm_M_longest 5) (hR : RI Z b_M_longest .int (wM (zI Z) q) post) : ∀ (n : Nat) (x1 x2 : Int32) (σ : St), L_M_longest_4 post n x1 x2 σ → VV Z 0 0 (wM (zI Z) q σ) [(0, .ref (q 0)), (1, .int x1), (2, .int x2)] 4 [] := by
  intro n
  induction n with
  | zero => intro x1 x2 σ hw; exact False.elim hw
  | succ n ih =>
    intro x1 x2 σ hw
    unfold L_M_longest_4 at hw
    refine x_iload_n (pc := 4) X d_M_longest_4 2 rfl ?_
    refine x_aload_n (pc := 5) X d_M_longest_5 0 rfl ?_
    refine x_get (pc := 6) X tb_M 0 13 (by decide) mw_86 (atM_0 _ _ _) rfl d_M_longest_6 ?_
    refine x_icmp_ge (pc := 9) (tgt := 67) X d_M_longest_9 (by decide) (fun c => ?_) (fun c => ?_)
    · have hw := hw.1 c
      refine x_iload_n (pc := 67) X d_M_longest_67 1 rfl ?_
      exact hR _ _ _ _ d_M_longest_68 (vp_nar_int _) hw
    · have hw := hw.2 c
      refine x_iconst (pc := 12) (v := 0) X d_M_longest_12 (by decide) ?_
      refine x_istore_n (pc := 13) (lv' := [(0, .ref (q 0)), (1, .int x1), (2, .int x2), (3, .int 0)]) X d_M_longest_13 (by decide) [1, 2, 3, 0] rfl ?_
      obtain ⟨n2, hw⟩ := hw
      exact wL_M_longest_14 X hR ih n2 x1 x2 0 σ hw
set_option maxHeartbeats 4000000 in
set_option maxRecDepth 100000 in
theorem c_M_longest (l : Launch) (D : va_G) (cI : ClassId) (q : Nat → Nat) (σ : St) (post : Int32 → St → Prop) (hw : wp_M_longest σ post) : CI l D cI (wM cI q) y_M_longest b_M_longest 5 .int rm_M_longest [.ref (q 0)] σ post := by
  refine CI_of (by decide) (Nat.le_of_ble_eq_true rfl) ?_
  intro Z hZl hZD hZI X hR
  subst hZl; subst hZD; subst hZI
  unfold wp_M_longest at hw
  show VV Z 0 0 (wM (zI Z) q σ) [(0, .ref (q 0))] 0 []
  refine x_iconst (pc := 0) (v := 0) X d_M_longest_0 (by decide) ?_
  refine x_istore_n (pc := 1) (lv' := [(0, .ref (q 0)), (1, .int 0)]) X d_M_longest_1 (by decide) [1, 0] rfl ?_
  refine x_iconst (pc := 2) (v := 0) X d_M_longest_2 (by decide) ?_
  refine x_istore_n (pc := 3) (lv' := [(0, .ref (q 0)), (1, .int 0), (2, .int 0)]) X d_M_longest_3 (by decide) [1, 2, 0] rfl ?_
  obtain ⟨n2, hw⟩ := hw
  exact wL_M_longest_4 X hR n2 0 0 σ hw
def rm_M_look : Room := { frames := 2, cells := 0, slots := 0, locals := 46 }
set_option maxHeartbeats 4000000 in
set_option maxRecDepth 100000 in
theorem c_M_look (l : Launch) (D : va_G) (cI : ClassId) (q : Nat → Nat) (σ : St) (x1 : Int32) (post : Int32 → St → Prop) (hw : wp_M_look x1 σ post) : CI l D cI (wM cI q) y_M_look b_M_look 2 .int rm_M_look [.ref (q 0), .int x1] σ post := by
  refine CI_of (by decide) (Nat.le_of_ble_eq_true rfl) ?_
  intro Z hZl hZD hZI X hR
  subst hZl; subst hZD; subst hZI
  unfold wp_M_look at hw
  show VV Z 0 0 (wM (zI Z) q σ) [(0, .ref (q 0)), (1, .int x1)] 0 []
  refine x_aload_n (pc := 0) X d_M_look_0 0 rfl ?_
  refine x_iconst (pc := 1) (v := 0) X d_M_look_1 (by decide) ?_
  refine x_put (pc := 2) (ws' := (wM (zI Z) q (us σ 0 0))) X tb_M 0 0 (by decide) mw_7 (atM_0 _ _ _) rfl pI (Nat.le_of_ble_eq_true rfl) (ptM_0 _ _ _ _) d_M_look_2 ?_
  refine x_iload_n (pc := 5) X d_M_look_5 1 rfl ?_
  refine x_table (pc := 6) (N := 10) (dt := 110) X (fun j => [60, 65, 70, 75, 80, 85, 90, 95, 100, 105].getD j 0) d_M_look_6 (by decide) (by decide) (by decide) (by decide) (fun j hj hx => ?_) (fun hx => ?_)
  · rcases (show j = 0 ∨ j = 1 ∨ j = 2 ∨ j = 3 ∨ j = 4 ∨ j = 5 ∨ j = 6 ∨ j = 7 ∨ j = 8 ∨ j = 9 by omega) with rfl | rfl | rfl | rfl | rfl | rfl | rfl | rfl | rfl | rfl
    · have hw := hw.1 hx
      show VV Z 0 0 (wM (zI Z) q (us σ 0 0)) [(0, .ref (q 0)), (1, .int x1)] 60 []
      refine x_aload_n (pc := 60) X d_M_look_60 0 rfl ?_
      refine x_get (pc := 61) X tb_M 0 1 (by decide) mw_8 (atM_0 _ _ _) rfl d_M_look_61 ?_
      exact hR _ _ _ _ d_M_look_64 (vp_nar_int _) hw
    · have hw := hw.2.1 hx
      show VV Z 0 0 (wM (zI Z) q (us σ 0 0)) [(0, .ref (q 0)), (1, .int x1)] 65 []
      refine x_aload_n (pc := 65) X d_M_look_65 0 rfl ?_
      refine x_get (pc := 66) X tb_M 0 2 (by decide) mw_9 (atM_0 _ _ _) rfl d_M_look_66 ?_
      exact hR _ _ _ _ d_M_look_69 (vp_nar_int _) hw
    · have hw := hw.2.2.1 hx
      show VV Z 0 0 (wM (zI Z) q (us σ 0 0)) [(0, .ref (q 0)), (1, .int x1)] 70 []
      refine x_aload_n (pc := 70) X d_M_look_70 0 rfl ?_
      refine x_cvi (pc := 71) X [] (c_M_wayMany (zl Z) (zD Z) (zI Z) q (us σ 0 0) _ hw) mv_M_wayMany tb_M 0 (atM_0 _ _ _) mw_115 d_M_look_71 rfl (Nat.le_of_ble_eq_true rfl) ⟨Nat.le_of_ble_eq_true rfl, Nat.le_of_ble_eq_true rfl⟩ ⟨rfl, rfl⟩ ⟨Nat.zero_le _, Nat.zero_le _⟩ ?_
      intro r1 σ1 hw
      exact hR _ _ _ _ d_M_look_74 (vp_nar_int _) hw
    · have hw := hw.2.2.2.1 hx
      show VV Z 0 0 (wM (zI Z) q (us σ 0 0)) [(0, .ref (q 0)), (1, .int x1)] 75 []
      refine x_aload_n (pc := 75) X d_M_look_75 0 rfl ?_
      refine x_get (pc := 76) X tb_M 0 3 (by decide) mw_10 (atM_0 _ _ _) rfl d_M_look_76 ?_
      exact hR _ _ _ _ d_M_look_79 (vp_nar_int _) hw
    · have hw := hw.2.2.2.2.1 hx
      show VV Z 0 0 (wM (zI Z) q (us σ 0 0)) [(0, .ref (q 0)), (1, .int x1)] 80 []
      refine x_aload_n (pc := 80) X d_M_look_80 0 rfl ?_
      refine x_get (pc := 81) X tb_M 0 5 (by decide) mw_78 (atM_0 _ _ _) rfl d_M_look_81 ?_
      exact hR _ _ _ _ d_M_look_84 (vp_nar_int _) hw
    · have hw := hw.2.2.2.2.2.1 hx
      show VV Z 0 0 (wM (zI Z) q (us σ 0 0)) [(0, .ref (q 0)), (1, .int x1)] 85 []
      refine x_aload_n (pc := 85) X d_M_look_85 0 rfl ?_
      refine x_get (pc := 86) X tb_M 0 13 (by decide) mw_86 (atM_0 _ _ _) rfl d_M_look_86 ?_
      exact hR _ _ _ _ d_M_look_89 (vp_nar_int _) hw
    · have hw := hw.2.2.2.2.2.2.1 hx
      show VV Z 0 0 (wM (zI Z) q (us σ 0 0)) [(0, .ref (q 0)), (1, .int x1)] 90 []
      refine x_aload_n (pc := 90) X d_M_look_90 0 rfl ?_
      refine x_get (pc := 91) X tb_M 0 6 (by decide) mw_79 (atM_0 _ _ _) rfl d_M_look_91 ?_
      exact hR _ _ _ _ d_M_look_94 (vp_nar_int _) hw
    · have hw := hw.2.2.2.2.2.2.2.1 hx
      show VV Z 0 0 (wM (zI Z) q (us σ 0 0)) [(0, .ref (q 0)), (1, .int x1)] 95 []
      refine x_aload_n (pc := 95) X d_M_look_95 0 rfl ?_
      refine x_cvi (pc := 96) X [] (c_M_somewhere (zl Z) (zD Z) (zI Z) q (us σ 0 0) _ hw) mv_M_somewhere tb_M 0 (atM_0 _ _ _) mw_116 d_M_look_96 rfl (Nat.le_of_ble_eq_true rfl) ⟨Nat.le_of_ble_eq_true rfl, Nat.le_of_ble_eq_true rfl⟩ ⟨rfl, rfl⟩ ⟨Nat.zero_le _, Nat.zero_le _⟩ ?_
      intro r2 σ2 hw
      exact hR _ _ _ _ d_M_look_99 (vp_nar_int _) hw
    · have hw := hw.2.2.2.2.2.2.2.2.1 hx
      show VV Z 0 0 (wM (zI Z) q (us σ 0 0)) [(0, .ref (q 0)), (1, .int x1)] 100 []
      refine x_aload_n (pc := 100) X d_M_look_100 0 rfl ?_
      refine x_cvi (pc := 101) X [] (c_M_longest (zl Z) (zD Z) (zI Z) q (us σ 0 0) _ hw) mv_M_longest tb_M 0 (atM_0 _ _ _) mw_117 d_M_look_101 rfl (Nat.le_of_ble_eq_true rfl) ⟨Nat.le_of_ble_eq_true rfl, Nat.le_of_ble_eq_true rfl⟩ ⟨rfl, rfl⟩ ⟨Nat.zero_le _, Nat.zero_le _⟩ ?_
      intro r3 σ3 hw
      exact hR _ _ _ _ d_M_look_104 (vp_nar_int _) hw
    · have hw := hw.2.2.2.2.2.2.2.2.2.1 hx
      show VV Z 0 0 (wM (zI Z) q (us σ 0 0)) [(0, .ref (q 0)), (1, .int x1)] 105 []
      refine x_aload_n (pc := 105) X d_M_look_105 0 rfl ?_
      refine x_get (pc := 106) X tb_M 0 14 (by decide) mw_87 (atM_0 _ _ _) rfl d_M_look_106 ?_
      exact hR _ _ _ _ d_M_look_109 (vp_nar_int _) hw
  · have hw := hw.2.2.2.2.2.2.2.2.2.2 hx
    refine x_iconst (pc := 110) (v := (-1)) X d_M_look_110 (by decide) ?_
    exact hR _ _ _ _ d_M_look_111 (vp_nar_int _) hw
end
section
/-! BITS. The first rows are pasted from kit/laws/BITS.to-paste (Int32 by its bits). -/
def bt (x : Int32) (i : Nat) : Bool := x.toBitVec.getLsbD i
theorem b_ext {x y : Int32} (h : ∀ i, i < 32 → bt x i = bt y i) : x = y := Int32.toBitVec_inj.mp (BitVec.eq_of_getLsbD_eq (fun i hi => h i hi))
theorem b_or (x y : Int32) (i : Nat) : bt (x ||| y) i = (bt x i || bt y i) := by unfold bt; rw [Int32.toBitVec_or, BitVec.getLsbD_or]
theorem b_and (x y : Int32) (i : Nat) : bt (x &&& y) i = (bt x i && bt y i) := by unfold bt; rw [Int32.toBitVec_and, BitVec.getLsbD_and]
theorem b_xor (x y : Int32) (i : Nat) : bt (x ^^^ y) i = (bt x i ^^ bt y i) := by unfold bt; rw [Int32.toBitVec_xor, BitVec.getLsbD_xor]
theorem b_big {x : Int32} {i : Nat} (h : 32 ≤ i) : bt x i = false := BitVec.getLsbD_of_ge _ _ h
theorem b_255 (i : Nat) : bt 255 i = decide (i < 8) := by
  rcases Nat.lt_or_ge i 32 with h | h
  · exact (by decide +kernel : ∀ i, i < 32 → bt 255 i = decide (i < 8)) i h
  · rw [b_big h, decide_eq_false (by omega)]
theorem b_65535 (i : Nat) : bt 65535 i = decide (i < 16) := by
  rcases Nat.lt_or_ge i 32 with h | h
  · exact (by decide +kernel : ∀ i, i < 32 → bt 65535 i = decide (i < 16)) i h
  · rw [b_big h, decide_eq_false (by omega)]
theorem b_m1 : ∀ i, i < 32 → bt (-1) i = true := by decide +kernel
theorem b_0 (i : Nat) : bt 0 i = false := BitVec.getLsbD_zero
theorem s_l : ∀ n, n < 32 → ((nI n &&& 31).toBitVec.smod 32).toNat = n := by decide +kernel
theorem s_u : ∀ n, n < 32 → (((nI n).toUInt32 &&& Int32.toUInt32 31).toBitVec % 32).toNat = n := by decide +kernel
theorem b_shl (n : Nat) (hn : n < 32) (x : Int32) {i : Nat} (hi : i < 32) : bt (x <<< (nI n &&& 31)) i = (decide (n ≤ i) && bt x (i - n)) := by
  unfold bt
  rw [Int32.toBitVec_shiftLeft]
  show (x.toBitVec <<< ((nI n &&& 31).toBitVec.smod 32).toNat).getLsbD i = _
  rw [s_l n hn, BitVec.getLsbD_shiftLeft]
  rcases Nat.lt_or_ge i n with h | h
  · simp [h, Nat.not_le.mpr h]
  · simp [hi, h, Nat.not_lt.mpr h]
theorem b_ushr (n : Nat) (hn : n < 32) (x : Int32) (i : Nat) : bt ((x.toUInt32 >>> ((nI n).toUInt32 &&& Int32.toUInt32 31)).toInt32) i = bt x (n + i) := by
  show (x.toUInt32 >>> ((nI n).toUInt32 &&& Int32.toUInt32 31)).toBitVec.getLsbD i = x.toUInt32.toBitVec.getLsbD (n + i)
  rw [UInt32.toBitVec_shiftRight]
  show (x.toUInt32.toBitVec >>> (((nI n).toUInt32 &&& Int32.toUInt32 31).toBitVec % 32).toNat).getLsbD i = _
  rw [s_u n hn, BitVec.getLsbD_ushiftRight]
theorem b_sshr (n : Nat) (hn : n < 32) (x : Int32) {i : Nat} (hi : i < 32) : bt (x >>> (nI n &&& 31)) i = if n + i < 32 then bt x (n + i) else bt x 31 := by
  unfold bt
  rw [Int32.toBitVec_shiftRight]
  show (x.toBitVec.sshiftRight ((nI n &&& 31).toBitVec.smod 32).toNat).getLsbD i = _
  rw [s_l n hn, BitVec.getLsbD_sshiftRight, BitVec.msb_eq_getLsbD_last]
  simp [hi]
theorem b_shl8 (x : Int32) {i : Nat} (hi : i < 32) : bt (x <<< ((8 : Int32) &&& 31)) i = (decide (8 ≤ i) && bt x (i - 8)) := b_shl 8 (by omega) x hi
theorem b_shl16 (x : Int32) {i : Nat} (hi : i < 32) : bt (x <<< ((16 : Int32) &&& 31)) i = (decide (16 ≤ i) && bt x (i - 16)) := b_shl 16 (by omega) x hi
theorem b_shl24 (x : Int32) {i : Nat} (hi : i < 32) : bt (x <<< ((24 : Int32) &&& 31)) i = (decide (24 ≤ i) && bt x (i - 24)) := b_shl 24 (by omega) x hi
theorem b_sshr8 (x : Int32) {i : Nat} (hi : i < 32) : bt (x >>> ((8 : Int32) &&& 31)) i = if 8 + i < 32 then bt x (8 + i) else bt x 31 := b_sshr 8 (by omega) x hi
def bI (b : Bool) : Int32 := if b then 1 else 0
theorem b_1 : ∀ i, i < 32 → bt 1 i = decide (i = 0) := by decide +kernel
theorem bI_bt : ∀ (b : Bool) (i : Nat), i < 32 → bt (bI b) i = (b && decide (i = 0)) := by
  intro b i hi
  cases b
  · show bt 0 i = _
    rw [b_0]; rfl
  · show bt 1 i = _
    rw [b_1 i hi]; simp
theorem u_bit (x : Int32) {t : Nat} (ht : t < 32) : ush x (nI t) &&& 1 = bI (bt x t) := by
  apply b_ext
  intro i hi
  rw [b_and, bI_bt _ i hi, b_1 i hi]
  have e : bt (ush x (nI t)) i = bt x (t + i) := b_ushr t ht x i
  rw [e]
  by_cases h : i = 0
  · subst h; simp
  · simp [h]
theorem s_bit (x : Int32) {t : Nat} (ht : t < 32) : (x >>> (nI t &&& 31)) &&& 1 = bI (bt x t) := by
  apply b_ext
  intro i hi
  rw [b_and, bI_bt _ i hi, b_1 i hi, b_sshr t ht x hi]
  by_cases h : i = 0
  · subst h; simp [ht]
  · simp [h]
theorem b_one {t : Nat} (ht : t < 32) {i : Nat} (hi : i < 32) : bt ((1 : Int32) <<< (nI t &&& 31)) i = decide (i = t) := by
  rw [b_shl t ht 1 hi]
  by_cases h : t ≤ i
  · rw [b_1 (i - t) (by omega)]
    by_cases e : i = t
    · subst e; simp
    · have : ¬ i - t = 0 := by omega
      simp [this, e]
  · have : ¬ i = t := by omega
    simp [h, this]
theorem b_flip (x : Int32) {t : Nat} (ht : t < 32) {i : Nat} (hi : i < 32) : bt (x ^^^ ((1 : Int32) <<< (nI t &&& 31))) i = (bt x i ^^ decide (i = t)) := by
  rw [b_xor, b_one ht hi]
theorem bI_0 (b : Bool) : bI b = 0 ↔ b = false := by cases b <;> decide
theorem bI_1 (b : Bool) : bI b = 1 ↔ b = true := by cases b <;> decide
theorem bI_inj {a b : Bool} : bI a = bI b ↔ a = b := by cases a <;> cases b <;> decide
theorem bI_zb (b : Bool) : zb (bI b) := by cases b <;> rfl
theorem one_ne : ¬ (1 : Int32) = 0 := by decide
/-- an index: below N, or not -/
def okb (x : Int32) (N : Nat) : Bool := !(decide (x < 0) || decide (N ≤ x.toNatClampNeg))
theorem okb_in {x : Int32} {N : Nat} : okb x N = true ↔ vp_in x N := by
  unfold okb vp_in
  by_cases a : x < 0 <;> by_cases b : N ≤ x.toNatClampNeg <;> simp [a, b]
theorem okb_ex {x : Int32} {N : Nat} (hN : N < 2 ^ 31) (h : okb x N = true) : ∃ j, j < N ∧ x = nI j := vp_in_of (okb_in.mp h) hN
theorem okb_nI {j N : Nat} (hj : j < N) (hN : N < 2 ^ 31) : okb (nI j) N = true := okb_in.mpr (vp_in_nI hj hN)
theorem okb_neg {x : Int32} {N : Nat} (h : x < 0) : okb x N = false := by unfold okb; simp [h]
theorem okb_ge {x : Int32} {N : Nat} (hN : N < 2 ^ 31) (h : nI N ≤ x) : okb x N = false := by
  by_cases h0 : x < 0
  · exact okb_neg h0
  · obtain ⟨j, hj, e⟩ := nI_of h0
    subst e
    have : N ≤ j := (nI_leI hN hj).mp h
    unfold okb
    rw [nI_clamp hj]
    simp [this]
theorem okb_lt {x : Int32} {N : Nat} (hN : N < 2 ^ 31) (h0 : ¬ x < 0) (h : ¬ nI N ≤ x) : okb x N = true := by
  obtain ⟨j, hj, e⟩ := nI_of h0
  subst e
  exact okb_nI (by rcases Nat.lt_or_ge j N with z | z; exact z; exact absurd ((nI_leI hN hj).mpr z) h) hN
end
section
/-! MATHEMATICS 1: sets told apart by rows of letters. δ s l: where letter l leads from set s; eqv k s t: no row of at most k letters tells s and t apart. -/
def sim (e : Nat → Nat → Prop) : Option Nat → Option Nat → Prop
  | none, none => True
  | some a, some b => e a b
  | _, _ => False
theorem sim_mono {e e' : Nat → Nat → Prop} (h : ∀ a b, e a b → e' a b) : ∀ {x y : Option Nat}, sim e x y → sim e' x y := by
  intro x y hs
  cases x <;> cases y <;> first | exact hs | exact h _ _ hs
theorem sim_symm {e : Nat → Nat → Prop} (h : ∀ a b, e a b → e b a) : ∀ {x y : Option Nat}, sim e x y → sim e y x := by
  intro x y hs
  cases x <;> cases y <;> first | exact hs | exact h _ _ hs
theorem sim_trans {e : Nat → Nat → Prop} (h : ∀ a b c, e a b → e b c → e a c) : ∀ {x y z : Option Nat}, sim e x y → sim e y z → sim e x z := by
  intro x y z hs ht
  cases x <;> cases y <;> cases z <;> first | exact trivial | exact False.elim hs | exact False.elim ht | exact h _ _ _ hs ht
section MQ
variable (Lt : Nat) (δ : Nat → Nat → Option Nat)
def eqv : Nat → Nat → Nat → Prop
  | 0, _, _ => True
  | k + 1, s, t => eqv k s t ∧ ∀ l, l < Lt → sim (eqv k) (δ s l) (δ t l)
theorem eqv_refl : ∀ (k s : Nat), eqv Lt δ k s s := by
  intro k
  induction k with
  | zero => intro s; exact trivial
  | succ k ih =>
    intro s
    refine ⟨ih s, fun l _ => ?_⟩
    cases δ s l with
    | none => exact trivial
    | some a => exact ih a
theorem eqv_symm : ∀ (k : Nat) {s t : Nat}, eqv Lt δ k s t → eqv Lt δ k t s := by
  intro k
  induction k with
  | zero => intro s t _; exact trivial
  | succ k ih =>
    intro s t h
    exact ⟨ih h.1, fun l hl => sim_symm (e := eqv Lt δ k) (fun a b k1 => ih k1) (h.2 l hl)⟩
theorem eqv_trans : ∀ (k : Nat) {s t u : Nat}, eqv Lt δ k s t → eqv Lt δ k t u → eqv Lt δ k s u := by
  intro k
  induction k with
  | zero => intro s t u _ _; exact trivial
  | succ k ih =>
    intro s t u h h'
    exact ⟨ih h.1 h'.1, fun l hl => sim_trans (e := eqv Lt δ k) (fun a b c k1 k2 => ih k1 k2) (h.2 l hl) (h'.2 l hl)⟩
theorem eqv_le : ∀ {j k : Nat}, j ≤ k → ∀ {s t : Nat}, eqv Lt δ k s t → eqv Lt δ j s t := by
  intro j k hjk
  induction hjk with
  | refl => intro s t h; exact h
  | step _ ih => intro s t h; exact ih h.1
/-- the length of the least row that tells s and t apart; 0: none does -/
noncomputable def dst (s t : Nat) : Nat := by
  classical exact if h : ∃ k, ¬ eqv Lt δ k s t then (pk_least _ h).choose else 0
theorem dst_0 {s t : Nat} (h : ∀ k, eqv Lt δ k s t) : dst Lt δ s t = 0 := by
  unfold dst
  rw [dif_neg]
  rintro ⟨k, hk⟩
  exact hk (h k)
theorem dst_n {s t k : Nat} (h : ¬ eqv Lt δ k s t) : 0 < dst Lt δ s t ∧ dst Lt δ s t ≤ k ∧ ¬ eqv Lt δ (dst Lt δ s t) s t ∧ ∀ j, j < dst Lt δ s t → eqv Lt δ j s t := by
  have hx : ∃ k, ¬ eqv Lt δ k s t := ⟨k, h⟩
  have e : dst Lt δ s t = (pk_least _ hx).choose := by
    unfold dst
    rw [dif_pos hx]
  obtain ⟨h1, h2⟩ := (pk_least _ hx).choose_spec
  rw [← e] at h1 h2
  refine ⟨?_, ?_, h1, fun j hj => Classical.not_not.mp (h2 j hj)⟩
  · rcases Nat.eq_zero_or_pos (dst Lt δ s t) with z | z
    · rw [z] at h1
      exact absurd trivial h1
    · exact z
  · rcases Nat.lt_or_ge k (dst Lt δ s t) with z | z
    · exact absurd h (h2 k z)
    · exact z
theorem dst_is {s t r : Nat} (h1 : eqv Lt δ r s t) (h2 : ¬ eqv Lt δ (r + 1) s t) : dst Lt δ s t = r + 1 := by
  obtain ⟨_, a2, a3, _⟩ := dst_n Lt δ h2
  rcases Nat.lt_or_ge r (dst Lt δ s t) with z | z
  · omega
  · exact absurd (eqv_le Lt δ z h1) a3
theorem dst_iff {s t r : Nat} : (0 < dst Lt δ s t ∧ dst Lt δ s t ≤ r) ↔ ¬ eqv Lt δ r s t := by
  constructor
  · rintro ⟨h1, h2⟩ h
    by_cases hx : ∃ k, ¬ eqv Lt δ k s t
    · obtain ⟨k, hk⟩ := hx
      obtain ⟨_, _, a3, _⟩ := dst_n Lt δ hk
      exact a3 (eqv_le Lt δ h2 h)
    · have := dst_0 Lt δ (s := s) (t := t) (fun k => Classical.not_not.mp (fun z => hx ⟨k, z⟩))
      omega
  · intro h
    exact ⟨(dst_n Lt δ h).1, (dst_n Lt δ h).2.1⟩
theorem dst_inv {s t r : Nat} (h : dst Lt δ s t = r + 1) : eqv Lt δ r s t ∧ ¬ eqv Lt δ (r + 1) s t := by
  have h1 : ¬ eqv Lt δ (r + 1) s t := (dst_iff Lt δ).mp ⟨by omega, by omega⟩
  refine ⟨?_, h1⟩
  rcases Classical.em (eqv Lt δ r s t) with z | z
  · exact z
  · have := (dst_iff Lt δ).mpr z
    omega
theorem dst_z {s t : Nat} (h : dst Lt δ s t = 0) (k : Nat) : eqv Lt δ k s t := by
  rcases Classical.em (eqv Lt δ k s t) with z | z
  · exact z
  · have := (dst_iff Lt δ).mpr z
    omega
theorem dst_self (s : Nat) : dst Lt δ s s = 0 := dst_0 Lt δ (fun k => eqv_refl Lt δ k s)
/-- the same rows tell apart: the same length -/
theorem dst_same {s t u v : Nat} (h : ∀ k, eqv Lt δ k s t ↔ eqv Lt δ k u v) : dst Lt δ s t = dst Lt δ u v := by
  rcases Nat.eq_zero_or_pos (dst Lt δ s t) with z | z
  · rw [z]
    exact (dst_0 Lt δ (fun k => (h k).mp (dst_z Lt δ z k))).symm
  · obtain ⟨r, hr⟩ : ∃ r, dst Lt δ s t = r + 1 := ⟨dst Lt δ s t - 1, by omega⟩
    obtain ⟨h1, h2⟩ := dst_inv Lt δ hr
    rw [hr]
    exact (dst_is Lt δ ((h r).mp h1) (fun q => h2 ((h (r + 1)).mpr q))).symm
theorem dst_symm (s t : Nat) : dst Lt δ s t = dst Lt δ t s := dst_same Lt δ (fun k => ⟨eqv_symm Lt δ k, eqv_symm Lt δ k⟩)
/-- f and x are alike up to r, o is not: o is told apart from both by the same length -/
theorem dst_near {o f x r : Nat} (h : eqv Lt δ r f x) (h2 : ¬ eqv Lt δ r o f) : dst Lt δ o x = dst Lt δ o f := by
  obtain ⟨k, hk⟩ : ∃ k, dst Lt δ o f = k + 1 := ⟨dst Lt δ o f - 1, by have := (dst_n Lt δ h2).1; omega⟩
  have hle : k + 1 ≤ r := by have := (dst_n Lt δ h2).2.1; omega
  obtain ⟨a1, a2⟩ := dst_inv Lt δ hk
  rw [hk]
  refine dst_is Lt δ (eqv_trans Lt δ k a1 (eqv_le Lt δ (by omega) h)) (fun q => a2 ?_)
  exact eqv_trans Lt δ (k + 1) q (eqv_symm Lt δ _ (eqv_le Lt δ hle h))
/-- the least set that is alike up to r -/
noncomputable def ld (r s : Nat) : Nat := (pk_least (fun t => eqv Lt δ r t s) ⟨s, eqv_refl Lt δ r s⟩).choose
theorem ld_eqv (r s : Nat) : eqv Lt δ r (ld Lt δ r s) s := (pk_least (fun t => eqv Lt δ r t s) ⟨s, eqv_refl Lt δ r s⟩).choose_spec.1
theorem ld_min {r s j : Nat} (h : j < ld Lt δ r s) : ¬ eqv Lt δ r j s := (pk_least (fun t => eqv Lt δ r t s) ⟨s, eqv_refl Lt δ r s⟩).choose_spec.2 j h
theorem ld_le (r s : Nat) : ld Lt δ r s ≤ s := by
  rcases Nat.lt_or_ge s (ld Lt δ r s) with z | z
  · exact absurd (eqv_refl Lt δ r s) (ld_min Lt δ z)
  · exact z
theorem ld_lei {r s t : Nat} (h : eqv Lt δ r t s) : ld Lt δ r s ≤ t := by
  rcases Nat.lt_or_ge t (ld Lt δ r s) with z | z
  · exact absurd h (ld_min Lt δ z)
  · exact z
theorem ld_iff {r s t : Nat} : ld Lt δ r s = ld Lt δ r t ↔ eqv Lt δ r s t := by
  constructor
  · intro h
    have a := ld_eqv Lt δ r s
    rw [h] at a
    exact eqv_trans Lt δ r (eqv_symm Lt δ r a) (ld_eqv Lt δ r t)
  · intro h
    apply Nat.le_antisymm
    · exact ld_lei Lt δ (eqv_trans Lt δ r (ld_eqv Lt δ r t) (eqv_symm Lt δ r h))
    · exact ld_lei Lt δ (eqv_trans Lt δ r (ld_eqv Lt δ r s) h)
theorem ld_idem (r s : Nat) : ld Lt δ r (ld Lt δ r s) = ld Lt δ r s := (ld_iff Lt δ).mpr (ld_eqv Lt δ r s)
theorem ld_zero (s : Nat) : ld Lt δ 0 s = 0 := Nat.le_zero.mp (ld_lei Lt δ (t := 0) trivial)
theorem ld_keep {r s : Nat} (h : ld Lt δ r s = s) : ld Lt δ (r + 1) s = s := by
  apply Nat.le_antisymm (ld_le Lt δ _ _)
  have a := ld_lei Lt δ (ld_eqv Lt δ (r + 1) s).1
  omega
theorem sim_ld {r : Nat} : ∀ {x y : Option Nat}, sim (eqv Lt δ r) x y ↔ x.map (ld Lt δ r) = y.map (ld Lt δ r) := by
  intro x y
  cases x <;> cases y
  · exact ⟨fun _ => rfl, fun _ => trivial⟩
  · exact ⟨fun h => False.elim h, fun h => by simp at h⟩
  · exact ⟨fun h => False.elim h, fun h => by simp at h⟩
  · rename_i a b
    show eqv Lt δ r a b ↔ _
    simp only [Option.map_some, Option.some.injEq]
    exact (ld_iff Lt δ).symm
theorem eqv_step {r s t : Nat} : eqv Lt δ (r + 1) s t ↔ eqv Lt δ r s t ∧ ∀ l, l < Lt → (δ s l).map (ld Lt δ r) = (δ t l).map (ld Lt δ r) := by
  constructor
  · intro h
    exact ⟨h.1, fun l hl => (sim_ld Lt δ).mp (h.2 l hl)⟩
  · intro h
    exact ⟨h.1, fun l hl => (sim_ld Lt δ).mpr (h.2 l hl)⟩
/-- nothing more is told apart -/
def stb (n r : Nat) : Prop := ∀ s t, s < n → t < n → eqv Lt δ r s t → eqv Lt δ (r + 1) s t
theorem stb_all {n r : Nat} (hδ : ∀ s l a, s < n → l < Lt → δ s l = some a → a < n) (h : stb Lt δ n r) : ∀ k s t, s < n → t < n → eqv Lt δ r s t → eqv Lt δ k s t := by
  have key : ∀ j s t, s < n → t < n → eqv Lt δ r s t → eqv Lt δ (r + j) s t := by
    intro j
    induction j with
    | zero => intro s t _ _ e; exact e
    | succ j ih =>
      intro s t hs ht e
      refine ⟨ih s t hs ht e, fun l hl => ?_⟩
      have a := (h s t hs ht e).2 l hl
      cases ha : δ s l with
      | none =>
        cases hb : δ t l with
        | none => exact trivial
        | some b => rw [ha, hb] at a; exact False.elim a
      | some b =>
        cases hb : δ t l with
        | none => rw [ha, hb] at a; exact False.elim a
        | some c =>
          rw [ha, hb] at a
          exact ih b c (hδ s l b hs hl ha) (hδ t l c ht hl hb) a
  intro k s t hs ht e
  rcases Nat.le_total r k with z | z
  · have := key (k - r) s t hs ht e
    rwa [show r + (k - r) = k by omega] at this
  · exact eqv_le Lt δ z e
/-- where something more is told apart, a set becomes a leader -/
theorem nstb_new {n r : Nat} (h : ¬ stb Lt δ n r) : ∃ x, x < n ∧ ld Lt δ (r + 1) x = x ∧ ld Lt δ r x ≠ x := by
  have ⟨s, t, hs, ht, e, ne⟩ : ∃ s t, s < n ∧ t < n ∧ eqv Lt δ r s t ∧ ¬ eqv Lt δ (r + 1) s t := by
    apply Classical.byContradiction
    intro q
    apply h
    intro s t hs ht e
    apply Classical.byContradiction
    intro z
    exact q ⟨s, t, hs, ht, e, z⟩
  have a1 := ld_idem Lt δ (r + 1) s
  have b1 := ld_idem Lt δ (r + 1) t
  have hab : eqv Lt δ r (ld Lt δ (r + 1) s) (ld Lt δ (r + 1) t) := eqv_trans Lt δ r (ld_eqv Lt δ (r + 1) s).1 (eqv_trans Lt δ r e (eqv_symm Lt δ r (ld_eqv Lt δ (r + 1) t).1))
  have hl := (ld_iff Lt δ).mpr hab
  rcases Classical.em (ld Lt δ r (ld Lt δ (r + 1) s) = ld Lt δ (r + 1) s) with z | z
  · rcases Classical.em (ld Lt δ r (ld Lt δ (r + 1) t) = ld Lt δ (r + 1) t) with z' | z'
    · exact absurd ((ld_iff Lt δ).mp (z.symm.trans (hl.trans z'))) ne
    · exact ⟨_, Nat.lt_of_le_of_lt (ld_le Lt δ _ _) ht, b1, z'⟩
  · exact ⟨_, Nat.lt_of_le_of_lt (ld_le Lt δ _ _) hs, a1, z⟩
theorem new_nstb {n r x : Nat} (hx : x < n) (h1 : ld Lt δ (r + 1) x = x) (h2 : ld Lt δ r x ≠ x) : ¬ stb Lt δ n r := by
  intro h
  have hl : ld Lt δ r x < x := by have := ld_le Lt δ r x; omega
  have a := h (ld Lt δ r x) x (by omega) hx (ld_eqv Lt δ r x)
  have b := ld_lei Lt δ a
  omega
/-- how many leaders -/
noncomputable def nld (r : Nat) : Nat → Nat
  | 0 => 0
  | m + 1 => nld r m + if ld Lt δ r m = m then 1 else 0
theorem nld_le (r m : Nat) : nld Lt δ r m ≤ m := by
  induction m with
  | zero => exact Nat.le_refl 0
  | succ m ih =>
    show nld Lt δ r m + _ ≤ m + 1
    split <;> omega
theorem nld_mono (r m : Nat) : nld Lt δ r m ≤ nld Lt δ (r + 1) m := by
  induction m with
  | zero => exact Nat.le_refl 0
  | succ m ih =>
    show nld Lt δ r m + _ ≤ nld Lt δ (r + 1) m + _
    by_cases h : ld Lt δ r m = m
    · rw [if_pos h, if_pos (ld_keep Lt δ h)]; omega
    · rw [if_neg h]; omega
theorem nld_more {r x : Nat} (h1 : ld Lt δ (r + 1) x = x) (h2 : ld Lt δ r x ≠ x) : ∀ {m : Nat}, x < m → nld Lt δ r m + 1 ≤ nld Lt δ (r + 1) m := by
  intro m hm
  induction m with
  | zero => omega
  | succ m ih =>
    show nld Lt δ r m + _ + 1 ≤ nld Lt δ (r + 1) m + _
    by_cases hx : x = m
    · subst hx
      rw [if_pos h1, if_neg h2]
      have := nld_mono Lt δ r x
      omega
    · have := ih (by omega)
      by_cases h : ld Lt δ r m = m
      · rw [if_pos h, if_pos (ld_keep Lt δ h)]; omega
      · rw [if_neg h]; omega
theorem nld_0 {m : Nat} (h : 0 < m) : 1 ≤ nld Lt δ 0 m := by
  induction m with
  | zero => omega
  | succ m ih =>
    show 1 ≤ nld Lt δ 0 m + _
    by_cases hm : m = 0
    · subst hm
      rw [if_pos (ld_zero Lt δ 0)]
      omega
    · have := ih (by omega)
      omega
/-- the round at which all is told apart -/
theorem stb_ex {n : Nat} (hn : 0 < n) : ∃ R, R < n ∧ stb Lt δ n R ∧ ∀ r, r < R → ¬ stb Lt δ n r := by
  have ⟨R, h1, h2⟩ : ∃ R, stb Lt δ n R ∧ ∀ r, r < R → ¬ stb Lt δ n r := by
    apply pk_least
    apply Classical.byContradiction
    intro q
    have key : ∀ r, r + 1 ≤ nld Lt δ r n := by
      intro r
      induction r with
      | zero => exact nld_0 Lt δ hn
      | succ r ih =>
        obtain ⟨x, hx, a, b⟩ := nstb_new Lt δ (n := n) (r := r) (fun z => q ⟨r, z⟩)
        have := nld_more Lt δ a b hx
        omega
    have := key n
    have := nld_le Lt δ n n
    omega
  refine ⟨R, ?_, h1, h2⟩
  have key : ∀ r, r ≤ R → r + 1 ≤ nld Lt δ r n := by
    intro r
    induction r with
    | zero => intro _; exact nld_0 Lt δ hn
    | succ r ih =>
      intro hr
      obtain ⟨x, hx, a, b⟩ := nstb_new Lt δ (h2 r (by omega))
      have := nld_more Lt δ a b hx
      have := ih (by omega)
      omega
  have := key R (Nat.le_refl R)
  have := nld_le Lt δ R n
  omega
end MQ
end
section
/-! MATHEMATICS 2: places in a list; the sets, in the order in which they are found; the numbers of the states. -/
def ixl {α : Type} [DecidableEq α] : List α → α → Nat
  | [], _ => 0
  | a :: t, r => if a = r then 0 else ixl t r + 1
theorem ixl_le {α : Type} [DecidableEq α] (S : List α) (r : α) : ixl S r ≤ S.length := by
  induction S with
  | nil => exact Nat.le_refl 0
  | cons a t ih =>
    show (if a = r then 0 else ixl t r + 1) ≤ t.length + 1
    split <;> omega
theorem ixl_lt {α : Type} [DecidableEq α] {S : List α} {r : α} (h : r ∈ S) : ixl S r < S.length := by
  induction S with
  | nil => cases h
  | cons a t ih =>
    show (if a = r then 0 else ixl t r + 1) < t.length + 1
    split
    · omega
    · rename_i hne
      rcases List.mem_cons.mp h with e | e
      · exact absurd e.symm hne
      · have := ih e
        omega
theorem ixl_get {α : Type} [DecidableEq α] {S : List α} {r : α} (h : r ∈ S) : S[ixl S r]? = some r := by
  induction S with
  | nil => cases h
  | cons a t ih =>
    by_cases e : a = r
    · have : ixl (a :: t) r = 0 := by show (if a = r then 0 else ixl t r + 1) = 0; rw [if_pos e]
      rw [this, e]; rfl
    · have e2 : ixl (a :: t) r = ixl t r + 1 := by show (if a = r then 0 else ixl t r + 1) = _; rw [if_neg e]
      rw [e2]
      rcases List.mem_cons.mp h with q | q
      · exact absurd q.symm e
      · simpa using ih q
theorem ixl_first {α : Type} [DecidableEq α] {r : α} : ∀ {S : List α} {i : Nat}, (∀ j, j < i → S[j]? ≠ some r) → S[i]? = some r → ixl S r = i := by
  intro S
  induction S with
  | nil => intro i _ h; simp at h
  | cons a t ih =>
    intro i h1 h2
    show (if a = r then 0 else ixl t r + 1) = i
    cases i with
    | zero =>
      simp at h2
      rw [if_pos h2]
    | succ i =>
      have : a ≠ r := fun e => h1 0 (by omega) (by simp [e])
      rw [if_neg this, ih (i := i) (fun j hj => by simpa using h1 (j + 1) (by omega)) (by simpa using h2)]
theorem ixl_app {α : Type} [DecidableEq α] {S : List α} {r : α} (T : List α) (h : r ∈ S) : ixl (S ++ T) r = ixl S r := by
  induction S with
  | nil => cases h
  | cons a t ih =>
    show (if a = r then 0 else ixl (t ++ T) r + 1) = (if a = r then 0 else ixl t r + 1)
    by_cases e : a = r
    · rw [if_pos e, if_pos e]
    · rw [if_neg e, if_neg e]
      rcases List.mem_cons.mp h with q | q
      · exact absurd q.symm e
      · rw [ih q]
theorem ixl_new {α : Type} [DecidableEq α] {S : List α} {r : α} (h : r ∉ S) : ixl (S ++ [r]) r = S.length := by
  induction S with
  | nil => show (if r = r then 0 else _) = 0; rw [if_pos rfl]
  | cons a t ih =>
    show (if a = r then 0 else ixl (t ++ [r]) r + 1) = t.length + 1
    have : a ≠ r := fun e => h (by rw [e]; exact List.mem_cons_self)
    rw [if_neg this, ih (fun q => h (List.mem_cons_of_mem _ q))]
theorem nodup_at {α : Type} : ∀ {S : List α}, S.Nodup → ∀ {i j : Nat} {r : α}, S[i]? = some r → S[j]? = some r → i = j := by
  intro S
  induction S with
  | nil => intro _ i j r h; simp at h
  | cons a t ih =>
    intro hn i j r h1 h2
    obtain ⟨ha, ht⟩ := List.nodup_cons.mp hn
    cases i with
    | zero =>
      cases j with
      | zero => rfl
      | succ j =>
        simp at h1 h2
        exact absurd (List.mem_of_getElem? h2) (by rw [← h1]; exact ha)
    | succ i =>
      cases j with
      | zero =>
        simp at h1 h2
        exact absurd (List.mem_of_getElem? h1) (by rw [← h2]; exact ha)
      | succ j =>
        simp at h1 h2
        rw [ih ht h1 h2]
theorem ixl_nodup {α : Type} [DecidableEq α] {S : List α} (hn : S.Nodup) {i : Nat} {r : α} (h : S[i]? = some r) : ixl S r = i := nodup_at hn (ixl_get (List.mem_of_getElem? h)) h
/-- a Nodup list of numbers below n isn't longer than n -/
theorem nodup_len : ∀ (n : Nat) (Q : List Nat), Q.Nodup → (∀ x, x ∈ Q → x < n) → Q.length ≤ n := by
  intro n
  induction n with
  | zero =>
    intro Q _ h
    cases Q with
    | nil => exact Nat.le_refl 0
    | cons a t => exact absurd (h a List.mem_cons_self) (by omega)
  | succ n ih =>
    intro Q hn h
    by_cases hm : n ∈ Q
    · have h1 := ih (Q.erase n) (hn.erase n) (fun x hx => by
        have a := h x (List.mem_of_mem_erase hx)
        have b : x ≠ n := fun e => by
          rw [e] at hx
          exact (hn.mem_erase_iff.mp hx).1 rfl
        omega)
      rw [List.length_erase_of_mem hm] at h1
      omega
    · exact Nat.le_succ_of_le (ih Q hn (fun x hx => by
        have a := h x hx
        have b : x ≠ n := fun e => hm (by rw [← e]; exact hx)
        omega))
/-- a row that begins with a list -/
def arr (f : Nat → Int32) (S : List Int32) : Prop := ∀ i, i < S.length → S[i]? = some (f i)
theorem arr_app {f : Nat → Int32} {S : List Int32} (h : arr f S) (r : Int32) : arr (upd f S.length r) (S ++ [r]) := by
  intro i hi
  rw [List.length_append] at hi
  simp only [List.length_singleton] at hi
  by_cases e : i < S.length
  · rw [List.getElem?_append_left e, h i e]
    show some (f i) = some (if i = S.length then r else f i)
    rw [if_neg (by omega)]
  · have e2 : i = S.length := by omega
    subst e2
    rw [List.getElem?_append_right (Nat.le_refl _)]
    show _ = some (if S.length = S.length then r else f S.length)
    rw [if_pos rfl]
    simp
theorem arr_of {f g : Nat → Int32} {S : List Int32} (h : arr f S) (hg : ∀ i, i < S.length → g i = f i) : arr g S := fun i hi => by rw [hg i hi]; exact h i hi
/-- where letter l leads from the set x, of nodes below k -/
def rch (W : Nat → Int32) (l : Nat) (x : Int32) : Nat → Int32
  | 0 => 0
  | k + 1 => if bt x k = true then rch W l x k ||| W (24 * l + k) else rch W l x k
def stp (S : List Int32) (r : Int32) : Option (List Int32) := if r = 0 ∨ r ∈ S then some S else if S.length = 120 then none else some (S ++ [r])
section BF
variable (W : Nat → Int32) (N Lt : Nat)
def inn (x : Int32) : Nat → Nat → List Int32 → Option (List Int32)
  | 0, _, S => some S
  | d + 1, l, S => (stp S (rch W l x N)).bind (inn x d (l + 1))
def bfs : Nat → Nat → List Int32 → Option (List Int32)
  | 0, _, _ => none
  | f + 1, s, S => match S[s]? with
    | none => some S
    | some x => (inn W N x Lt 0 S).bind (bfs f (s + 1))
theorem stp_spec {S S' : List Int32} {r : Int32} (h : stp S r = some S') (hl : S.length ≤ 120) : (S' = S ∧ (r = 0 ∨ r ∈ S)) ∨ (S' = S ++ [r] ∧ r ≠ 0 ∧ r ∉ S ∧ S.length < 120) := by
  unfold stp at h
  by_cases c : r = 0 ∨ r ∈ S
  · rw [if_pos c] at h
    exact Or.inl ⟨(Option.some.inj h).symm, c⟩
  · rw [if_neg c] at h
    by_cases c2 : S.length = 120
    · rw [if_pos c2] at h; cases h
    · rw [if_neg c2] at h
      exact Or.inr ⟨(Option.some.inj h).symm, fun e => c (Or.inl e), fun e => c (Or.inr e), by omega⟩
/-- what a list of sets is like as it grows: each but the first is led to from one before it -/
def okS (S : List Int32) : Prop := S.Nodup ∧ 1 ≤ S.length ∧ S.length ≤ 120 ∧ ∀ (k : Nat) (y : Int32), 0 < k → S[k]? = some y → ∃ (s : Nat) (x : Int32) (l : Nat), s < k ∧ l < Lt ∧ S[s]? = some x ∧ y ≠ 0 ∧ rch W l x N = y
theorem nodup_snoc {S : List Int32} {r : Int32} (h : S.Nodup) (hr : r ∉ S) : (S ++ [r]).Nodup := by
  rw [List.nodup_append]
  refine ⟨h, by simp, ?_⟩
  intro a ha b hb e
  simp at hb
  exact hr (by rw [← hb, ← e]; exact ha)
theorem inn_spec {x : Int32} {s : Nat} : ∀ (d l : Nat) (S S' : List Int32), inn W N x d l S = some S' → l + d ≤ Lt → okS W N Lt S → S[s]? = some x → (∃ T, S' = S ++ T) ∧ okS W N Lt S' ∧ ∀ l', l ≤ l' → l' < l + d → rch W l' x N = 0 ∨ rch W l' x N ∈ S' := by
  intro d
  induction d with
  | zero =>
    intro l S S' h _ hok _
    have : S' = S := (Option.some.inj h).symm
    subst this
    exact ⟨⟨[], by simp⟩, hok, fun l' a b => by omega⟩
  | succ d ih =>
    intro l S S' h hl hok hx
    have h : (stp S (rch W l x N)).bind (inn W N x d (l + 1)) = some S' := h
    cases hs : stp S (rch W l x N) with
    | none => rw [hs] at h; cases h
    | some S1 =>
      rw [hs] at h
      have h : inn W N x d (l + 1) S1 = some S' := h
      have ⟨h1, h2, h3⟩ : (∃ T, S1 = S ++ T) ∧ okS W N Lt S1 ∧ (rch W l x N = 0 ∨ rch W l x N ∈ S1) := by
        rcases stp_spec hs hok.2.2.1 with ⟨e, c⟩ | ⟨e, c1, c2, c3⟩
        · subst e; exact ⟨⟨[], by simp⟩, hok, c⟩
        · subst e
          refine ⟨⟨_, rfl⟩, ⟨nodup_snoc hok.1 c2, by simp, by simp; omega, ?_⟩, Or.inr (by simp)⟩
          intro k y hk hy
          by_cases hks : k < S.length
          · rw [List.getElem?_append_left hks] at hy
            obtain ⟨s', x', l', a1, a2, a3, a4⟩ := hok.2.2.2 k y hk hy
            exact ⟨s', x', l', a1, a2, by rw [List.getElem?_append_left (by omega)]; exact a3, a4⟩
          · have hks2 : k < (S ++ [rch W l x N]).length := (List.getElem?_eq_some_iff.mp hy).1
            have : k = S.length := by simp at hks2; omega
            subst this
            rw [List.getElem?_append_right (Nat.le_refl _)] at hy
            simp at hy
            have hsl : s < S.length := (List.getElem?_eq_some_iff.mp hx).1
            exact ⟨s, x, l, hsl, by omega, by rw [List.getElem?_append_left hsl]; exact hx, by rw [← hy]; exact c1, hy⟩
      obtain ⟨T, hT⟩ := h1
      have hsl : s < S.length := (List.getElem?_eq_some_iff.mp hx).1
      obtain ⟨⟨T', hT'⟩, g2, g3⟩ := ih (l + 1) S1 S' h (by omega) h2 (by rw [hT, List.getElem?_append_left hsl]; exact hx)
      refine ⟨⟨T ++ T', by rw [hT', hT, List.append_assoc]⟩, g2, fun l' a b => ?_⟩
      by_cases e : l' = l
      · subst e
        rcases h3 with z | z
        · exact Or.inl z
        · exact Or.inr (by rw [hT']; exact List.mem_append_left _ z)
      · exact g3 l' (by omega) (by omega)
theorem bfs_spec : ∀ (f s : Nat) (S S' : List Int32), bfs W N Lt f s S = some S' → okS W N Lt S → (∀ (k : Nat) (x : Int32), k < s → S[k]? = some x → ∀ l, l < Lt → rch W l x N = 0 ∨ rch W l x N ∈ S) → s ≤ S.length → (∃ T, S' = S ++ T) ∧ okS W N Lt S' ∧ ∀ (k : Nat) (x : Int32), S'[k]? = some x → ∀ l, l < Lt → rch W l x N = 0 ∨ rch W l x N ∈ S' := by
  intro f
  induction f with
  | zero => intro s S S' h; cases h
  | succ f ih =>
    intro s S S' h hok hc hs
    cases hx : S[s]? with
    | none =>
      have e : bfs W N Lt (f + 1) s S = some S := by show (match S[s]? with | none => some S | some x => (inn W N x Lt 0 S).bind (bfs W N Lt f (s + 1))) = _; rw [hx]
      rw [e] at h
      have : S' = S := (Option.some.inj h).symm
      subst this
      refine ⟨⟨[], by simp⟩, hok, fun k x hk l hl => hc k x ?_ hk l hl⟩
      have h1 := List.getElem?_eq_none_iff.mp hx
      have h2 := (List.getElem?_eq_some_iff.mp hk).1
      omega
    | some x =>
      have e : bfs W N Lt (f + 1) s S = (inn W N x Lt 0 S).bind (bfs W N Lt f (s + 1)) := by show (match S[s]? with | none => some S | some x => (inn W N x Lt 0 S).bind (bfs W N Lt f (s + 1))) = _; rw [hx]
      rw [e] at h
      cases hi : inn W N x Lt 0 S with
      | none => rw [hi] at h; cases h
      | some S1 =>
        rw [hi] at h
        have h : bfs W N Lt f (s + 1) S1 = some S' := h
        obtain ⟨⟨T, hT⟩, h2, h3⟩ := inn_spec W N Lt Lt 0 S S1 hi (by omega) hok hx
        have hsl : s < S.length := (List.getElem?_eq_some_iff.mp hx).1
        have hlen : S.length ≤ S1.length := by rw [hT]; simp
        obtain ⟨⟨T', hT'⟩, g2, g3⟩ := ih (s + 1) S1 S' h h2 (fun k y hk hy l hl => by
          by_cases e : k = s
          · subst e
            rw [hT, List.getElem?_append_left hsl, hx] at hy
            cases hy
            exact h3 l (by omega) (by omega)
          · have hks : k < S.length := by omega
            rw [hT, List.getElem?_append_left hks] at hy
            rcases hc k y (by omega) hy l hl with z | z
            · exact Or.inl z
            · exact Or.inr (by rw [hT]; exact List.mem_append_left _ z)) (by omega)
        exact ⟨⟨T ++ T', by rw [hT', hT, List.append_assoc]⟩, g2, g3⟩
end BF
/-- the numbers of states: leaders in the order in which they are found -/
def nst (Q : List Nat) (x : Nat) : List Nat := if x ∈ Q then Q else Q ++ [x]
section NU
variable (Lt : Nat) (δ : Nat → Nat → Option Nat) (ρ : Nat → Nat)
def nin (a : Nat) : Nat → Nat → List Nat → List Nat
  | 0, _, Q => Q
  | d + 1, l, Q => nin a d (l + 1) (match δ a l with
    | none => Q
    | some t => nst Q (ρ t))
def nout : Nat → Nat → List Nat → List Nat
  | 0, _, Q => Q
  | f + 1, p, Q => match Q[p]? with
    | none => Q
    | some a => nout f (p + 1) (nin δ ρ a Lt 0 Q)
def okQ (n : Nat) (Q : List Nat) : Prop := Q.Nodup ∧ 1 ≤ Q.length ∧ (∀ x, x ∈ Q → x < n ∧ ρ x = x)
theorem nst_spec {n x : Nat} {Q : List Nat} (h : okQ ρ n Q) (hx : x < n) (hr : ρ x = x) : okQ ρ n (nst Q x) ∧ (∃ T, nst Q x = Q ++ T) ∧ x ∈ nst Q x := by
  unfold nst
  by_cases c : x ∈ Q
  · rw [if_pos c]
    exact ⟨h, ⟨[], by simp⟩, c⟩
  · rw [if_neg c]
    refine ⟨⟨?_, by simp, ?_⟩, ⟨[x], rfl⟩, by simp⟩
    · rw [List.nodup_append]
      refine ⟨h.1, by simp, ?_⟩
      intro a ha b hb e
      simp at hb
      exact c (by rw [← hb, ← e]; exact ha)
    · intro y hy
      rcases List.mem_append.mp hy with z | z
      · exact h.2.2 y z
      · simp at z; subst z; exact ⟨hx, hr⟩
theorem nin_spec {n a : Nat} (hδ : ∀ s l b, s < n → l < Lt → δ s l = some b → b < n) (hρ : ∀ x, x < n → ρ x < n ∧ ρ (ρ x) = ρ x) (ha : a < n) : ∀ (d l : Nat) (Q : List Nat), l + d ≤ Lt → okQ ρ n Q → okQ ρ n (nin δ ρ a d l Q) ∧ (∃ T, nin δ ρ a d l Q = Q ++ T) ∧ ∀ l', l ≤ l' → l' < l + d → ∀ t, δ a l' = some t → ρ t ∈ nin δ ρ a d l Q := by
  intro d
  induction d with
  | zero => intro l Q _ h; exact ⟨h, ⟨[], by simp [nin]⟩, fun l' x y => by omega⟩
  | succ d ih =>
    intro l Q hl h
    have e : nin δ ρ a (d + 1) l Q = nin δ ρ a d (l + 1) (match δ a l with | none => Q | some t => nst Q (ρ t)) := rfl
    rw [e]
    cases hd : δ a l with
    | none =>
      obtain ⟨g1, g2, g3⟩ := ih (l + 1) Q (by omega) h
      refine ⟨g1, g2, fun l' x y t ht => ?_⟩
      by_cases z : l' = l
      · subst z; rw [hd] at ht; cases ht
      · exact g3 l' (by omega) (by omega) t ht
    | some b =>
      have hb := hδ a l b ha (by omega) hd
      obtain ⟨k1, ⟨T, k2⟩, k3⟩ := nst_spec ρ h (hρ b hb).1 (hρ b hb).2
      obtain ⟨g1, ⟨T', g2⟩, g3⟩ := ih (l + 1) (nst Q (ρ b)) (by omega) k1
      refine ⟨g1, ⟨T ++ T', ?_⟩, fun l' x y t ht => ?_⟩
      · show nin δ ρ a d (l + 1) (nst Q (ρ b)) = _
        rw [g2, k2, List.append_assoc]
      · by_cases z : l' = l
        · subst z
          rw [hd] at ht
          cases ht
          show ρ b ∈ nin δ ρ a d (l' + 1) (nst Q (ρ b))
          rw [g2]
          exact List.mem_append_left _ k3
        · exact g3 l' (by omega) (by omega) t ht
theorem nout_spec {n : Nat} (hδ : ∀ s l b, s < n → l < Lt → δ s l = some b → b < n) (hρ : ∀ x, x < n → ρ x < n ∧ ρ (ρ x) = ρ x) : ∀ (f p : Nat) (Q : List Nat), n < f + p → okQ ρ n Q → p ≤ Q.length → (∀ (k x : Nat), k < p → Q[k]? = some x → ∀ l, l < Lt → ∀ t, δ x l = some t → ρ t ∈ Q) → okQ ρ n (nout Lt δ ρ f p Q) ∧ (∃ T, nout Lt δ ρ f p Q = Q ++ T) ∧ ∀ x, x ∈ nout Lt δ ρ f p Q → ∀ l, l < Lt → ∀ t, δ x l = some t → ρ t ∈ nout Lt δ ρ f p Q := by
  intro f
  induction f with
  | zero =>
    intro p Q hf h hp
    have := nodup_len n Q h.1 (fun x hx => (h.2.2 x hx).1)
    omega
  | succ f ih =>
    intro p Q hf h hp hc
    cases hx : Q[p]? with
    | none =>
      have e : nout Lt δ ρ (f + 1) p Q = Q := by show (match Q[p]? with | none => Q | some a => nout Lt δ ρ f (p + 1) (nin δ ρ a Lt 0 Q)) = _; rw [hx]
      rw [e]
      refine ⟨h, ⟨[], by simp⟩, fun x hx2 l hl t ht => ?_⟩
      obtain ⟨k, hk⟩ := List.getElem?_of_mem hx2
      have h1 := List.getElem?_eq_none_iff.mp hx
      have h2 := (List.getElem?_eq_some_iff.mp hk).1
      exact hc k x (by omega) hk l hl t ht
    | some a =>
      have e : nout Lt δ ρ (f + 1) p Q = nout Lt δ ρ f (p + 1) (nin δ ρ a Lt 0 Q) := by show (match Q[p]? with | none => Q | some a => nout Lt δ ρ f (p + 1) (nin δ ρ a Lt 0 Q)) = _; rw [hx]
      rw [e]
      have hpl : p < Q.length := (List.getElem?_eq_some_iff.mp hx).1
      have ha := (h.2.2 a (List.mem_of_getElem? hx)).1
      obtain ⟨k1, ⟨T, k2⟩, k3⟩ := nin_spec Lt δ ρ hδ hρ ha Lt 0 Q (by omega) h
      have hlen : Q.length ≤ (nin δ ρ a Lt 0 Q).length := by rw [k2]; simp
      obtain ⟨g1, ⟨T', g2⟩, g3⟩ := ih (p + 1) (nin δ ρ a Lt 0 Q) (by omega) k1 (by omega) (fun k x hk hxk l hl t ht => by
        by_cases z : k = p
        · subst z
          rw [k2, List.getElem?_append_left hpl, hx] at hxk
          cases hxk
          exact k3 l (by omega) (by omega) t ht
        · have hkl : k < Q.length := by omega
          rw [k2, List.getElem?_append_left hkl] at hxk
          rw [k2]
          exact List.mem_append_left _ (hc k x (by omega) hxk l hl t ht))
      refine ⟨g1, ⟨T ++ T', by rw [g2, k2, List.append_assoc]⟩, g3⟩
end NU
end
section
/-! MATHEMATICS 3: how many bits an int has (the library's bitCount). -/
def pop : Nat → Nat → Nat
  | 0, _ => 0
  | k + 1, n => pop k n + n / 2 ^ k % 2
theorem pop_byte {m b t : Nat} (ht : t < 8) : (256 * m + b) / 2 ^ t % 2 = b / 2 ^ t % 2 := by
  rcases (show t = 0 ∨ t = 1 ∨ t = 2 ∨ t = 3 ∨ t = 4 ∨ t = 5 ∨ t = 6 ∨ t = 7 by omega) with rfl | rfl | rfl | rfl | rfl | rfl | rfl | rfl <;> simp only [Nat.reducePow] <;> omega
theorem pop_low (m b : Nat) : ∀ k, k ≤ 8 → pop k (256 * m + b) = pop k b := by
  intro k
  induction k with
  | zero => intro _; rfl
  | succ k ih =>
    intro hk
    show pop k (256 * m + b) + (256 * m + b) / 2 ^ k % 2 = pop k b + b / 2 ^ k % 2
    rw [ih (by omega), pop_byte (by omega)]
theorem pop_split (m b : Nat) (hb : b < 256) : ∀ k, pop (8 + k) (256 * m + b) = pop 8 b + pop k m := by
  intro k
  induction k with
  | zero => exact pop_low m b 8 (Nat.le_refl 8)
  | succ k ih =>
    show pop (8 + k) (256 * m + b) + (256 * m + b) / 2 ^ (8 + k) % 2 = pop 8 b + (pop k m + m / 2 ^ k % 2)
    rw [ih, Nat.pow_add, ← Nat.div_div_eq_div_mul, show (256 * m + b) / 2 ^ 8 = m by simp only [Nat.reducePow]; omega]
    omega
theorem and_split {u v M c : Nat} (hv : v < 256) (hc : c < 256) : (256 * u + v) &&& (256 * M + c) = 256 * (u &&& M) + (v &&& c) := by
  apply Nat.eq_of_testBit_eq
  intro j
  have hvc : v &&& c < 2 ^ 8 := Nat.lt_of_le_of_lt Nat.and_le_left hv
  have e1 := Nat.testBit_two_pow_mul_add u (i := 8) (b := v) hv j
  have e2 := Nat.testBit_two_pow_mul_add M (i := 8) (b := c) hc j
  have e3 := Nat.testBit_two_pow_mul_add (u &&& M) (i := 8) (b := v &&& c) hvc j
  simp only [Nat.reducePow] at e1 e2 e3
  rw [Nat.testBit_and, e1, e2, e3]
  by_cases h : j < 8
  · simp [h]
  · simp [h]
theorem pb1 : ∀ b, b < 256 → ∀ h, h < 2 → (128 * h + b / 2) &&& 85 = b / 2 &&& 85 := by decide +kernel
theorem pb2 : ∀ b, b < 256 → ∀ h, h < 4 → (64 * h + b / 4) &&& 51 = b / 4 &&& 51 := by decide +kernel
/-- a byte, step by step -/
def q1 (b : Nat) : Nat := b - (b / 2 &&& 85)
def q2 (b : Nat) : Nat := (b &&& 51) + (b / 4 &&& 51)
def q3 (b : Nat) : Nat := (b + b / 16) &&& 15
theorem q1_lt : ∀ b, b < 256 → q1 b < 256 ∧ (b / 2 &&& 85) ≤ b := by decide +kernel
theorem q2_lt : ∀ b, b < 256 → q2 (q1 b) < 69 ∧ q2 (q1 b) % 16 < 5 := by decide +kernel
theorem q3_pop : ∀ b, b < 256 → q3 (q2 (q1 b)) = pop 8 b ∧ pop 8 b ≤ 8 := by decide +kernel
/-- four bytes -/
def cb (a b c d : Nat) : Nat := 256 * (256 * (256 * d + c) + b) + a
theorem cb_ex {n : Nat} (h : n < 2 ^ 32) : ∃ a b c d, a < 256 ∧ b < 256 ∧ c < 256 ∧ d < 256 ∧ n = cb a b c d := by
  refine ⟨n % 256, n / 256 % 256, n / 65536 % 256, n / 16777216, ?_⟩
  unfold cb
  simp only [Nat.reducePow] at h
  omega
theorem cb_and {a b c d m : Nat} (ha : a < 256) (hb : b < 256) (hc : c < 256) (hm : m < 256) : cb a b c d &&& cb m m m m = cb (a &&& m) (b &&& m) (c &&& m) (d &&& m) := by
  unfold cb
  rw [and_split ha hm, and_split hb hm, and_split hc hm]
theorem cb_1 {a b c d : Nat} (ha : a < 256) (hb : b < 256) (hc : c < 256) (hd : d < 256) : cb a b c d - (cb a b c d / 2 &&& 1431655765) = cb (q1 a) (q1 b) (q1 c) (q1 d) := by
  have e : cb a b c d / 2 = cb (128 * (b % 2) + a / 2) (128 * (c % 2) + b / 2) (128 * (d % 2) + c / 2) (d / 2) := by unfold cb; omega
  have em : (1431655765 : Nat) = cb 85 85 85 85 := by decide
  rw [e, em, cb_and (by omega) (by omega) (by omega) (by omega), pb1 a ha _ (by omega), pb1 b hb _ (by omega), pb1 c hc _ (by omega)]
  have h1 := (q1_lt a ha).2
  have h2 := (q1_lt b hb).2
  have h3 := (q1_lt c hc).2
  have h4 := (q1_lt d hd).2
  unfold cb q1
  omega
theorem cb_2 {a b c d : Nat} (ha : a < 256) (hb : b < 256) (hc : c < 256) : (cb a b c d &&& 858993459) + (cb a b c d / 4 &&& 858993459) = cb (q2 a) (q2 b) (q2 c) (q2 d) := by
  have e : cb a b c d / 4 = cb (64 * (b % 4) + a / 4) (64 * (c % 4) + b / 4) (64 * (d % 4) + c / 4) (d / 4) := by unfold cb; omega
  have em : (858993459 : Nat) = cb 51 51 51 51 := by decide
  rw [e, em, cb_and ha hb hc (by omega), cb_and (by omega) (by omega) (by omega) (by omega), pb2 a ha _ (by omega), pb2 b hb _ (by omega), pb2 c hc _ (by omega)]
  unfold cb q2
  omega
theorem pb3 : ∀ b, b < 69 → ∀ h, h < 5 → (b + (16 * h + b / 16)) &&& 15 = (b + b / 16) &&& 15 := by decide +kernel
theorem cb_3 {a b c d : Nat} (ha : a < 69) (hb : b < 69) (hc : c < 69) (hd : d < 69) (hb2 : b % 16 < 5) (hc2 : c % 16 < 5) (hd2 : d % 16 < 5) : ((cb a b c d + cb a b c d / 16) &&& 252645135) = cb (q3 a) (q3 b) (q3 c) (q3 d) := by
  have em : (252645135 : Nat) = cb 15 15 15 15 := by decide
  have e : cb a b c d + cb a b c d / 16 = cb (a + (16 * (b % 16) + a / 16)) (b + (16 * (c % 16) + b / 16)) (c + (16 * (d % 16) + c / 16)) (d + d / 16) := by unfold cb; omega
  rw [e, em, cb_and (by omega) (by omega) (by omega) (by omega), pb3 a ha _ hb2, pb3 b hb _ hc2, pb3 c hc _ hd2]
  rfl
theorem and_63 {m c : Nat} (hc : c < 64) : (256 * m + c) &&& 63 = c := by
  have e : (63 : Nat) = 256 * 0 + 63 := by decide
  rw [e, and_split (by omega) (by omega)]
  have h : c &&& 63 = c := (by decide +kernel : ∀ c, c < 64 → c &&& 63 = c) c hc
  rw [h]
  simp
/-- the library's steps, over numbers -/
theorem pop_steps {n : Nat} (hn : n < 2 ^ 32) : ∃ n1 n2 n3 n4 n5, n1 = n - (n / 2 &&& 1431655765) ∧ n1 < 2 ^ 32 ∧ (n / 2 &&& 1431655765) ≤ n ∧ n2 = (n1 &&& 858993459) + (n1 / 4 &&& 858993459) ∧ n2 < 2 ^ 31 ∧ n3 = (n2 + n2 / 16) &&& 252645135 ∧ n3 < 2 ^ 28 ∧ n4 = n3 + n3 / 256 ∧ n4 < 2 ^ 30 ∧ n5 = n4 + n4 / 65536 ∧ n5 < 2 ^ 31 ∧ n5 &&& 63 = pop 32 n := by
  obtain ⟨a, b, c, d, ha, hb, hc, hd, e⟩ := cb_ex hn
  have k1 := cb_1 ha hb hc hd
  have k2 := cb_2 (d := q1 d) (q1_lt a ha).1 (q1_lt b hb).1 (q1_lt c hc).1
  have k3 := cb_3 (q2_lt a ha).1 (q2_lt b hb).1 (q2_lt c hc).1 (q2_lt d hd).1 (q2_lt b hb).2 (q2_lt c hc).2 (q2_lt d hd).2
  rw [(q3_pop a ha).1, (q3_pop b hb).1, (q3_pop c hc).1, (q3_pop d hd).1] at k3
  have p1 := (q3_pop a ha).2
  have p2 := (q3_pop b hb).2
  have p3 := (q3_pop c hc).2
  have p4 := (q3_pop d hd).2
  have hp : pop 32 n = pop 8 a + (pop 8 b + (pop 8 c + pop 8 d)) := by
    rw [e]
    unfold cb
    rw [show (32 : Nat) = 8 + 24 from rfl, pop_split _ a ha 24, show (24 : Nat) = 8 + 16 from rfl, pop_split _ b hb 16, show (16 : Nat) = 8 + 8 from rfl, pop_split d c hc 8]
  have g1 : cb (q1 a) (q1 b) (q1 c) (q1 d) < 2 ^ 32 := by
    have := (q1_lt a ha).1
    have := (q1_lt b hb).1
    have := (q1_lt c hc).1
    have := (q1_lt d hd).1
    unfold cb
    simp only [Nat.reducePow]
    omega
  have g2 : cb (q2 (q1 a)) (q2 (q1 b)) (q2 (q1 c)) (q2 (q1 d)) < 2 ^ 31 := by
    have := (q2_lt a ha).1
    have := (q2_lt b hb).1
    have := (q2_lt c hc).1
    have := (q2_lt d hd).1
    unfold cb
    simp only [Nat.reducePow]
    omega
  have hle : (n / 2 &&& 1431655765) ≤ n := Nat.le_trans Nat.and_le_left (Nat.div_le_self n 2)
  generalize pop 8 a = pa at k3 p1 hp
  generalize pop 8 b = pb at k3 p2 hp
  generalize pop 8 c = pc at k3 p3 hp
  generalize pop 8 d = pd at k3 p4 hp
  have e4 : cb pa pb pc pd + cb pa pb pc pd / 256 = cb (pa + pb) (pb + pc) (pc + pd) pd := by unfold cb; omega
  have e5 : cb (pa + pb) (pb + pc) (pc + pd) pd + cb (pa + pb) (pb + pc) (pc + pd) pd / 65536 = 256 * (256 * (256 * pd + (pc + pd)) + (pb + pc + pd)) + (pa + pb + (pc + pd)) := by unfold cb; omega
  refine ⟨_, _, _, _, _, rfl, ?_, hle, rfl, ?_, rfl, ?_, rfl, ?_, rfl, ?_, ?_⟩
  · rw [e, k1]; exact g1
  · rw [e, k1, k2]; exact g2
  · rw [e, k1, k2, k3]; unfold cb; simp only [Nat.reducePow]; omega
  · rw [e, k1, k2, k3, e4]; unfold cb; simp only [Nat.reducePow]; omega
  · rw [e, k1, k2, k3, e4, e5]; simp only [Nat.reducePow]; omega
  · rw [hp, e, k1, k2, k3, e4, e5, and_63 (by omega)]; omega
end
section
/-! THE NODES AND WAYS: what the preconditions of the class's and the reference's methods come to. -/
theorem us_s (σ : St) (k : Nat) (v : Int32) : (us σ k v).1 k = v := by unfold us; exact pk_us
theorem us_n {σ : St} {k j : Nat} {v : Int32} (h : j ≠ k) : (us σ k v).1 j = σ.1 j := by unfold us; exact pk_un h
theorem uA_s (σ : St) (k : Nat) (f : Nat → Int32) : (uA σ k f).2 k = f := by unfold uA va_up; simp
theorem uA_n {σ : St} {k j : Nat} {f : Nat → Int32} (h : j ≠ k) : (uA σ k f).2 j = σ.2 j := by unfold uA va_up; simp [h]
/-- all else is as it was -/
def Fr (σ τ : St) (ss aa : List Nat) : Prop := (∀ k, k ∉ ss → τ.1 k = σ.1 k) ∧ ∀ k, k ∉ aa → τ.2 k = σ.2 k
theorem Fr.rf {σ : St} {ss aa : List Nat} : Fr σ σ ss aa := ⟨fun _ _ => rfl, fun _ _ => rfl⟩
theorem Fr.tr {σ τ υ : St} {ss aa : List Nat} (h : Fr σ τ ss aa) (g : Fr τ υ ss aa) : Fr σ υ ss aa := ⟨fun k hk => (g.1 k hk).trans (h.1 k hk), fun k hk => (g.2 k hk).trans (h.2 k hk)⟩
theorem Fr.mo {σ τ : St} {ss aa ss' aa' : List Nat} (h : Fr σ τ ss aa) (h1 : ∀ k, k ∈ ss → k ∈ ss') (h2 : ∀ k, k ∈ aa → k ∈ aa') : Fr σ τ ss' aa' := ⟨fun k hk => h.1 k (fun z => hk (h1 k z)), fun k hk => h.2 k (fun z => hk (h2 k z))⟩
theorem Fr.us {σ τ : St} {ss aa : List Nat} {k : Nat} {v : Int32} (h : Fr σ τ ss aa) (hk : k ∈ ss) : Fr σ (us τ k v) ss aa := ⟨fun j hj => (us_n (fun e => hj (by rw [e]; exact hk))).trans (h.1 j hj), fun j hj => h.2 j hj⟩
theorem Fr.uA {σ τ : St} {ss aa : List Nat} {k : Nat} {f : Nat → Int32} (h : Fr σ τ ss aa) (hk : k ∈ aa) : Fr σ (uA τ k f) ss aa := ⟨fun j hj => h.1 j hj, fun j hj => (uA_n (fun e => hj (by rw [e]; exact hk))).trans (h.2 j hj)⟩
theorem ix_ok {a x : Int32} {N : Nat} {A B : Prop} (ha : a = nI N) (hN : N < 2 ^ 31) (hA : okb x N = false → A) (hB : okb x N = true → B) : (x < 0 → A) ∧ (¬ x < 0 → ((a ≤ x → A) ∧ (¬ a ≤ x → B))) := by
  subst ha
  exact ⟨fun c => hA (okb_neg c), fun c => ⟨fun d => hA (okb_ge hN d), fun d => hB (okb_lt hN c d)⟩⟩
theorem ix_bI {x : Int32} {N : Nat} {post : Int32 → St → Prop} {σ : St} (h : post (bI (okb x N)) σ) : (okb x N = false → post 0 σ) ∧ (okb x N = true → post 1 σ) := by
  constructor
  · intro e; rw [e] at h; exact h
  · intro e; rw [e] at h; exact h
theorem g_hasNode {σ : St} {x : Int32} {N : Nat} {post : Int32 → St → Prop} (hN : σ.1 1 = nI N) (hb : N < 2 ^ 31) (h : post (bI (okb x N)) σ) : wp_G_hasNode x σ post := ix_ok hN hb (ix_bI h).1 (ix_bI h).2
theorem g_hasLetter {σ : St} {x : Int32} {N : Nat} {post : Int32 → St → Prop} (hN : σ.1 2 = nI N) (hb : N < 2 ^ 31) (h : post (bI (okb x N)) σ) : wp_G_hasLetter x σ post := ix_ok hN hb (ix_bI h).1 (ix_bI h).2
theorem t_hasLetter {σ : St} {x : Int32} {N : Nat} {post : Int32 → St → Prop} (hN : σ.1 4 = nI N) (hb : N < 2 ^ 31) (h : post (bI (okb x N)) σ) : wp_T_hasLetter x σ post := ix_ok hN hb (ix_bI h).1 (ix_bI h).2
theorem t_hasSet {σ : St} {x : Int32} {N : Nat} {post : Int32 → St → Prop} (hN : σ.1 5 = nI N) (hb : N < 2 ^ 31) (h : post (bI (okb x N)) σ) : wp_T_hasSet x σ post := ix_ok hN hb (ix_bI h).1 (ix_bI h).2
theorem t_hasState {σ : St} {x : Int32} {N : Nat} {post : Int32 → St → Prop} (hN : σ.1 6 = nI N) (hb : N < 2 ^ 31) (h : post (bI (okb x N)) σ) : wp_T_hasState x σ post := ix_ok hN hb (ix_bI h).1 (ix_bI h).2
theorem m_isNode {σ : St} {x : Int32} {N : Nat} {post : Int32 → St → Prop} (hN : σ.1 1 = nI N) (hb : N < 2 ^ 31) (h : post (bI (okb x N)) σ) : wp_M_isNode x σ post := ix_ok hN hb (ix_bI h).1 (ix_bI h).2
theorem m_isLetter {σ : St} {x : Int32} {N : Nat} {post : Int32 → St → Prop} (hN : σ.1 2 = nI N) (hb : N < 2 ^ 31) (h : post (bI (okb x N)) σ) : wp_M_isLetter x σ post := ix_ok hN hb (ix_bI h).1 (ix_bI h).2
theorem m_isState {σ : St} {x : Int32} {N : Nat} {post : Int32 → St → Prop} (hN : σ.1 6 = nI N) (hb : N < 2 ^ 31) (h : post (bI (okb x N)) σ) : wp_M_isState x σ post := ix_ok hN hb (ix_bI h).1 (ix_bI h).2
/-- a test of a truth value, and what follows -/
theorem bz {b : Bool} {A B : Prop} (hA : b = false → A) (hB : b = true → B) : (bI b = 0 → A) ∧ (¬ bI b = 0 → B) := ⟨fun c => hA ((bI_0 b).mp c), fun c => hB (by cases b; exact absurd rfl c; rfl)⟩
theorem bz' {b : Bool} {A B : Prop} (hA : b = false → A) (hB : b = true → B) : (¬ bI b = 0 → B) ∧ (bI b = 0 → A) := ⟨(bz hA hB).2, (bz hA hB).1⟩
/-- the nodes and ways, of the class and of the reference alike -/
def GG (σ : St) (N Lt s0 : Nat) (W : Nat → Int32) : Prop := σ.1 1 = nI N ∧ σ.1 2 = nI Lt ∧ σ.1 3 = nI s0 ∧ σ.2 0 = W
def okG (N Lt s0 : Nat) (W : Nat → Int32) : Prop := 1 ≤ N ∧ N ≤ 24 ∧ 1 ≤ Lt ∧ Lt ≤ 40 ∧ s0 < N ∧ ∀ k i, i < 32 → bt (W k) i = true → i < N ∧ k < 24 * Lt ∧ k % 24 < N
theorem GG.fr {σ τ : St} {N Lt s0 : Nat} {W : Nat → Int32} {ss aa : List Nat} (h : GG σ N Lt s0 W) (f : Fr σ τ ss aa) (h1 : 1 ∉ ss) (h2 : 2 ∉ ss) (h3 : 3 ∉ ss) (h0 : 0 ∉ aa) : GG τ N Lt s0 W := ⟨(f.1 1 h1).trans h.1, (f.1 2 h2).trans h.2.1, (f.1 3 h3).trans h.2.2.1, (f.2 0 h0).trans h.2.2.2⟩
theorem g_canHold {σ : St} {x1 x2 x3 : Int32} {N Lt s0 : Nat} {W : Nat → Int32} {post : Int32 → St → Prop} (hg : GG σ N Lt s0 W) (ok : okG N Lt s0 W) (h : post (bI (okb x1 N && (okb x2 Lt && okb x3 N))) σ) : wp_G_canHold x1 x2 x3 σ post := by
  have hN : N < 2 ^ 31 := by have := ok.2.1; omega
  have hL : Lt < 2 ^ 31 := by have := ok.2.2.2.1; omega
  unfold wp_G_canHold
  refine g_hasNode hg.1 hN (bz (fun e1 => ?_) (fun e1 => g_hasLetter hg.2.1 hL (bz (fun e2 => ?_) (fun e2 => g_hasNode hg.1 hN (bz (fun e3 => ?_) (fun e3 => ?_))))))
  · rw [e1] at h; exact h
  · rw [e1, e2] at h; exact h
  · rw [e1, e2, e3] at h; exact h
  · rw [e1, e2, e3] at h; exact h
/-- the place of a node and a letter -/
theorem plc {a l : Nat} (ha : a < 24) (hl : l < 40) : 24 * l + a < 960 := by omega
theorem plc_c (a l : Nat) : (nI l * nI 24) + nI a = nI (24 * l + a) := by rw [pk_mul, nI_add, Nat.mul_comm]
theorem plc_m (a l : Nat) : (nI 24 * nI l) + nI a = nI (24 * l + a) := by rw [pk_mul, nI_add]
theorem g_holds {σ : St} {a l t : Nat} {W : Nat → Int32} {post : Int32 → St → Prop} (hW : σ.2 0 = W) (ha : a < 24) (hl : l < 40) (ht : t < 24) (h : post (bI (bt (W (24 * l + a)) t)) σ) : wp_G_holds (nI a) (nI l) (nI t) σ post := by
  have hp := plc ha hl
  show vp_in (nI l * nI 24 + nI a) 960 ∧ _
  rw [plc_c]
  refine ⟨vp_in_nI hp (by omega), ?_⟩
  rw [nI_clamp (by omega), hW, u_bit _ (by omega)]
  exact bz (fun e => by rw [e] at h; exact h) (fun e => by rw [e] at h; exact h)
def fl (W : Nat → Int32) (p t : Nat) : Nat → Int32 := upd W p (W p ^^^ ((1 : Int32) <<< (nI t &&& 31)))
theorem g_flip {σ : St} {a l t : Nat} {post : St → Prop} (ha : a < 24) (hl : l < 40) (h : post (uA σ 0 (fl (σ.2 0) (24 * l + a) t))) : wp_G_flip (nI a) (nI l) (nI t) σ post := by
  have hp := plc ha hl
  show vp_in (nI l * nI 24 + nI a) 960 ∧ vp_in (nI l * nI 24 + nI a) 960 ∧ _
  rw [plc_c]
  refine ⟨vp_in_nI hp (by omega), vp_in_nI hp (by omega), ?_⟩
  rw [nI_clamp (by omega)]
  exact h
theorem fl_bt (W : Nat → Int32) (p : Nat) {t : Nat} (ht : t < 32) (k : Nat) {i : Nat} (hi : i < 32) : bt (fl W p t k) i = (bt (W k) i ^^ (decide (k = p) && decide (i = t))) := by
  unfold fl upd
  by_cases e : k = p
  · subst e; simp [b_flip _ ht hi]
  · simp [e]
theorem fl_ok {N Lt s0 : Nat} {W : Nat → Int32} (h : okG N Lt s0 W) {a l t : Nat} (ha : a < N) (hl : l < Lt) (ht : t < N) : okG N Lt s0 (fl W (24 * l + a) t) := by
  obtain ⟨h1, h2, h3, h4, h5, h6⟩ := h
  refine ⟨h1, h2, h3, h4, h5, fun k i hi hb => ?_⟩
  rw [fl_bt _ _ (by omega) _ hi] at hb
  by_cases e : k = 24 * l + a ∧ i = t
  · obtain ⟨rfl, rfl⟩ := e
    exact ⟨ht, by omega, by omega⟩
  · have : (decide (k = 24 * l + a) && decide (i = t)) = false := by
      by_cases e1 : k = 24 * l + a
      · have : ¬ i = t := fun q => e ⟨e1, q⟩
        simp [this]
      · simp [e1]
    rw [this] at hb
    simp at hb
    exact h6 k i hi hb
/-- way -/
def wayR (N Lt : Nat) (W : Nat → Int32) (x1 x2 x3 x4 : Int32) : Bool := okb x1 N && (okb x2 Lt && okb x3 N) && !decide (bI (bt (W (24 * x2.toNatClampNeg + x1.toNatClampNeg)) x3.toNatClampNeg) = x4)
theorem w_way {σ : St} {x1 x2 x3 x4 : Int32} {N Lt s0 : Nat} {W : Nat → Int32} {post : Int32 → St → Prop} (hg : GG σ N Lt s0 W) (ok : okG N Lt s0 W) (h0 : wayR N Lt W x1 x2 x3 x4 = false → post 0 σ) (h1 : wayR N Lt W x1 x2 x3 x4 = true → post 1 (uA σ 0 (fl W (24 * x2.toNatClampNeg + x1.toNatClampNeg) x3.toNatClampNeg))) : wp_W_way x1 x2 x3 x4 σ post := by
  unfold wp_W_way
  refine g_canHold hg ok (bz (fun e => h0 (by unfold wayR; rw [e]; rfl)) (fun e => ?_))
  simp only [Bool.and_eq_true] at e
  obtain ⟨e1, e2, e3⟩ := e
  have hN := ok.2.1
  have hL := ok.2.2.2.1
  obtain ⟨a, ha, rfl⟩ := okb_ex (by omega) e1
  obtain ⟨l, hl, rfl⟩ := okb_ex (by omega) e2
  obtain ⟨t, ht, rfl⟩ := okb_ex (by omega) e3
  unfold wayR at h0 h1
  rw [e1, e2, e3, nI_clamp (by omega), nI_clamp (by omega), nI_clamp (by omega)] at h0 h1
  refine g_holds hg.2.2.2 (by omega) (by omega) (by omega) ⟨fun c => ?_, fun c => ?_⟩
  · refine g_flip (by omega) (by omega) ?_
    rw [hg.2.2.2]
    exact h1 (by simp [c])
  · exact h0 (by simp [c])
theorem m_is {σ : St} {x1 x2 x3 : Int32} {N Lt s0 : Nat} {W : Nat → Int32} {post : Int32 → St → Prop} (hg : GG σ N Lt s0 W) (ok : okG N Lt s0 W) (h : post (bI (okb x1 N && (okb x2 Lt && okb x3 N) && bt (W (24 * x2.toNatClampNeg + x1.toNatClampNeg)) x3.toNatClampNeg)) (us σ 0 0)) : wp_M_is x1 x2 x3 σ post := by
  have hN := ok.2.1
  have hL := ok.2.2.2.1
  have g1 : (us σ 0 0).1 1 = nI N := hg.1
  have g2 : (us σ 0 0).1 2 = nI Lt := hg.2.1
  have g4 : (us σ 0 0).2 0 = W := hg.2.2.2
  unfold wp_M_is
  refine m_isNode g1 (by omega) (bz (fun e1 => by rw [e1] at h; exact h) (fun e1 => m_isLetter g2 (by omega) (bz (fun e2 => by rw [e1, e2] at h; exact h) (fun e2 => m_isNode g1 (by omega) (bz (fun e3 => by rw [e1, e2, e3] at h; exact h) (fun e3 => m_isNode g1 (by omega) (bz (fun e4 => absurd (e1.symm.trans e4) (by decide)) (fun e4 => m_isLetter g2 (by omega) (bz (fun e5 => absurd (e2.symm.trans e5) (by decide)) (fun e5 => ?_))))))))))
  obtain ⟨a, ha, rfl⟩ := okb_ex (by omega) e1
  obtain ⟨l, hl, rfl⟩ := okb_ex (by omega) e2
  obtain ⟨t, ht, rfl⟩ := okb_ex (by omega) e3
  have hp := plc (a := a) (l := l) (by omega) (by omega)
  rw [plc_m]
  refine ⟨vp_in_nI hp (by omega), ?_⟩
  rw [e1, e2, e3, nI_clamp (by omega), nI_clamp (by omega), nI_clamp (by omega)] at h
  rw [nI_clamp (by omega), g4, s_bit _ (by omega)]
  refine ⟨fun c => ?_, fun c => ?_⟩
  · have e : bt (W (24 * l + a)) t = false := by
      cases z : bt (W (24 * l + a)) t
      · rfl
      · rw [z] at c; exact absurd rfl c
    rw [e] at h; exact h
  · have e : bt (W (24 * l + a)) t = true := (bI_1 _).mp c
    rw [e] at h; exact h
theorem m_way {σ : St} {x1 x2 x3 x4 : Int32} {N Lt s0 : Nat} {W : Nat → Int32} {post : Int32 → St → Prop} (hg : GG σ N Lt s0 W) (ok : okG N Lt s0 W) (h0 : wayR N Lt W x1 x2 x3 x4 = false → post 0 (us (us σ 0 0) 0 0)) (h0' : wayR N Lt W x1 x2 x3 x4 = false → post 0 (us σ 0 0)) (h1 : wayR N Lt W x1 x2 x3 x4 = true → post 1 (uA (us (us σ 0 0) 0 0) 0 (fl W (24 * x2.toNatClampNeg + x1.toNatClampNeg) x3.toNatClampNeg))) : wp_M_way x1 x2 x3 x4 σ post := by
  have hN := ok.2.1
  have hL := ok.2.2.2.1
  have g : GG (us σ 0 0) N Lt s0 W := ⟨hg.1, hg.2.1, hg.2.2.1, hg.2.2.2⟩
  unfold wp_M_way
  refine m_isNode g.1 (by omega) (bz (fun e1 => h0' (by unfold wayR; rw [e1]; rfl)) (fun e1 => m_isLetter g.2.1 (by omega) (bz (fun e2 => h0' (by unfold wayR; rw [e1, e2]; rfl)) (fun e2 => m_isNode g.1 (by omega) (bz (fun e3 => h0' (by unfold wayR; rw [e1, e2, e3]; rfl)) (fun e3 => m_is g ok ?_))))))
  obtain ⟨a, ha, rfl⟩ := okb_ex (by omega) e1
  obtain ⟨l, hl, rfl⟩ := okb_ex (by omega) e2
  obtain ⟨t, ht, rfl⟩ := okb_ex (by omega) e3
  have hp := plc (a := a) (l := l) (by omega) (by omega)
  unfold wayR at h0 h1
  rw [e1, e2, e3, nI_clamp (by omega), nI_clamp (by omega), nI_clamp (by omega)] at h0 h1
  rw [e1, e2, e3, nI_clamp (by omega), nI_clamp (by omega), nI_clamp (by omega), plc_m]
  refine ⟨fun c => ⟨vp_in_nI hp (by omega), vp_in_nI hp (by omega), ?_⟩, fun c => ?_⟩
  · rw [nI_clamp (by omega)]
    have e : (us (us σ 0 0) 0 0).2 0 = W := hg.2.2.2
    have := h1 (by simpa using c)
    unfold fl at this
    rw [← e] at this
    exact this
  · exact h0 (by simpa using c)
end
section
/-! NODES AND WAYS, 2: begin, fill, turn, start, is. -/
theorem uA_uA (σ : St) (k : Nat) (f g : Nat → Int32) : uA (uA σ k f) k g = uA σ k g := by unfold uA; rw [bx_uu]
theorem uA_id (σ : St) (k : Nat) : uA σ k (σ.2 k) = σ := by
  unfold uA
  have : va_up σ.2 k (σ.2 k) = σ.2 := by
    funext j
    unfold va_up
    by_cases e : j = k
    · simp [e]
    · simp [e]
  rw [this]
/-- a row with v from i to m -/
def fll (f : Nat → Int32) (i m : Nat) (v : Int32) : Nat → Int32 := fun k => if i ≤ k ∧ k < m then v else f k
theorem fll_step {f : Nat → Int32} {i m : Nat} {v : Int32} (h : i < m) : fll (upd f i v) (i + 1) m v = fll f i m v := by
  funext k
  unfold fll upd
  by_cases e : k = i
  · subst e; simp [h]
  · by_cases c : i ≤ k ∧ k < m
    · have : i + 1 ≤ k ∧ k < m := by omega
      simp [c, this]
    · have : ¬ (i + 1 ≤ k ∧ k < m) := by omega
      simp [c, this, e]
theorem fll_end (f : Nat → Int32) (m : Nat) (v : Int32) : fll f m m v = f := by
  funext k
  unfold fll
  have : ¬ (m ≤ k ∧ k < m) := by omega
  simp [this]
theorem a_fill2 {post : St → Prop} {v : Int32} : ∀ (d i : Nat) (σ : St), i + d = 960 → post (uA σ 0 (fll (σ.2 0) i 960 v)) → L_A_fill2_2_5 post (d + 1) v (nI i) (nI 960) σ := by
  intro d
  induction d with
  | zero =>
    intro i σ hi h
    have : i = 960 := by omega
    subst this
    rw [fll_end, uA_id] at h
    exact ⟨fun _ => h, fun c => absurd (nI_le (Nat.le_refl 960) (by omega)) c⟩
  | succ d ih =>
    intro i σ hi h
    refine ⟨fun c => absurd c (nI_ge (by omega) (by omega)), fun _ => ⟨vp_in_nI (by omega) (by omega), ?_⟩⟩
    rw [nI_clamp (by omega), nI_1]
    refine ih (i + 1) _ (by omega) ?_
    rw [uA_uA, uA_s, fll_step (by omega)]
    exact h
theorem a_fill7 {post : St → Prop} {v x1 : Int32} {n : Nat} (hn : n ≤ 120) : ∀ (d i : Nat) (σ : St), i + d = n → post (uA σ 4 (fll (σ.2 4) i n v)) → L_A_fill4_7_10 post (d + 1) x1 (nI n) v (nI i) σ := by
  intro d
  induction d with
  | zero =>
    intro i σ hi h
    have : i = n := by omega
    subst this
    rw [fll_end, uA_id] at h
    exact ⟨fun _ => h, fun c => absurd (nI_le (Nat.le_refl i) (by omega)) c⟩
  | succ d ih =>
    intro i σ hi h
    refine ⟨fun c => absurd c (nI_ge (by omega) (by omega)), fun _ => ⟨vp_in_nI (by omega) (by omega), ?_⟩⟩
    rw [nI_clamp (by omega), nI_1]
    refine ih (i + 1) _ (by omega) ?_
    rw [uA_uA, uA_s, fll_step (by omega)]
    exact h
theorem a_fill9 {post : St → Prop} {v x1 : Int32} {n : Nat} (hn : n ≤ 120) : ∀ (d i : Nat) (σ : St), i + d = n → post (uA σ 6 (fll (σ.2 6) i n v)) → L_A_fill4_9_10 post (d + 1) x1 (nI n) v (nI i) σ := by
  intro d
  induction d with
  | zero =>
    intro i σ hi h
    have : i = n := by omega
    subst this
    rw [fll_end, uA_id] at h
    exact ⟨fun _ => h, fun c => absurd (nI_le (Nat.le_refl i) (by omega)) c⟩
  | succ d ih =>
    intro i σ hi h
    refine ⟨fun c => absurd c (nI_ge (by omega) (by omega)), fun _ => ⟨vp_in_nI (by omega) (by omega), ?_⟩⟩
    rw [nI_clamp (by omega), nI_1]
    refine ih (i + 1) _ (by omega) ?_
    rw [uA_uA, uA_s, fll_step (by omega)]
    exact h
theorem a_range {σ : St} {post : St → Prop} {n : Nat} (hn : n ≤ 120) (h : post σ) : wp_A_rangeCheck3 (nI 120) 0 (nI n) σ post := by
  have h1 : (0 : Int32) ≤ nI n := nI_pos' (by omega)
  have h2 : nI n ≤ nI 120 := nI_le hn (by omega)
  exact ⟨fun _ => ⟨fun _ => ⟨fun _ => h, fun c => c h2⟩, fun c => c (by decide)⟩, fun c => c h1⟩
theorem a_fill4_7 {σ : St} {post : St → Prop} {v : Int32} {n : Nat} (hn : n ≤ 120) (h : post (uA σ 4 (fll (σ.2 4) 0 n v))) : wp_A_fill4_7 0 (nI n) v σ post := a_range hn ⟨n + 1, a_fill7 hn n 0 σ (by omega) h⟩
theorem a_fill4_9 {σ : St} {post : St → Prop} {v : Int32} {n : Nat} (hn : n ≤ 120) (h : post (uA σ 6 (fll (σ.2 6) 0 n v))) : wp_A_fill4_9 0 (nI n) v σ post := a_range hn ⟨n + 1, a_fill9 hn n 0 σ (by omega) h⟩
/-- begin: a pair of numbers in range -/
def begR (x1 x2 : Int32) : Prop := ¬ x1 < 1 ∧ ¬ nI 24 < x1 ∧ ¬ x2 < 1 ∧ x2 ≤ nI 40
theorem beg_ex {x1 x2 : Int32} (h : begR x1 x2) : ∃ N Lt, 1 ≤ N ∧ N ≤ 24 ∧ 1 ≤ Lt ∧ Lt ≤ 40 ∧ x1 = nI N ∧ x2 = nI Lt := by
  obtain ⟨h1, h2, h3, h4⟩ := h
  have a1 := Int32.not_lt.mp h1
  have a2 := Int32.not_lt.mp h2
  have a3 := Int32.not_lt.mp h3
  have n1 : ¬ x1 < 0 := fun c => by
    have := Int32.le_iff_toInt_le.mp a1
    have := Int32.lt_iff_toInt_lt.mp c
    have e1 : (1 : Int32).toInt = 1 := by decide
    have e0 : (0 : Int32).toInt = 0 := by decide
    omega
  have n2 : ¬ x2 < 0 := fun c => by
    have := Int32.le_iff_toInt_le.mp a3
    have := Int32.lt_iff_toInt_lt.mp c
    have e1 : (1 : Int32).toInt = 1 := by decide
    have e0 : (0 : Int32).toInt = 0 := by decide
    omega
  obtain ⟨N, hN, rfl⟩ := nI_of n1
  obtain ⟨Lt, hL, rfl⟩ := nI_of n2
  refine ⟨N, Lt, ?_, (nI_leI hN (by omega)).mp a2, ?_, (nI_leI hL (by omega)).mp h4, rfl, rfl⟩
  · exact (nI_leI (a := 1) (by omega) hN).mp a1
  · exact (nI_leI (a := 1) (by omega) hL).mp a3
theorem w_begin {σ : St} {x1 x2 : Int32} {post : Int32 → St → Prop} (h0 : ¬ begR x1 x2 → post 0 σ) (h1 : begR x1 x2 → post 1 (uA (us (us (us σ 1 x1) 2 x2) 3 0) 0 (fll (σ.2 0) 0 960 0))) : wp_W_begin x1 x2 σ post := by
  unfold wp_W_begin
  refine ⟨fun c => h0 (fun z => z.1 c), fun c1 => ⟨fun c => h0 (fun z => z.2.1 c), fun c2 => ⟨fun c => h0 (fun z => z.2.2.1 c), fun c3 => ⟨fun c4 => ?_, fun c => h0 (fun z => c z.2.2.2)⟩⟩⟩⟩
  exact ⟨961, a_fill2 960 0 _ (by omega) (h1 ⟨c1, c2, c3, c4⟩)⟩
theorem m_begin_loop {post : Int32 → St → Prop} {x1 x2 : Int32} : ∀ (d i : Nat) (σ : St), i + d = 960 → post 1 (uA σ 0 (fll (σ.2 0) i 960 0)) → L_M_begin_46 post (d + 1) x1 x2 (nI i) σ := by
  intro d
  induction d with
  | zero =>
    intro i σ hi h
    have : i = 960 := by omega
    subst this
    rw [fll_end, uA_id] at h
    exact ⟨fun _ => h, fun c => absurd (nI_le (Nat.le_refl 960) (by omega)) c⟩
  | succ d ih =>
    intro i σ hi h
    refine ⟨fun c => absurd c (nI_ge (by omega) (by omega)), fun _ => ⟨vp_in_nI (by omega) (by omega), ?_⟩⟩
    rw [nI_clamp (by omega), nI_1]
    refine ih (i + 1) _ (by omega) ?_
    rw [uA_uA, uA_s, fll_step (by omega)]
    exact h
theorem m_begin {σ : St} {x1 x2 : Int32} {post : Int32 → St → Prop} (h0 : ¬ begR x1 x2 → post 0 (us σ 0 0)) (h1 : begR x1 x2 → post 1 (uA (us (us (us (us σ 0 0) 1 x1) 2 x2) 3 0) 0 (fll (σ.2 0) 0 960 0))) : wp_M_begin x1 x2 σ post := by
  unfold wp_M_begin
  refine ⟨fun c => h0 (fun z => z.1 c), fun c1 => ⟨fun c => h0 (fun z => z.2.1 c), fun c2 => ⟨fun c => h0 (fun z => z.2.2.1 c), fun c3 => ⟨fun c4 => ?_, fun c => h0 (fun z => c z.2.2.2)⟩⟩⟩⟩
  exact ⟨961, m_begin_loop 960 0 _ (by omega) (h1 ⟨c1, c2, c3, c4⟩)⟩
theorem beg_ok {N Lt s0 N' Lt' : Nat} {W : Nat → Int32} (h : okG N Lt s0 W) (h1 : 1 ≤ N') (h2 : N' ≤ 24) (h3 : 1 ≤ Lt') (h4 : Lt' ≤ 40) : okG N' Lt' 0 (fll W 0 960 0) := by
  refine ⟨h1, h2, h3, h4, by omega, fun k i hi hb => ?_⟩
  unfold fll at hb
  by_cases c : 0 ≤ k ∧ k < 960
  · rw [if_pos c, b_0] at hb; cases hb
  · rw [if_neg c] at hb
    have := h.2.2.2.2.2 k i hi hb
    have := h.2.2.2.1
    omega
/-- fill -/
def flW (l t : Nat) (W : Nat → Int32) : Nat → (Nat → Int32)
  | 0 => W
  | k + 1 => if bt (flW l t W k (24 * l + k)) t = true then flW l t W k else fl (flW l t W k) (24 * l + k) t
def flN (l t : Nat) (W : Nat → Int32) : Nat → Nat
  | 0 => 0
  | k + 1 => if bt (flW l t W k (24 * l + k)) t = true then flN l t W k else flN l t W k + 1
theorem flW_ok {N Lt s0 : Nat} {W : Nat → Int32} (h : okG N Lt s0 W) {l t : Nat} (hl : l < Lt) (ht : t < N) : ∀ k, k ≤ N → okG N Lt s0 (flW l t W k) := by
  intro k
  induction k with
  | zero => intro _; exact h
  | succ k ih =>
    intro hk
    show okG N Lt s0 (if _ then _ else _)
    split
    · exact ih (by omega)
    · exact fl_ok (ih (by omega)) (by omega) hl ht
theorem w_fill_loop {post : Int32 → St → Prop} {N Lt s0 l t : Nat} {W : Nat → Int32} (hN : N ≤ 24) (hl : l < 40) (ht : t < 24) : ∀ (d i : Nat) (σ : St), i + d = N → σ.1 1 = nI N → σ.2 0 = flW l t W i → post (nI (flN l t W N)) (uA σ 0 (flW l t W N)) → L_W_fill_29 post (d + 1) (nI l) (nI t) (nI (flN l t W i)) (nI i) σ := by
  intro d
  induction d with
  | zero =>
    intro i σ hi h1 h2 h
    have : i = N := by omega
    subst this
    rw [← h2, uA_id] at h
    exact ⟨fun _ => h, fun c => absurd (by rw [h1]; exact nI_le (Nat.le_refl i) (by omega)) c⟩
  | succ d ih =>
    intro i σ hi h1 h2 h
    refine ⟨fun c => absurd c (by rw [h1]; exact nI_ge (by omega) (by omega)), fun _ => ?_⟩
    refine g_holds h2 (by omega) hl ht (bz' (fun e => ?_) (fun e => ?_))
    · refine g_flip (by omega) hl ?_
      rw [nI_1, nI_1, h2]
      have e1 : flN l t W (i + 1) = flN l t W i + 1 := by show (if _ then _ else _) = _; rw [if_neg (by rw [e]; decide)]
      have e2 : flW l t W (i + 1) = fl (flW l t W i) (24 * l + i) t := by show (if _ then _ else _) = _; rw [if_neg (by rw [e]; decide)]
      rw [← e1, ← e2]
      refine ih (i + 1) _ (by omega) h1 (uA_s _ _ _) ?_
      rw [uA_uA]
      exact h
    · rw [nI_1]
      have e1 : flN l t W (i + 1) = flN l t W i := by show (if _ then _ else _) = _; rw [if_pos e]
      have e2 : flW l t W (i + 1) = flW l t W i := by show (if _ then _ else _) = _; rw [if_pos e]
      rw [← e1]
      exact ih (i + 1) _ (by omega) h1 (by rw [e2]; exact h2) h
def filR (N Lt : Nat) (x1 x2 : Int32) : Bool := okb x1 Lt && okb x2 N
theorem w_fill {σ : St} {x1 x2 : Int32} {N Lt s0 : Nat} {W : Nat → Int32} {post : Int32 → St → Prop} (hg : GG σ N Lt s0 W) (ok : okG N Lt s0 W) (h0 : filR N Lt x1 x2 = false → post (-1) σ) (h1 : ∀ l t, l < Lt → t < N → x1 = nI l → x2 = nI t → filR N Lt x1 x2 = true → post (nI (flN l t W N)) (uA σ 0 (flW l t W N))) : wp_W_fill x1 x2 σ post := by
  have hN := ok.2.1
  have hL := ok.2.2.2.1
  unfold wp_W_fill
  refine g_hasLetter hg.2.1 (by omega) (bz (fun e => h0 (by unfold filR; rw [e]; rfl)) (fun e1 => g_hasNode hg.1 (by omega) (bz' (fun e => h0 (by unfold filR; rw [e1, e]; rfl)) (fun e2 => ?_))))
  obtain ⟨l, hl, e3⟩ := okb_ex (by omega) e1
  obtain ⟨t, ht, e4⟩ := okb_ex (by omega) e2
  have hp := h1 l t hl ht e3 e4 (by unfold filR; rw [e1, e2]; rfl)
  rw [e3, e4]
  exact ⟨N + 1, w_fill_loop (s0 := s0) (Lt := Lt) hN (by omega) (by omega) N 0 σ (by omega) hg.1 hg.2.2.2 hp⟩
theorem m_fill_loop {post : Int32 → St → Prop} {N Lt s0 l t : Nat} {W : Nat → Int32} (ok : okG N Lt s0 W) (hl : l < Lt) (ht : t < N) (hp : ∀ τ, GG τ N Lt s0 (flW l t W N) → (∀ k, k ≠ 0 → τ.2 k = τ.2 k) → True) : ∀ (d i : Nat) (σ : St), i + d = N → GG σ N Lt s0 (flW l t W i) → (∀ τ : St, Fr σ τ [0] [0] → GG τ N Lt s0 (flW l t W N) → post (nI (flN l t W N)) τ) → L_M_fill_28 post (d + 1) (nI l) (nI t) (nI (flN l t W i)) (nI i) σ := by
  have hN := ok.2.1
  have hL := ok.2.2.2.1
  intro d
  induction d with
  | zero =>
    intro i σ hi hg h
    have : i = N := by omega
    subst this
    exact ⟨fun _ => h σ Fr.rf hg, fun c => absurd (by rw [hg.1]; exact nI_le (Nat.le_refl i) (by omega)) c⟩
  | succ d ih =>
    intro i σ hi hg h
    refine ⟨fun c => absurd c (by rw [hg.1]; exact nI_ge (by omega) (by omega)), fun _ => ?_⟩
    have oki := flW_ok ok hl ht i (by omega)
    have key : wayR N Lt (flW l t W i) (nI i) (nI l) (nI t) 1 = !bt (flW l t W i (24 * l + i)) t := by
      unfold wayR
      rw [okb_nI (by omega) (by omega), okb_nI hl (by omega), okb_nI ht (by omega), nI_clamp (by omega), nI_clamp (by omega), nI_clamp (by omega)]
      cases bt (flW l t W i (24 * l + i)) t <;> rfl
    have done : ∀ τ : St, Fr σ τ [0] [0] → GG τ N Lt s0 (flW l t W (i + 1)) → L_M_fill_28 post (d + 1) (nI l) (nI t) (nI (flN l t W (i + 1))) (nI (i + 1)) τ := fun τ hf hg' =>
      ih (i + 1) τ (by omega) hg' (fun υ hf' hg'' => h υ (hf.tr hf') hg'')
    refine m_way hg oki (fun e => ?_) (fun e => ?_) (fun e => ?_)
    · rw [key] at e
      have e : bt (flW l t W i (24 * l + i)) t = true := by cases z : bt (flW l t W i (24 * l + i)) t; rw [z] at e; cases e; rfl
      have e1 : flN l t W (i + 1) = flN l t W i := by show (if _ then _ else _) = _; rw [if_pos e]
      have e2 : flW l t W (i + 1) = flW l t W i := by show (if _ then _ else _) = _; rw [if_pos e]
      refine ⟨fun _ => ?_, fun c => absurd rfl c⟩
      rw [nI_1, Int32.add_zero, ← e1]
      exact done _ (Fr.us (Fr.us Fr.rf (by simp)) (by simp)) (by rw [e2]; exact ⟨hg.1, hg.2.1, hg.2.2.1, hg.2.2.2⟩)
    · rw [key] at e
      have e : bt (flW l t W i (24 * l + i)) t = true := by cases z : bt (flW l t W i (24 * l + i)) t; rw [z] at e; cases e; rfl
      have e1 : flN l t W (i + 1) = flN l t W i := by show (if _ then _ else _) = _; rw [if_pos e]
      have e2 : flW l t W (i + 1) = flW l t W i := by show (if _ then _ else _) = _; rw [if_pos e]
      refine ⟨fun _ => ?_, fun c => absurd rfl c⟩
      rw [nI_1, Int32.add_zero, ← e1]
      exact done _ (Fr.us Fr.rf (by simp)) (by rw [e2]; exact ⟨hg.1, hg.2.1, hg.2.2.1, hg.2.2.2⟩)
    · rw [key] at e
      have e : ¬ bt (flW l t W i (24 * l + i)) t = true := by intro z; rw [z] at e; cases e
      have e1 : flN l t W (i + 1) = flN l t W i + 1 := by show (if _ then _ else _) = _; rw [if_neg e]
      have e2 : flW l t W (i + 1) = fl (flW l t W i) (24 * l + i) t := by show (if _ then _ else _) = _; rw [if_neg e]
      refine ⟨fun c => absurd c (by decide), fun _ => ?_⟩
      rw [nI_1, nI_1, ← e1, nI_clamp (by omega), nI_clamp (by omega), nI_clamp (by omega), ← e2]
      exact done _ (Fr.uA (Fr.us (Fr.us Fr.rf (by simp)) (by simp)) (by simp)) ⟨hg.1, hg.2.1, hg.2.2.1, uA_s _ _ _⟩
theorem m_fill {σ : St} {x1 x2 : Int32} {N Lt s0 : Nat} {W : Nat → Int32} {post : Int32 → St → Prop} (hg : GG σ N Lt s0 W) (ok : okG N Lt s0 W) (h0 : filR N Lt x1 x2 = false → post (-1) (us σ 0 0)) (h1 : ∀ l t, l < Lt → t < N → x1 = nI l → x2 = nI t → filR N Lt x1 x2 = true → ∀ τ : St, Fr σ τ [0] [0] → GG τ N Lt s0 (flW l t W N) → post (nI (flN l t W N)) τ) : wp_M_fill x1 x2 σ post := by
  have hN := ok.2.1
  have hL := ok.2.2.2.1
  have g : GG (us σ 0 0) N Lt s0 W := ⟨hg.1, hg.2.1, hg.2.2.1, hg.2.2.2⟩
  unfold wp_M_fill
  refine m_isLetter g.2.1 (by omega) (bz (fun e => h0 (by unfold filR; rw [e]; rfl)) (fun e1 => m_isNode g.1 (by omega) (bz' (fun e => h0 (by unfold filR; rw [e1, e]; rfl)) (fun e2 => ?_))))
  obtain ⟨l, hl, e3⟩ := okb_ex (by omega) e1
  obtain ⟨t, ht, e4⟩ := okb_ex (by omega) e2
  have hp := h1 l t hl ht e3 e4 (by unfold filR; rw [e1, e2]; rfl)
  rw [e3, e4]
  exact ⟨N + 1, m_fill_loop ok hl ht (fun _ _ _ => trivial) N 0 _ (by omega) g (fun τ hf hg' => hp τ ((Fr.us Fr.rf (by simp)).tr hf) hg')⟩
end
section
/-! NODES AND WAYS, 3: turn, start, is, home. -/
def sw (l a b : Nat) (W : Nat → Int32) : Nat → Int32 := if bt (W (24 * l + a)) b = bt (W (24 * l + b)) a then W else fl (fl W (24 * l + a) b) (24 * l + b) a
def swB (l a : Nat) (W : Nat → Int32) : Nat → (Nat → Int32)
  | 0 => W
  | b + 1 => sw l a b (swB l a W b)
def swA (l : Nat) (W : Nat → Int32) : Nat → (Nat → Int32)
  | 0 => W
  | a + 1 => swB l a (swA l W a) a
def swL (N : Nat) (W : Nat → Int32) : Nat → (Nat → Int32)
  | 0 => W
  | l + 1 => swA l (swL N W l) N
theorem sw_ok {N Lt s0 l a b : Nat} {W : Nat → Int32} (h : okG N Lt s0 W) (hl : l < Lt) (ha : a < N) (hb : b < N) : okG N Lt s0 (sw l a b W) := by
  unfold sw
  split
  · exact h
  · exact fl_ok (fl_ok h ha hl hb) hb hl ha
theorem swB_ok {N Lt s0 l a : Nat} {W : Nat → Int32} (h : okG N Lt s0 W) (hl : l < Lt) (ha : a < N) : ∀ b, b ≤ N → okG N Lt s0 (swB l a W b) := by
  intro b
  induction b with
  | zero => intro _; exact h
  | succ b ih => intro hb; exact sw_ok (ih (by omega)) hl ha (by omega)
theorem swA_ok {N Lt s0 l : Nat} {W : Nat → Int32} (h : okG N Lt s0 W) (hl : l < Lt) : ∀ a, a ≤ N → okG N Lt s0 (swA l W a) := by
  intro a
  induction a with
  | zero => intro _; exact h
  | succ a ih => intro ha; exact swB_ok (ih (by omega)) hl (by omega) a (by omega)
theorem swL_ok {N Lt s0 : Nat} {W : Nat → Int32} (h : okG N Lt s0 W) : ∀ l, l ≤ Lt → okG N Lt s0 (swL N W l) := by
  intro l
  induction l with
  | zero => intro _; exact h
  | succ l ih => intro hl; exact swA_ok (ih (by omega)) (by omega) N (Nat.le_refl N)
theorem g_tr12 {post : St → Prop} {K : Int32 → Int32 → St → Prop} {l a : Nat} {W : Nat → Int32} (hl : l < 40) (ha : a < 24) : ∀ (d b : Nat) (σ : St), b + d = a → σ.2 0 = swB l a W b → K (nI l) (nI (a + 1)) (uA σ 0 (swB l a W a)) → L_G_transpose_12 post K (d + 1) (nI l) (nI a) (nI b) σ := by
  intro d
  induction d with
  | zero =>
    intro b σ hb h2 h
    have : b = a := by omega
    subst this
    rw [← h2, uA_id] at h
    refine ⟨fun _ => ?_, fun c => absurd (nI_le (Nat.le_refl b) (by omega)) c⟩
    rw [nI_1]
    exact h
  | succ d ih =>
    intro b σ hb h2 h
    refine ⟨fun c => absurd c (nI_ge (by omega) (by omega)), fun _ => ?_⟩
    refine g_holds h2 ha hl (by omega) ?_
    refine g_holds h2 (by omega) hl ha ⟨fun c => ?_, fun c => ?_⟩
    · have c := bI_inj.mp c
      rw [nI_1]
      have e : swB l a W (b + 1) = swB l a W b := by show sw l a b _ = _; unfold sw; rw [if_pos c]
      exact ih (b + 1) σ (by omega) (by rw [e]; exact h2) h
    · have c : ¬ bt (swB l a W b (24 * l + a)) b = bt (swB l a W b (24 * l + b)) a := fun z => c (by rw [z])
      have e : swB l a W (b + 1) = fl (fl (swB l a W b) (24 * l + a) b) (24 * l + b) a := by show sw l a b _ = _; unfold sw; rw [if_neg c]
      refine g_flip ha hl (g_flip (by omega) hl ?_)
      rw [nI_1, uA_uA, uA_s, h2, ← e]
      refine ih (b + 1) _ (by omega) (uA_s _ _ _) ?_
      rw [uA_uA]
      exact h
theorem g_tr2 {post : St → Prop} {l N : Nat} {W : Nat → Int32} (hl : l < 40) (hN : N ≤ 24) : ∀ (d a : Nat) (σ : St), a + d = N → σ.1 1 = nI N → σ.2 0 = swA l W a → post (uA σ 0 (swA l W N)) → L_G_transpose_2 post (d + 1) (nI l) (nI a) σ := by
  intro d
  induction d with
  | zero =>
    intro a σ ha h1 h2 h
    have : a = N := by omega
    subst this
    rw [← h2, uA_id] at h
    exact ⟨fun _ => h, fun c => absurd (by rw [h1]; exact nI_le (Nat.le_refl a) (by omega)) c⟩
  | succ d ih =>
    intro a σ ha h1 h2 h
    refine ⟨fun c => absurd c (by rw [h1]; exact nI_ge (by omega) (by omega)), fun _ => ⟨a + 1, ?_⟩⟩
    refine g_tr12 (W := swA l W a) hl (by omega) a 0 σ (by omega) h2 ?_
    refine ih (a + 1) _ (by omega) h1 (uA_s _ _ _) ?_
    rw [uA_uA]
    exact h
theorem g_transpose {σ : St} {post : St → Prop} {l N : Nat} {W : Nat → Int32} (hl : l < 40) (hN : N ≤ 24) (h0 : 1 ≤ N) (h1 : σ.1 1 = nI N) (h2 : σ.2 0 = W) (h : post (uA σ 0 (swA l W N))) : wp_G_transpose (nI l) σ post :=
  ⟨N, by
    have := g_tr2 (post := post) (W := W) hl hN (N - 1) 1 σ (by omega) h1 h2 h
    rwa [show N - 1 + 1 = N by omega] at this⟩
theorem w_turn_loop {post : St → Prop} {N Lt : Nat} {W : Nat → Int32} (h0 : 1 ≤ N) (hN : N ≤ 24) (hL : Lt ≤ 40) : ∀ (d l : Nat) (σ : St), l + d = Lt → σ.1 1 = nI N → σ.1 2 = nI Lt → σ.2 0 = swL N W l → post (uA σ 0 (swL N W Lt)) → L_W_turn_2 post (d + 1) (nI l) σ := by
  intro d
  induction d with
  | zero =>
    intro l σ hl h1 h3 h2 h
    have : l = Lt := by omega
    subst this
    rw [← h2, uA_id] at h
    exact ⟨fun _ => h, fun c => absurd (by rw [h3]; exact nI_le (Nat.le_refl l) (by omega)) c⟩
  | succ d ih =>
    intro l σ hl h1 h3 h2 h
    refine ⟨fun c => absurd c (by rw [h3]; exact nI_ge (by omega) (by omega)), fun _ => ?_⟩
    refine g_transpose (by omega) hN h0 h1 h2 ?_
    rw [nI_1]
    refine ih (l + 1) _ (by omega) h1 h3 (uA_s _ _ _) ?_
    rw [uA_uA]
    exact h
theorem w_turn {σ : St} {post : St → Prop} {N Lt s0 : Nat} {W : Nat → Int32} (hg : GG σ N Lt s0 W) (ok : okG N Lt s0 W) (h : post (uA σ 0 (swL N W Lt))) : wp_W_turn σ post := ⟨Lt + 1, w_turn_loop ok.1 ok.2.1 ok.2.2.2.1 Lt 0 σ (by omega) hg.1 hg.2.1 hg.2.2.2 h⟩
theorem m_tr27 {post : St → Prop} {K : Int32 → Int32 → St → Prop} {l a : Nat} {W : Nat → Int32} (hl : l < 40) (ha : a < 24) : ∀ (d b : Nat) (σ : St), b + d = a → σ.2 0 = swB l a W b → K (nI l) (nI (a + 1)) (uA σ 0 (swB l a W a)) → L_M_turn_27 post K (d + 1) (nI l) (nI a) (nI b) σ := by
  intro d
  induction d with
  | zero =>
    intro b σ hb h2 h
    have : b = a := by omega
    subst this
    rw [← h2, uA_id] at h
    refine ⟨fun _ => ?_, fun c => absurd (nI_le (Nat.le_refl b) (by omega)) c⟩
    rw [nI_1]
    exact h
  | succ d ih =>
    intro b σ hb h2 h
    have p1 := plc (a := a) (l := l) ha hl
    have p2 := plc (a := b) (l := l) (by omega) hl
    have i1 : vp_in (nI (24 * l + a)) 960 := vp_in_nI p1 (by omega)
    have i2 : vp_in (nI (24 * l + b)) 960 := vp_in_nI p2 (by omega)
    refine ⟨fun c => absurd c (nI_ge (by omega) (by omega)), fun _ => ?_⟩
    rw [plc_m, plc_m]
    refine ⟨i1, i2, ?_⟩
    rw [nI_clamp (n := 24 * l + a) (by omega), nI_clamp (n := 24 * l + b) (by omega), h2, s_bit _ (by omega), s_bit _ (by omega)]
    refine ⟨fun c => ?_, fun c => ⟨i1, i1, i2, i2, ?_⟩⟩
    · have c := bI_inj.mp c
      rw [nI_1]
      have e : swB l a W (b + 1) = swB l a W b := by show sw l a b _ = _; unfold sw; rw [if_pos c]
      exact ih (b + 1) σ (by omega) (by rw [e]; exact h2) h
    · have c : ¬ bt (swB l a W b (24 * l + a)) b = bt (swB l a W b (24 * l + b)) a := fun z => c (by rw [z])
      have e : swB l a W (b + 1) = fl (fl (swB l a W b) (24 * l + a) b) (24 * l + b) a := by show sw l a b _ = _; unfold sw; rw [if_neg c]
      rw [nI_1]
      have e2 : ua (ua σ 0 (24 * l + a) (swB l a W b (24 * l + a) ^^^ ((1 : Int32) <<< (nI b &&& 31)))) 0 (24 * l + b) ((ua σ 0 (24 * l + a) (swB l a W b (24 * l + a) ^^^ ((1 : Int32) <<< (nI b &&& 31)))).2 0 (24 * l + b) ^^^ ((1 : Int32) <<< (nI a &&& 31))) = uA σ 0 (swB l a W (b + 1)) := by
        unfold ua
        rw [uA_uA, uA_s, h2, e]
        rfl
      rw [e2]
      refine ih (b + 1) _ (by omega) (uA_s _ _ _) ?_
      rw [uA_uA]
      exact h
theorem m_tr17 {post : St → Prop} {K : Int32 → St → Prop} {l N : Nat} {W : Nat → Int32} (hl : l < 40) (hN : N ≤ 24) : ∀ (d a : Nat) (σ : St), a + d = N → σ.1 1 = nI N → σ.2 0 = swA l W a → K (nI (l + 1)) (uA σ 0 (swA l W N)) → L_M_turn_17 post K (d + 1) (nI l) (nI a) σ := by
  intro d
  induction d with
  | zero =>
    intro a σ ha h1 h2 h
    have : a = N := by omega
    subst this
    rw [← h2, uA_id] at h
    refine ⟨fun _ => ?_, fun c => absurd (by rw [h1]; exact nI_le (Nat.le_refl a) (by omega)) c⟩
    rw [nI_1]
    exact h
  | succ d ih =>
    intro a σ ha h1 h2 h
    refine ⟨fun c => absurd c (by rw [h1]; exact nI_ge (by omega) (by omega)), fun _ => ⟨a + 1, ?_⟩⟩
    refine m_tr27 (W := swA l W a) hl (by omega) a 0 σ (by omega) h2 ?_
    refine ih (a + 1) _ (by omega) h1 (uA_s _ _ _) ?_
    rw [uA_uA]
    exact h
theorem m_tr7 {post : St → Prop} {N Lt : Nat} {W : Nat → Int32} (hN : N ≤ 24) (hL : Lt ≤ 40) : ∀ (d l : Nat) (σ : St), l + d = Lt → σ.1 1 = nI N → σ.1 2 = nI Lt → σ.2 0 = swL N W l → post (uA σ 0 (swL N W Lt)) → L_M_turn_7 post (d + 1) (nI l) σ := by
  intro d
  induction d with
  | zero =>
    intro l σ hl h1 h3 h2 h
    have : l = Lt := by omega
    subst this
    rw [← h2, uA_id] at h
    exact ⟨fun _ => h, fun c => absurd (by rw [h3]; exact nI_le (Nat.le_refl l) (by omega)) c⟩
  | succ d ih =>
    intro l σ hl h1 h3 h2 h
    refine ⟨fun c => absurd c (by rw [h3]; exact nI_ge (by omega) (by omega)), fun _ => ⟨N + 1, ?_⟩⟩
    refine m_tr17 (W := swL N W l) (by omega) hN N 0 σ (by omega) h1 h2 ?_
    refine ih (l + 1) _ (by omega) h1 h3 (uA_s _ _ _) ?_
    rw [uA_uA]
    exact h
theorem m_turn {σ : St} {post : St → Prop} {N Lt s0 : Nat} {W : Nat → Int32} (hg : GG σ N Lt s0 W) (ok : okG N Lt s0 W) (h : post (uA (us σ 0 0) 0 (swL N W Lt))) : wp_M_turn σ post := ⟨Lt + 1, m_tr7 ok.2.1 ok.2.2.2.1 Lt 0 _ (by omega) hg.1 hg.2.1 hg.2.2.2 h⟩
theorem w_start {σ : St} {x : Int32} {post : Int32 → St → Prop} {N Lt s0 : Nat} {W : Nat → Int32} (hg : GG σ N Lt s0 W) (ok : okG N Lt s0 W) (h0 : okb x N = false → post 0 σ) (h1 : okb x N = true → post 1 (us σ 3 x)) : wp_W_start x σ post := g_hasNode hg.1 (by have := ok.2.1; omega) (bz' h0 h1)
theorem m_start {σ : St} {x : Int32} {post : Int32 → St → Prop} {N Lt s0 : Nat} {W : Nat → Int32} (hg : GG σ N Lt s0 W) (ok : okG N Lt s0 W) (h0 : okb x N = false → post 0 (us σ 0 0)) (h1 : okb x N = true → post 1 (us (us σ 0 0) 3 x)) : wp_M_start x σ post := m_isNode (σ := us σ 0 0) hg.1 (by have := ok.2.1; omega) (bz' h0 h1)
theorem w_is {σ : St} {x1 x2 x3 : Int32} {N Lt s0 : Nat} {W : Nat → Int32} {post : Int32 → St → Prop} (hg : GG σ N Lt s0 W) (ok : okG N Lt s0 W) (h : post (bI (okb x1 N && (okb x2 Lt && okb x3 N) && bt (W (24 * x2.toNatClampNeg + x1.toNatClampNeg)) x3.toNatClampNeg)) σ) : wp_W_is x1 x2 x3 σ post := by
  have hN := ok.2.1
  have hL := ok.2.2.2.1
  unfold wp_W_is
  refine g_canHold hg ok (bz (fun e => by rw [e] at h; exact h) (fun e => ?_))
  rw [e] at h
  simp only [Bool.and_eq_true] at e
  obtain ⟨e1, e2, e3⟩ := e
  obtain ⟨a, ha, rfl⟩ := okb_ex (by omega) e1
  obtain ⟨l, hl, rfl⟩ := okb_ex (by omega) e2
  obtain ⟨t, ht, rfl⟩ := okb_ex (by omega) e3
  rw [nI_clamp (by omega), nI_clamp (by omega), nI_clamp (by omega)] at h
  exact g_holds hg.2.2.2 (by omega) (by omega) (by omega) (bz (fun e => by rw [e] at h; exact h) (fun e => by rw [e] at h; exact h))
end
