/-! THE FRAME OF THIS PROOF: a judgement VV (a world, locals, a place, a stack), a row an instruction; contracts CI, CV over weakest preconditions. -/
abbrev St : Type := (Nat → Int32) × (Nat → Nat → Int32)
def us (σ : St) (k : Nat) (v : Int32) : St := (upd σ.1 k v, σ.2)
def uA (σ : St) (k : Nat) (f : Nat → Int32) : St := (σ.1, va_up σ.2 k f)
abbrev ua (σ : St) (k i : Nat) (v : Int32) : St := uA σ k (upd (σ.2 k) i v)
def ush (x y : Int32) : Int32 := (x.toUInt32 >>> (y.toUInt32 &&& Int32.toUInt32 31)).toInt32
def zb (v : Int32) : Prop := narrow .boolean (.int v) = .int v
/-- the words that hold on, and the words of nest mates -/
def T0 : List Cond := lw_tbl.filter goodWord
theorem T0_in {w : Cond} (h : w ∈ lw_tbl) (g : goodWord w = true) : w ∈ T0 := List.mem_filter.mpr ⟨h, g⟩
theorem T0_tb {w : Cond} (h : w ∈ T0) : w ∈ lw_tbl := (List.mem_filter.mp h).1
theorem T0_gd {w : Cond} (h : w ∈ T0) : w ∈ T0 ∧ ((w.onTables && w.keeps) = true ∨ ∃ ty, w = .arrayClass ty) := ⟨h, good_of_word (List.mem_filter.mp h).2⟩
theorem T0_cons {c : Cond} (h : c ∈ T0) : GoodIn T0 (c :: T0) := fun w hw => by
  rcases List.mem_cons.mp hw with e | e
  · rw [e]; exact T0_gd h
  · exact T0_gd e
theorem T0_app {l : List Cond} {c : Cond} (hl : ∀ w ∈ l, w ∈ T0) (h : c ∈ T0) : GoodIn T0 (l ++ (c :: T0)) := fun w hw => by
  rcases List.mem_append.mp hw with e | e
  · exact T0_gd (hl w e)
  · exact T0_cons h w e
def is_nest : Cond → Bool
  | .fieldLinkNest _ _ _ _ _ _ => true
  | .methodLinkNest _ _ _ _ => true
  | _ => false
def N0 : List Cond := lw_tbl.filter is_nest
theorem N0_in {w : Cond} (h : w ∈ lw_tbl) (g : is_nest w = true) : w ∈ N0 := List.mem_filter.mpr ⟨h, g⟩
def nw_all (U : State) : Prop := ∀ w ∈ N0, va_Nw w U
theorem nest_tab {w : Cond} (h : is_nest w = true) : w.onTables = true := by
  cases w <;> first | rfl | (simp [is_nest] at h)
theorem nw_warm {s U : State} (hW : s.WarmedH U.vm) (h : nw_all s) : nw_all U := by
  intro w hw
  have h1 := h w hw
  have h2 : is_nest w = true := (List.mem_filter.mp hw).2
  cases w <;> first | exact va_Nw.warmF hW h1 | exact va_Nw.warmM hW h1 | (simp [is_nest] at h2)
theorem nw_same {u U : State} (e : u.vm = U.vm) (h : nw_all u) : nw_all U := fun w hw => va_Nw.same (nest_tab (List.mem_filter.mp hw).2) e (h w hw)
/-- what a method runs in: machine, launch, env, room, start, method, args, frames below, method, code, its cells, its end, classes' numbers, the class of int[], locals -/
abbrev ZT := Program × Launch × Env × Room × State × MethodId × Array Value × List Frame × Method × Code × (Nat → Prop) × (State → Prop) × va_G × ClassId × Nat
abbrev zp (Z : ZT) : Program := Z.1
abbrev zl (Z : ZT) : Launch := Z.2.1
abbrev ze (Z : ZT) : Env := Z.2.2.1
abbrev zR (Z : ZT) : Room := Z.2.2.2.1
abbrev zs (Z : ZT) : State := Z.2.2.2.2.1
abbrev zm (Z : ZT) : MethodId := Z.2.2.2.2.2.1
abbrev za (Z : ZT) : Array Value := Z.2.2.2.2.2.2.1
abbrev zw (Z : ZT) : List Frame := Z.2.2.2.2.2.2.2.1
abbrev zt (Z : ZT) : Method := Z.2.2.2.2.2.2.2.2.1
abbrev zc (Z : ZT) : Code := Z.2.2.2.2.2.2.2.2.2.1
abbrev zA (Z : ZT) : Nat → Prop := Z.2.2.2.2.2.2.2.2.2.2.1
abbrev zQ (Z : ZT) : State → Prop := Z.2.2.2.2.2.2.2.2.2.2.2.1
abbrev zD (Z : ZT) : va_G := Z.2.2.2.2.2.2.2.2.2.2.2.2.1
abbrev zI (Z : ZT) : ClassId := Z.2.2.2.2.2.2.2.2.2.2.2.2.2.1
abbrev zn (Z : ZT) : Nat := Z.2.2.2.2.2.2.2.2.2.2.2.2.2.2
def VV (Z : ZT) (kc ns : Nat) (ws : va_W) (lv : List (Nat × Value)) (pc : Nat) (st : List Value) : Prop :=
  ∀ (H : Heap) (locs : List Loc) (ls : Array Slot), va_P (zD Z) classes ws H → va_D (zA Z) ws → va_S (zA Z) (zs Z).heap H locs → lv_has ls (zn Z) lv →
    W (zp Z) (zl Z) (ze Z) (zR Z) (zs Z) (zm Z) (za Z) (zw Z) (zt Z) (zc Z) H locs kc ns (zQ Z) (F0 (zm Z) pc ls st)
def Cx (Z : ZT) (own : String) (cc : ByteArray) (rm : Room) (nL : Nat) : Prop :=
  (zp Z).tables.exec = Jvm.exec ∧ (zc Z).code = cc ∧ (zc Z).maxLocals = zn Z ∧ (zs Z).vm.findClass own = some (zm Z).cls ∧ (∀ w ∈ T0, w.before (za Z) (zs Z) = true) ∧
  va_K (zD Z) classes [(zI Z, .int)] (zs Z) ∧ (∀ q, (zs Z).heap.size ≤ q → zA Z q) ∧ nw_all (zs Z) ∧ zR Z = rm ∧ zn Z = nL
/-- a class's rows: its number, its words, its names apart, its types -/
def Tb (ci : Nat) (C : String) (T : u_T) (N : Nat) : Prop := classes[ci]? = some (C, T, N) ∧ (∀ w ∈ u_ws C T N, w ∈ T0) ∧ (∀ a, a < N → ∀ b, b < N → a ≠ b → (T a).2.1 ≠ (T b).2.1) ∧ ∃ ty0 : Nat → FieldType, ∀ k, k < N → parseFieldDescriptor (T k).2.2.1 = some (ty0 k)
section XR
variable {Z : ZT} {own : String} {cc : ByteArray} {rm : Room} {nL kc ns pc : Nat} {ws : va_W} {lv : List (Nat × Value)} {st : List Value}
theorem x_drop {lv' : List (Nat × Value)} (ks : List Nat) (hk : lv_pick lv ks = lv') (h : VV Z kc ns ws lv' pc st) : VV Z kc ns ws lv pc st := fun H locs ls hP hD hS hl => h H locs ls hP hD hS (lv_sub hl ks hk)
theorem x_topi {x : Int32} (h : ∀ y : Int32, y = x → VV Z kc ns ws lv pc (.int y :: st)) : VV Z kc ns ws lv pc (.int x :: st) := h x rfl
theorem x_iconst (X : Cx Z own cc rm nL) {n : Int} {v : Int32} (hd : decode cc pc = .ok (.iconst n, 1)) (hv : Int32.ofInt n = v) (h : VV Z kc ns ws lv (pc + 1) (.int v :: st)) : VV Z kc ns ws lv pc st := fun H locs ls hP hD hS hl => lv_iconst X.1 X.2.1 hd hv (h H locs ls hP hD hS hl)
theorem x_bipush (X : Cx Z own cc rm nL) {n : Int} {v : Int32} (hd : decode cc pc = .ok (.bipush n, 2)) (hv : (Int8.ofInt n).toInt32 = v) (h : VV Z kc ns ws lv (pc + 2) (.int v :: st)) : VV Z kc ns ws lv pc st := fun H locs ls hP hD hS hl => lv_bipush X.1 X.2.1 hd hv (h H locs ls hP hD hS hl)
theorem x_sipush (X : Cx Z own cc rm nL) {n : Int} {v : Int32} (hd : decode cc pc = .ok (.sipush n, 3)) (hv : (Int16.ofInt n).toInt32 = v) (h : VV Z kc ns ws lv (pc + 3) (.int v :: st)) : VV Z kc ns ws lv pc st := fun H locs ls hP hD hS hl => lv_sipush X.1 X.2.1 hd hv (h H locs ls hP hD hS hl)
theorem x_ldc (X : Cx Z own cc rm nL) {idx : Nat} {v : Int32} (hw : Cond.constant own idx v ∈ T0) (hd : decode cc pc = .ok (.ldc idx, 2)) (h : VV Z kc ns ws lv (pc + 2) (.int v :: st)) : VV Z kc ns ws lv pc st := fun H locs ls hP hD hS hl => lv_ldc X.1 X.2.1 X.2.2.2.1 (X.2.2.2.2.1 _ hw) hd (h H locs ls hP hD hS hl)
theorem x_ldcw (X : Cx Z own cc rm nL) {idx : Nat} {v : Int32} (hw : Cond.constant own idx v ∈ T0) (hd : decode cc pc = .ok (.ldc_w idx, 3)) (h : VV Z kc ns ws lv (pc + 3) (.int v :: st)) : VV Z kc ns ws lv pc st := fun H locs ls hP hD hS hl => lv_ldcw X.1 X.2.1 X.2.2.2.1 (X.2.2.2.2.1 _ hw) hd (h H locs ls hP hD hS hl)
theorem x_iload_n (X : Cx Z own cc rm nL) {i : Fin 4} {x : Int32} (hd : decode cc pc = .ok (.iload_n i, 1)) (j : Nat) (hj : lv[j]? = some (i.val, .int x)) (h : VV Z kc ns ws lv (pc + 1) (.int x :: st)) : VV Z kc ns ws lv pc st := fun H locs ls hP hD hS hl => lv_iload_n X.1 X.2.1 hd rfl (lv_at hl j hj) (h H locs ls hP hD hS hl)
theorem x_iload (X : Cx Z own cc rm nL) {i : Nat} {x : Int32} (hd : decode cc pc = .ok (.iload i, 2)) (j : Nat) (hj : lv[j]? = some (i, .int x)) (h : VV Z kc ns ws lv (pc + 2) (.int x :: st)) : VV Z kc ns ws lv pc st := fun H locs ls hP hD hS hl => lv_iload X.1 X.2.1 hd (lv_at hl j hj) (h H locs ls hP hD hS hl)
theorem x_aload_n (X : Cx Z own cc rm nL) {i : Fin 4} {x : Nat} (hd : decode cc pc = .ok (.aload_n i, 1)) (j : Nat) (hj : lv[j]? = some (i.val, .ref x)) (h : VV Z kc ns ws lv (pc + 1) (.ref x :: st)) : VV Z kc ns ws lv pc st := fun H locs ls hP hD hS hl => lv_aload_n X.1 X.2.1 hd rfl (lv_at hl j hj) (h H locs ls hP hD hS hl)
theorem x_aload (X : Cx Z own cc rm nL) {i : Nat} {x : Nat} (hd : decode cc pc = .ok (.aload i, 2)) (j : Nat) (hj : lv[j]? = some (i, .ref x)) (h : VV Z kc ns ws lv (pc + 2) (.ref x :: st)) : VV Z kc ns ws lv pc st := fun H locs ls hP hD hS hl => lv_aload X.1 X.2.1 hd (lv_at hl j hj) (h H locs ls hP hD hS hl)
theorem x_istore_n (X : Cx Z own cc rm nL) {i : Fin 4} {x : Int32} {lv' : List (Nat × Value)} (hd : decode cc pc = .ok (.istore_n i, 1)) (hn : i.val < nL) (ks : List Nat) (hk : lv_pick ((i.val, Value.int x) :: lv.filter (fun q => !(q.1 == i.val) && !(q.1 + 1 == i.val && q.2.category == 2))) ks = lv') (h : VV Z kc ns ws lv' (pc + 1) st) : VV Z kc ns ws lv pc (.int x :: st) := fun H locs ls hP hD hS hl => lv_istore_n X.1 X.2.1 hd rfl hl (by rw [X.2.2.2.2.2.2.2.2.2]; exact hn) rfl (fun ls' hl' => h H locs ls' hP hD hS (lv_sub hl' ks hk))
theorem x_istore (X : Cx Z own cc rm nL) {i : Nat} {x : Int32} {lv' : List (Nat × Value)} (hd : decode cc pc = .ok (.istore i, 2)) (hn : i < nL) (ks : List Nat) (hk : lv_pick ((i, Value.int x) :: lv.filter (fun q => !(q.1 == i) && !(q.1 + 1 == i && q.2.category == 2))) ks = lv') (h : VV Z kc ns ws lv' (pc + 2) st) : VV Z kc ns ws lv pc (.int x :: st) := fun H locs ls hP hD hS hl => lv_istore X.1 X.2.1 hd hl (by rw [X.2.2.2.2.2.2.2.2.2]; exact hn) rfl (fun ls' hl' => h H locs ls' hP hD hS (lv_sub hl' ks hk))
theorem x_astore_n (X : Cx Z own cc rm nL) {i : Fin 4} {x : Nat} {lv' : List (Nat × Value)} (hd : decode cc pc = .ok (.astore_n i, 1)) (hn : i.val < nL) (ks : List Nat) (hk : lv_pick ((i.val, Value.ref x) :: lv.filter (fun q => !(q.1 == i.val) && !(q.1 + 1 == i.val && q.2.category == 2))) ks = lv') (h : VV Z kc ns ws lv' (pc + 1) st) : VV Z kc ns ws lv pc (.ref x :: st) := fun H locs ls hP hD hS hl => lv_astore_n X.1 X.2.1 hd rfl hl (by rw [X.2.2.2.2.2.2.2.2.2]; exact hn) rfl (fun ls' hl' => h H locs ls' hP hD hS (lv_sub hl' ks hk))
theorem x_iinc (X : Cx Z own cc rm nL) {i : Nat} {n : Int} {x d : Int32} {lv' : List (Nat × Value)} (hd : decode cc pc = .ok (.iinc i n, 3)) (j : Nat) (hj : lv[j]? = some (i, .int x)) (hv : Int32.ofInt n = d) (hn : i < nL) (ks : List Nat) (hk : lv_pick ((i, Value.int (x + d)) :: lv.filter (fun q => !(q.1 == i) && !(q.1 + 1 == i && q.2.category == 2))) ks = lv') (h : VV Z kc ns ws lv' (pc + 3) st) : VV Z kc ns ws lv pc st := fun H locs ls hP hD hS hl => lv_iinc X.1 X.2.1 hd hl hj (congrArg (x + ·) hv) (by rw [X.2.2.2.2.2.2.2.2.2]; exact hn) rfl (fun ls' hl' => h H locs ls' hP hD hS (lv_sub hl' ks hk))
theorem x_iadd (X : Cx Z own cc rm nL) {x y : Int32} (hd : decode cc pc = .ok (.iadd, 1)) (h : VV Z kc ns ws lv (pc + 1) (.int (x + y) :: st)) : VV Z kc ns ws lv pc (.int y :: .int x :: st) := fun H locs ls hP hD hS hl => lv_iadd X.1 X.2.1 hd (h H locs ls hP hD hS hl)
theorem x_isub (X : Cx Z own cc rm nL) {x y : Int32} (hd : decode cc pc = .ok (.isub, 1)) (h : VV Z kc ns ws lv (pc + 1) (.int (x - y) :: st)) : VV Z kc ns ws lv pc (.int y :: .int x :: st) := fun H locs ls hP hD hS hl => lv_isub X.1 X.2.1 hd (h H locs ls hP hD hS hl)
theorem x_imul (X : Cx Z own cc rm nL) {x y : Int32} (hd : decode cc pc = .ok (.imul, 1)) (h : VV Z kc ns ws lv (pc + 1) (.int (x * y) :: st)) : VV Z kc ns ws lv pc (.int y :: .int x :: st) := fun H locs ls hP hD hS hl => lv_imul X.1 X.2.1 hd (h H locs ls hP hD hS hl)
theorem x_idiv (X : Cx Z own cc rm nL) {x y : Int32} (hd : decode cc pc = .ok (.idiv, 1)) (h0 : ¬ y = 0) (h : VV Z kc ns ws lv (pc + 1) (.int (x / y) :: st)) : VV Z kc ns ws lv pc (.int y :: .int x :: st) := fun H locs ls hP hD hS hl => lv_idiv X.1 X.2.1 hd h0 (h H locs ls hP hD hS hl)
theorem x_iand (X : Cx Z own cc rm nL) {x y : Int32} (hd : decode cc pc = .ok (.iand, 1)) (h : VV Z kc ns ws lv (pc + 1) (.int (x &&& y) :: st)) : VV Z kc ns ws lv pc (.int y :: .int x :: st) := fun H locs ls hP hD hS hl => lv_iand X.1 X.2.1 hd (h H locs ls hP hD hS hl)
theorem x_ior (X : Cx Z own cc rm nL) {x y : Int32} (hd : decode cc pc = .ok (.ior, 1)) (h : VV Z kc ns ws lv (pc + 1) (.int (x ||| y) :: st)) : VV Z kc ns ws lv pc (.int y :: .int x :: st) := fun H locs ls hP hD hS hl => lv_ior X.1 X.2.1 hd (h H locs ls hP hD hS hl)
theorem x_ixor (X : Cx Z own cc rm nL) {x y : Int32} (hd : decode cc pc = .ok (.ixor, 1)) (h : VV Z kc ns ws lv (pc + 1) (.int (x ^^^ y) :: st)) : VV Z kc ns ws lv pc (.int y :: .int x :: st) := fun H locs ls hP hD hS hl => lv_ixor X.1 X.2.1 hd (h H locs ls hP hD hS hl)
theorem x_ishl (X : Cx Z own cc rm nL) {x y : Int32} (hd : decode cc pc = .ok (.ishl, 1)) (h : VV Z kc ns ws lv (pc + 1) (.int (x <<< (y &&& 31)) :: st)) : VV Z kc ns ws lv pc (.int y :: .int x :: st) := fun H locs ls hP hD hS hl => lv_ishl X.1 X.2.1 hd (h H locs ls hP hD hS hl)
theorem x_ishr (X : Cx Z own cc rm nL) {x y : Int32} (hd : decode cc pc = .ok (.ishr, 1)) (h : VV Z kc ns ws lv (pc + 1) (.int (x >>> (y &&& 31)) :: st)) : VV Z kc ns ws lv pc (.int y :: .int x :: st) := fun H locs ls hP hD hS hl => lv_ishr X.1 X.2.1 hd (h H locs ls hP hD hS hl)
theorem x_iushr (X : Cx Z own cc rm nL) {x y : Int32} (hd : decode cc pc = .ok (.iushr, 1)) (h : VV Z kc ns ws lv (pc + 1) (.int (ush x y) :: st)) : VV Z kc ns ws lv pc (.int y :: .int x :: st) := fun H locs ls hP hD hS hl => lv_iushr X.1 X.2.1 hd rfl (h H locs ls hP hD hS hl)
theorem x_dup (X : Cx Z own cc rm nL) {v : Value} (hd : decode cc pc = .ok (.dup, 1)) (hv : v.category = 1) (h : VV Z kc ns ws lv (pc + 1) (v :: v :: st)) : VV Z kc ns ws lv pc (v :: st) := fun H locs ls hP hD hS hl => lv_dup X.1 X.2.1 hd hv (h H locs ls hP hD hS hl)
theorem x_dup2 (X : Cx Z own cc rm nL) {v u : Value} (hd : decode cc pc = .ok (.dup2, 1)) (hv : v.category = 1) (hu : u.category = 1) (h : VV Z kc ns ws lv (pc + 1) (v :: u :: v :: u :: st)) : VV Z kc ns ws lv pc (v :: u :: st) := fun H locs ls hP hD hS hl => lv_dup2_11 X.1 X.2.1 hd hv hu (h H locs ls hP hD hS hl)
theorem x_pop (X : Cx Z own cc rm nL) {v : Value} (hd : decode cc pc = .ok (.pop, 1)) (hv : v.category = 1) (h : VV Z kc ns ws lv (pc + 1) st) : VV Z kc ns ws lv pc (v :: st) := fun H locs ls hP hD hS hl => lv_pop X.1 X.2.1 hd hv (h H locs ls hP hD hS hl)
theorem x_goto (X : Cx Z own cc rm nL) {off : Int} {tgt : Nat} (hd : decode cc pc = .ok (.goto off, 3)) (ht : (pc : Int) + off = (tgt : Int)) (h : VV Z kc ns ws lv tgt st) : VV Z kc ns ws lv pc st := fun H locs ls hP hD hS hl => lv_goto X.1 X.2.1 hd ht (h H locs ls hP hD hS hl)
theorem x_if_eq (X : Cx Z own cc rm nL) {x : Int32} {off : Int} {tgt : Nat} (hd : decode cc pc = .ok (.ifCond .eq off, 3)) (ht : (pc : Int) + off = (tgt : Int)) (kt : x = 0 → VV Z kc ns ws lv tgt st) (kf : ¬ x = 0 → VV Z kc ns ws lv (pc + 3) st) : VV Z kc ns ws lv pc (.int x :: st) := fun H locs ls hP hD hS hl => lv_if_eq X.1 X.2.1 hd ht (fun c => kt c H locs ls hP hD hS hl) (fun c => kf c H locs ls hP hD hS hl)
theorem x_icmp_eq (X : Cx Z own cc rm nL) {x y : Int32} {off : Int} {tgt : Nat} (hd : decode cc pc = .ok (.if_icmp .eq off, 3)) (ht : (pc : Int) + off = (tgt : Int)) (kt : x = y → VV Z kc ns ws lv tgt st) (kf : ¬ x = y → VV Z kc ns ws lv (pc + 3) st) : VV Z kc ns ws lv pc (.int y :: .int x :: st) := fun H locs ls hP hD hS hl => lv_icmp_eq X.1 X.2.1 hd ht (fun c => kt c H locs ls hP hD hS hl) (fun c => kf c H locs ls hP hD hS hl)
theorem x_if_ne (X : Cx Z own cc rm nL) {x : Int32} {off : Int} {tgt : Nat} (hd : decode cc pc = .ok (.ifCond .ne off, 3)) (ht : (pc : Int) + off = (tgt : Int)) (kt : ¬ x = 0 → VV Z kc ns ws lv tgt st) (kf : x = 0 → VV Z kc ns ws lv (pc + 3) st) : VV Z kc ns ws lv pc (.int x :: st) := fun H locs ls hP hD hS hl => lv_if_ne X.1 X.2.1 hd ht (fun c => kt c H locs ls hP hD hS hl) (fun c => kf c H locs ls hP hD hS hl)
theorem x_icmp_ne (X : Cx Z own cc rm nL) {x y : Int32} {off : Int} {tgt : Nat} (hd : decode cc pc = .ok (.if_icmp .ne off, 3)) (ht : (pc : Int) + off = (tgt : Int)) (kt : ¬ x = y → VV Z kc ns ws lv tgt st) (kf : x = y → VV Z kc ns ws lv (pc + 3) st) : VV Z kc ns ws lv pc (.int y :: .int x :: st) := fun H locs ls hP hD hS hl => lv_icmp_ne X.1 X.2.1 hd ht (fun c => kt c H locs ls hP hD hS hl) (fun c => kf c H locs ls hP hD hS hl)
theorem x_if_lt (X : Cx Z own cc rm nL) {x : Int32} {off : Int} {tgt : Nat} (hd : decode cc pc = .ok (.ifCond .lt off, 3)) (ht : (pc : Int) + off = (tgt : Int)) (kt : x < 0 → VV Z kc ns ws lv tgt st) (kf : ¬ x < 0 → VV Z kc ns ws lv (pc + 3) st) : VV Z kc ns ws lv pc (.int x :: st) := fun H locs ls hP hD hS hl => lv_if_lt X.1 X.2.1 hd ht (fun c => kt c H locs ls hP hD hS hl) (fun c => kf c H locs ls hP hD hS hl)
theorem x_icmp_lt (X : Cx Z own cc rm nL) {x y : Int32} {off : Int} {tgt : Nat} (hd : decode cc pc = .ok (.if_icmp .lt off, 3)) (ht : (pc : Int) + off = (tgt : Int)) (kt : x < y → VV Z kc ns ws lv tgt st) (kf : ¬ x < y → VV Z kc ns ws lv (pc + 3) st) : VV Z kc ns ws lv pc (.int y :: .int x :: st) := fun H locs ls hP hD hS hl => lv_icmp_lt X.1 X.2.1 hd ht (fun c => kt c H locs ls hP hD hS hl) (fun c => kf c H locs ls hP hD hS hl)
theorem x_if_ge (X : Cx Z own cc rm nL) {x : Int32} {off : Int} {tgt : Nat} (hd : decode cc pc = .ok (.ifCond .ge off, 3)) (ht : (pc : Int) + off = (tgt : Int)) (kt : 0 ≤ x → VV Z kc ns ws lv tgt st) (kf : ¬ 0 ≤ x → VV Z kc ns ws lv (pc + 3) st) : VV Z kc ns ws lv pc (.int x :: st) := fun H locs ls hP hD hS hl => lv_if_ge X.1 X.2.1 hd ht (fun c => kt c H locs ls hP hD hS hl) (fun c => kf c H locs ls hP hD hS hl)
theorem x_icmp_ge (X : Cx Z own cc rm nL) {x y : Int32} {off : Int} {tgt : Nat} (hd : decode cc pc = .ok (.if_icmp .ge off, 3)) (ht : (pc : Int) + off = (tgt : Int)) (kt : y ≤ x → VV Z kc ns ws lv tgt st) (kf : ¬ y ≤ x → VV Z kc ns ws lv (pc + 3) st) : VV Z kc ns ws lv pc (.int y :: .int x :: st) := fun H locs ls hP hD hS hl => lv_icmp_ge X.1 X.2.1 hd ht (fun c => kt c H locs ls hP hD hS hl) (fun c => kf c H locs ls hP hD hS hl)
theorem x_if_gt (X : Cx Z own cc rm nL) {x : Int32} {off : Int} {tgt : Nat} (hd : decode cc pc = .ok (.ifCond .gt off, 3)) (ht : (pc : Int) + off = (tgt : Int)) (kt : 0 < x → VV Z kc ns ws lv tgt st) (kf : ¬ 0 < x → VV Z kc ns ws lv (pc + 3) st) : VV Z kc ns ws lv pc (.int x :: st) := fun H locs ls hP hD hS hl => lv_if_gt X.1 X.2.1 hd ht (fun c => kt c H locs ls hP hD hS hl) (fun c => kf c H locs ls hP hD hS hl)
theorem x_icmp_gt (X : Cx Z own cc rm nL) {x y : Int32} {off : Int} {tgt : Nat} (hd : decode cc pc = .ok (.if_icmp .gt off, 3)) (ht : (pc : Int) + off = (tgt : Int)) (kt : y < x → VV Z kc ns ws lv tgt st) (kf : ¬ y < x → VV Z kc ns ws lv (pc + 3) st) : VV Z kc ns ws lv pc (.int y :: .int x :: st) := fun H locs ls hP hD hS hl => lv_icmp_gt X.1 X.2.1 hd ht (fun c => kt c H locs ls hP hD hS hl) (fun c => kf c H locs ls hP hD hS hl)
theorem x_if_le (X : Cx Z own cc rm nL) {x : Int32} {off : Int} {tgt : Nat} (hd : decode cc pc = .ok (.ifCond .le off, 3)) (ht : (pc : Int) + off = (tgt : Int)) (kt : x ≤ 0 → VV Z kc ns ws lv tgt st) (kf : ¬ x ≤ 0 → VV Z kc ns ws lv (pc + 3) st) : VV Z kc ns ws lv pc (.int x :: st) := fun H locs ls hP hD hS hl => lv_if_le X.1 X.2.1 hd ht (fun c => kt c H locs ls hP hD hS hl) (fun c => kf c H locs ls hP hD hS hl)
theorem x_icmp_le (X : Cx Z own cc rm nL) {x y : Int32} {off : Int} {tgt : Nat} (hd : decode cc pc = .ok (.if_icmp .le off, 3)) (ht : (pc : Int) + off = (tgt : Int)) (kt : x ≤ y → VV Z kc ns ws lv tgt st) (kf : ¬ x ≤ y → VV Z kc ns ws lv (pc + 3) st) : VV Z kc ns ws lv pc (.int y :: .int x :: st) := fun H locs ls hP hD hS hl => lv_icmp_le X.1 X.2.1 hd ht (fun c => kt c H locs ls hP hD hS hl) (fun c => kf c H locs ls hP hD hS hl)
theorem x_get (X : Cx Z own cc rm nL) {ci N idx a : Nat} {C : String} {T : u_T} {fs : List Value} {v : Value} (hT : Tb ci C T N) (q0 k : Nat) (hk : k < N) (hw : Cond.fieldLink own idx (T k).1 (T k).2.1 (T k).2.2.1 ∈ T0) (he : ws[q0]? = some (a, .inr (ci, fs))) (hv : fs[k]? = some v) (hd : decode cc pc = .ok (.getfield idx, 3)) (h : VV Z kc ns ws lv (pc + 3) (v :: st)) : VV Z kc ns ws lv pc (.ref a :: st) := fun H locs ls hP hD hS hl =>
  va_get X.1 X.2.1 X.2.2.2.2.1 hT.2.1 X.2.2.2.1 X.2.2.2.2.2.1 hP q0 he hT.1 k hk (X.2.2.2.2.1 _ hw) (fun _ z => z) hv hd (h H locs ls hP hD hS hl)
theorem x_getN (X : Cx Z own cc rm nL) {ci N idx a : Nat} {C host : String} {T : u_T} {fs : List Value} {v : Value} (hT : Tb ci C T N) (q0 k : Nat) (hk : k < N) (hw : Cond.fieldLinkNest own idx (T k).1 (T k).2.1 (T k).2.2.1 host ∈ N0) (he : ws[q0]? = some (a, .inr (ci, fs))) (hv : fs[k]? = some v) (hd : decode cc pc = .ok (.getfield idx, 3)) (h : VV Z kc ns ws lv (pc + 3) (v :: st)) : VV Z kc ns ws lv pc (.ref a :: st) := fun H locs ls hP hD hS hl =>
  va_getN X.1 X.2.1 X.2.2.2.2.1 hT.2.1 X.2.2.2.1 X.2.2.2.2.2.1 hP q0 he hT.1 k hk (va_Nw.use rfl (X.2.2.2.2.2.2.2.1 _ hw)) (fun _ z => z) hv hd (h H locs ls hP hD hS hl)
theorem x_put (X : Cx Z own cc rm nL) {ci N idx a : Nat} {C : String} {T : u_T} {fs : List Value} {x : Int32} {ws' : va_W} (hT : Tb ci C T N) (q0 k : Nat) (hk : k < N) (hw : Cond.fieldLink own idx (T k).1 (T k).2.1 (T k).2.2.1 ∈ T0) (he : ws[q0]? = some (a, .inr (ci, fs))) (hf : (T k).2.2.2 = false) (hy : parseFieldDescriptor (T k).2.2.1 = some .int) (hlen : k < fs.length) (hset : ws.set q0 (a, .inr (ci, fs.set k (.int x))) = ws') (hd : decode cc pc = .ok (.putfield idx, 3)) (h : VV Z kc ns ws' lv (pc + 3) st) : VV Z kc ns ws lv pc (.int x :: .ref a :: st) := by
  obtain ⟨h1, h2, h3, ty0, h4⟩ := hT
  subst hset
  exact fun H locs ls hP hD hS hl => va_put X.1 X.2.1 X.2.2.2.2.1 h2 ty0 h4 h3 X.2.2.2.1 X.2.2.2.2.2.1 hP hD hS q0 he h1 k hk (X.2.2.2.2.1 _ hw) (fun _ z => z) hf hy (vp_nar_int x) rfl hlen hd (fun H1 l1 a1 a2 a3 => h H1 l1 ls a1 a2 a3 hl)
theorem x_putN (X : Cx Z own cc rm nL) {ci N idx a : Nat} {C host : String} {T : u_T} {fs : List Value} {x : Int32} {ws' : va_W} (hT : Tb ci C T N) (q0 k : Nat) (hk : k < N) (hw : Cond.fieldLinkNest own idx (T k).1 (T k).2.1 (T k).2.2.1 host ∈ N0) (he : ws[q0]? = some (a, .inr (ci, fs))) (hf : (T k).2.2.2 = false) (hy : parseFieldDescriptor (T k).2.2.1 = some .int) (hlen : k < fs.length) (hset : ws.set q0 (a, .inr (ci, fs.set k (.int x))) = ws') (hd : decode cc pc = .ok (.putfield idx, 3)) (h : VV Z kc ns ws' lv (pc + 3) st) : VV Z kc ns ws lv pc (.int x :: .ref a :: st) := by
  obtain ⟨h1, h2, h3, ty0, h4⟩ := hT
  subst hset
  exact fun H locs ls hP hD hS hl => va_putN X.1 X.2.1 X.2.2.2.2.1 h2 ty0 h4 h3 X.2.2.2.1 X.2.2.2.2.2.1 hP hD hS q0 he h1 k hk (va_Nw.use rfl (X.2.2.2.2.2.2.2.1 _ hw)) (fun _ z => z) hf hy (vp_nar_int x) rfl hlen hd (fun H1 l1 a1 a2 a3 => h H1 l1 ls a1 a2 a3 hl)
theorem x_iald (X : Cx Z own cc rm nL) {a n : Nat} {f : Nat → Int32} {i : Int32} (q0 : Nat) (he : ws[q0]? = some (a, .inl (zI Z, n, .inl f))) (hin : vp_in i n) (hd : decode cc pc = .ok (.iaload, 1)) (h : VV Z kc ns ws lv (pc + 1) (.int (f i.toNatClampNeg) :: st)) : VV Z kc ns ws lv pc (.int i :: .ref a :: st) := fun H locs ls hP hD hS hl =>
  va_iald X.1 X.2.1 X.2.2.2.2.2.1 hP q0 0 he rfl hin hd (h H locs ls hP hD hS hl)
theorem x_iast (X : Cx Z own cc rm nL) {a n : Nat} {f : Nat → Int32} {i x : Int32} {ws' : va_W} (q0 : Nat) (he : ws[q0]? = some (a, .inl (zI Z, n, .inl f))) (hin : vp_in i n) (hset : ws.set q0 (a, .inl (zI Z, n, .inl (upd f i.toNatClampNeg x))) = ws') (hd : decode cc pc = .ok (.iastore, 1)) (h : VV Z kc ns ws' lv (pc + 1) st) : VV Z kc ns ws lv pc (.int x :: .int i :: .ref a :: st) := by
  subst hset
  exact fun H locs ls hP hD hS hl => va_iast X.1 X.2.1 X.2.2.2.2.2.1 hP hD hS q0 0 he rfl hin hd (fun H1 l1 a1 a2 a3 => h H1 l1 ls a1 a2 a3 hl)
theorem x_alen (X : Cx Z own cc rm nL) {a n : Nat} {f : Nat → Int32} (q0 : Nat) (he : ws[q0]? = some (a, .inl (zI Z, n, .inl f))) (hd : decode cc pc = .ok (.arraylength, 1)) (h : VV Z kc ns ws lv (pc + 1) (.int (nI n) :: st)) : VV Z kc ns ws lv pc (.ref a :: st) := fun H locs ls hP hD hS hl =>
  va_alen (ty := .int) X.1 X.2.1 X.2.2.2.2.2.1 hP q0 0 he rfl (v := nI n) rfl hd (h H locs ls hP hD hS hl)
theorem x_mmax (X : Cx Z own cc rm nL) {idx : Nat} {x y : Int32} (h1 : Cond.methodLink own idx Lib.Math.max.name ∈ T0) (h2 : Cond.static Lib.Math.max.name ∈ T0) (h3 : Cond.initialized "java/lang/Math" ∈ T0) (h4 : Cond.code Lib.Math.max.name Lib.Math.max.code 2 (some .int) ∈ T0) (hf : 1 ≤ rm.frames) (hl9 : (st.map fun v => v.category).sum + 13 ≤ rm.locals) (hk : kc ≤ rm.cells) (hn : ns ≤ rm.slots) (hd : decode cc pc = .ok (.invokestatic idx, 3)) (h : VV Z kc ns ws lv (pc + 3) (.int (if x < y then y else x) :: st)) : VV Z kc ns ws lv pc (.int y :: .int x :: st) := fun H locs ls hP hD hS hl =>
  va_mmax X.1 X.2.1 (X.2.2.1.trans hl.1.symm) X.2.2.2.1 (X.2.2.2.2.1 _ h1) (X.2.2.2.2.1 _ h2) (X.2.2.2.2.1 _ h3) (X.2.2.2.2.1 _ h4) (by rw [X.2.2.2.2.2.2.2.2.1]; exact hf) (by rw [X.2.2.2.2.2.2.2.2.1]; exact hl9) (by rw [X.2.2.2.2.2.2.2.2.1]; exact hk) (by rw [X.2.2.2.2.2.2.2.2.1]; exact hn) hd (h H locs ls hP hD hS hl)
theorem x_mmin (X : Cx Z own cc rm nL) {idx : Nat} {x y : Int32} (h1 : Cond.methodLink own idx Lib.Math.min.name ∈ T0) (h2 : Cond.static Lib.Math.min.name ∈ T0) (h3 : Cond.initialized "java/lang/Math" ∈ T0) (h4 : Cond.code Lib.Math.min.name Lib.Math.min.code 2 (some .int) ∈ T0) (hf : 1 ≤ rm.frames) (hl9 : (st.map fun v => v.category).sum + 13 ≤ rm.locals) (hk : kc ≤ rm.cells) (hn : ns ≤ rm.slots) (hd : decode cc pc = .ok (.invokestatic idx, 3)) (h : VV Z kc ns ws lv (pc + 3) (.int (if y < x then y else x) :: st)) : VV Z kc ns ws lv pc (.int y :: .int x :: st) := fun H locs ls hP hD hS hl =>
  va_mmin X.1 X.2.1 (X.2.2.1.trans hl.1.symm) X.2.2.2.1 (X.2.2.2.2.1 _ h1) (X.2.2.2.2.1 _ h2) (X.2.2.2.2.1 _ h3) (X.2.2.2.2.1 _ h4) (by rw [X.2.2.2.2.2.2.2.2.1]; exact hf) (by rw [X.2.2.2.2.2.2.2.2.1]; exact hl9) (by rw [X.2.2.2.2.2.2.2.2.1]; exact hk) (by rw [X.2.2.2.2.2.2.2.2.1]; exact hn) hd (h H locs ls hP hD hS hl)
/-- System.arraycopy of one int[] into another -/
def cpok (sp dp n : Int32) (n0 n1 : Nat) : Prop := ¬ sp < 0 ∧ ¬ dp < 0 ∧ ¬ n < 0 ∧ sp.toNatClampNeg + n.toNatClampNeg ≤ n0 ∧ dp.toNatClampNeg + n.toNatClampNeg ≤ n1
theorem x_copy (X : Cx Z own cc rm nL) {idx a0 a1 n0 n1 : Nat} {f g : Nat → Int32} {sp dp n : Int32} {ws' : va_W} (h1 : Cond.methodLink own idx arraycopyName ∈ T0) (h2 : Cond.native arraycopyName ∈ T0) (h3 : Cond.static arraycopyName ∈ T0) (h4 : Cond.initialized "java/lang/System" ∈ T0) (q0 q1 : Nat) (he0 : ws[q0]? = some (a0, .inl (zI Z, n0, .inl f))) (he1 : ws[q1]? = some (a1, .inl (zI Z, n1, .inl g))) (hok : cpok sp dp n n0 n1) (hf : 1 ≤ rm.frames) (hl9 : (st.map fun v => v.category).sum + (nativeFrameWords "java/lang/System" "arraycopy" 5 + 11) ≤ rm.locals) (hset : ws.set q1 (a1, .inl (zI Z, n1, .inl (va_cpy f g sp.toNatClampNeg dp.toNatClampNeg n.toNatClampNeg))) = ws') (hd : decode cc pc = .ok (.invokestatic idx, 3)) (h : VV Z kc ns ws' lv (pc + 3) st) : VV Z kc ns ws lv pc (.int n :: .int dp :: .ref a1 :: .int sp :: .ref a0 :: st) := by
  subst hset
  obtain ⟨k1, k2, k3, k4, k5⟩ := hok
  exact fun H locs ls hP hD hS hl => va_copyi (ty := .int) X.1 X.2.1 (X.2.2.1.trans hl.1.symm) X.2.2.2.1 (X.2.2.2.2.1 _ h1) (X.2.2.2.2.1 _ h2) (X.2.2.2.2.1 _ h3) (X.2.2.2.2.1 _ h4) X.2.2.2.2.2.1 hP hD hS q0 q1 0 0 he0 he1 rfl rfl rfl k1 k2 k3 k4 k5 (fun _ _ => rfl) (by rw [X.2.2.2.2.2.2.2.2.1]; exact hf) (by rw [X.2.2.2.2.2.2.2.2.1]; exact hl9) hd (fun H1 l1 a1 a2 a3 => h H1 l1 ls a1 a2 a3 hl)
/-- tableswitch from 0 on -/
theorem x_table (X : Cx Z own cc rm nL) {dflt hi : Int} {offs : Array Int} {len N dt : Nat} {x : Int32} (tg : Nat → Nat) (hd : decode cc pc = .ok (.tableswitch dflt 0 hi offs, len)) (hhi : hi + 1 = (N : Int)) (hN : N < 2 ^ 31) (ho : ∀ j, j < N → ∃ off, offs[j]? = some off ∧ (pc : Int) + off = (tg j : Int)) (hdt : (pc : Int) + dflt = (dt : Int)) (kin : ∀ j, j < N → x = nI j → VV Z kc ns ws lv (tg j) st) (kout : (∀ j, j < N → ¬ x = nI j) → VV Z kc ns ws lv dt st) : VV Z kc ns ws lv pc (.int x :: st) := by
  by_cases c : ∃ j, j < N ∧ x = nI j
  · obtain ⟨j, hj, rfl⟩ := c
    obtain ⟨off, h1, h2⟩ := ho j hj
    have e : (nI j).toInt = (j : Int) := nI_toInt (by omega)
    exact fun H locs ls hP hD hS hl => lv_tableIn X.1 X.2.1 hd (by rw [e]; omega) (by rw [e]; omega) (by rw [e]; simpa using h1) h2 (kin j hj rfl H locs ls hP hD hS hl)
  · refine fun H locs ls hP hD hS hl => lv_tableOut X.1 X.2.1 hd ?_ hdt (kout (fun j hj e => c ⟨j, hj, e⟩) H locs ls hP hD hS hl)
    by_cases h0 : x < 0
    · left
      have := Int32.lt_iff_toInt_lt.mp h0
      simpa using this
    · right
      obtain ⟨j, hj, e⟩ := nI_of h0
      have e2 : x.toInt = (j : Int) := by rw [e]; exact nI_toInt hj
      rw [e2]
      have : ¬ j < N := fun h => c ⟨j, h, e⟩
      omega
end XR
def PcB (D : va_G) (cI : ClassId) (ws : va_W) (sz : Nat) (U : State) : Prop := U.heap.size = sz ∧ va_P D classes ws U.heap ∧ va_K D classes [(cI, .int)] U ∧ va_D (fun _ => True) ws ∧ nw_all U
def QcB (D : va_G) (w0 : va_W) (sz : Nat) (wd : St → va_W) (u : St) (t : State) : Prop := va_P D classes (wd u) t.heap ∧ va_D (va_A w0 sz) (wd u)
/-- a contract over a precondition: from the world of σ, the method answers r and leaves the world of u, with 'post r u' -/
def CI (l : Launch) (D : va_G) (cI : ClassId) (wd : St → va_W) (y : MethodName) (cc : ByteArray) (nL : Nat) (ty : FieldType) (rm : Room) (av : List Value) (σ : St) (post : Int32 → St → Prop) : Prop :=
  ∀ sz : Nat, Met l y (Cond.code y cc nL (some ty) :: T0) rm (va_Pc av (PcB D cI (wd σ) sz)) (va_Qi post (QcB D (wd σ) sz wd) (va_A (wd σ) sz)) 0 0 (va_A (wd σ) sz)
def CV (l : Launch) (D : va_G) (cI : ClassId) (wd : St → va_W) (y : MethodName) (cc : ByteArray) (nL : Nat) (rm : Room) (av : List Value) (σ : St) (post : St → Prop) : Prop :=
  ∀ sz : Nat, Met l y (Cond.code y cc nL none :: T0) rm (va_Pc av (PcB D cI (wd σ) sz)) (va_Qv post (QcB D (wd σ) sz wd) (va_A (wd σ) sz)) 0 0 (va_A (wd σ) sz)
def RI (Z : ZT) (cc : ByteArray) (ty : FieldType) (wd : St → va_W) (post : Int32 → St → Prop) : Prop := ∀ (v : Int32) (u : St) (lv : List (Nat × Value)) (pc : Nat), decode cc pc = .ok (.ireturn, 1) → narrow ty (.int v) = .int v → post v u → VV Z 0 0 (wd u) lv pc [.int v]
def RV (Z : ZT) (cc : ByteArray) (wd : St → va_W) (post : St → Prop) : Prop := ∀ (u : St) (lv : List (Nat × Value)) (pc : Nat), decode cc pc = .ok (.return_, 1) → post u → VV Z 0 0 (wd u) lv pc []
theorem pc_blind {av : List Value} {D : va_G} {cI : ClassId} {ws : va_W} {sz : Nat} : FrameBlind (va_Pc av (PcB D cI ws sz)) := fun a U g mk q => by
  obtain ⟨q0, q1, qP, qK, qD, qN⟩ := q
  exact ⟨q0, q1, qP, va_K.moved (u := U) (U := U.calling g mk a) (Vm.Alike.refl U.vm) qK, qD, nw_same (u := U) (U := U.calling g mk a) rfl qN⟩
theorem CI_of {l : Launch} {D : va_G} {cI : ClassId} {wd : St → va_W} {y : MethodName} {cc : ByteArray} {nL : Nat} {ty : FieldType} {rm : Room} {av : List Value} {σ : St} {post : Int32 → St → Prop} (hy : plainName y.cls = true) (hlen : (lg_sl av).length ≤ nL)
    (body : ∀ Z : ZT, zl Z = l → zD Z = D → zI Z = cI → Cx Z y.cls cc rm nL → RI Z cc ty wd post → VV Z 0 0 (wd σ) (lv_args 0 av) 0 []) : CI l D cI wd y cc nL ty rm av σ post := by
  intro sz
  refine Met.ofW (cc := cc) (maxL := nL) (ret := some ty) hy rfl ?_
  intro p e s m args below meth c s₁ B hml hv
  obtain ⟨rfl, hsz, hP, hK, hD0, hN⟩ := hv
  have hts := atoms_spec (ws := Cond.code y cc nL (some ty) :: T0) B.pre
  have hlocks := B.notSynchronized
  subst hsz
  rw [lg_entry_eq]
  have hl := lv_entry av (n := nL) hlen
  refine body (p, l, e, rm, s, m, av.toArray, below, meth, c, va_A (wd σ) s.heap.size, MQ below (va_Qi post (QcB D (wd σ) s.heap.size wd) (va_A (wd σ) s.heap.size)) av.toArray s 0 0 (va_A (wd σ) s.heap.size), D, cI, nL) rfl rfl rfl ⟨B.exec, B.bytes, hml, findClass_of_methodNamed B.named, fun w hw => hts w (List.mem_cons_of_mem _ hw), hK, fun q h => Or.inr h, hN, rfl, rfl⟩ ?_ s.heap [] _ hP hD0.self va_S.rf hl
  intro v u lv pc hd hn hp H locs ls hP hD hS hl
  exact W.zret B.exec B.bytes B.returns hn (fun t ht hW => ⟨⟨v, u, rfl, hp, by rw [ht]; exact hP, hD⟩, hS.F ht⟩) hS.2.2 hd (hlocks := hlocks)
theorem CV_of {l : Launch} {D : va_G} {cI : ClassId} {wd : St → va_W} {y : MethodName} {cc : ByteArray} {nL : Nat} {rm : Room} {av : List Value} {σ : St} {post : St → Prop} (hy : plainName y.cls = true) (hlen : (lg_sl av).length ≤ nL)
    (body : ∀ Z : ZT, zl Z = l → zD Z = D → zI Z = cI → Cx Z y.cls cc rm nL → RV Z cc wd post → VV Z 0 0 (wd σ) (lv_args 0 av) 0 []) : CV l D cI wd y cc nL rm av σ post := by
  intro sz
  refine Met.ofW (cc := cc) (maxL := nL) (ret := none) hy rfl ?_
  intro p e s m args below meth c s₁ B hml hv
  obtain ⟨rfl, hsz, hP, hK, hD0, hN⟩ := hv
  have hts := atoms_spec (ws := Cond.code y cc nL none :: T0) B.pre
  have hlocks := B.notSynchronized
  subst hsz
  rw [lg_entry_eq]
  have hl := lv_entry av (n := nL) hlen
  refine body (p, l, e, rm, s, m, av.toArray, below, meth, c, va_A (wd σ) s.heap.size, MQ below (va_Qv post (QcB D (wd σ) s.heap.size wd) (va_A (wd σ) s.heap.size)) av.toArray s 0 0 (va_A (wd σ) s.heap.size), D, cI, nL) rfl rfl rfl ⟨B.exec, B.bytes, hml, findClass_of_methodNamed B.named, fun w hw => hts w (List.mem_cons_of_mem _ hw), hK, fun q h => Or.inr h, hN, rfl, rfl⟩ ?_ s.heap [] _ hP hD0.self va_S.rf hl
  intro u lv pc hd hp H locs ls hP hD hS hl
  exact W.vret B.exec B.bytes B.returns (fun t ht hW => ⟨⟨u, rfl, hp, by rw [ht]; exact hP, hD⟩, hS.F ht⟩) hS.2.2 hd (hlocks := hlocks)
/-- the callee's part of a world, and what comes back beside the rest -/
theorem w_right {wr wc : va_W} {k : Nat} {q : Nat × va_E} (h : wc[k]? = some q) : (wr ++ wc)[wr.length + k]? = some q := by
  rw [List.getElem?_append_right (by omega)]
  simpa using h
theorem w_Pc {D : va_G} {wr wc : va_W} {H : Heap} (h : va_P D classes (wr ++ wc) H) : va_P D classes wc H := fun k q hq => h _ q (w_right hq)
theorem w_Dc {A : Nat → Prop} {wr wc : va_W} (h : va_D A (wr ++ wc)) : va_D A wc := ⟨fun i j p q hi hj e => by
  have := h.1 _ _ p q (w_right hi) (w_right hj) e
  omega, fun k q hq => h.2 _ q (w_right hq)⟩
theorem w_left {wr wc : va_W} {k : Nat} {q : Nat × va_E} (h : wr[k]? = some q) : (wr ++ wc)[k]? = some q := by
  rw [List.getElem?_append_left (List.getElem?_eq_some_iff.mp h).1]
  exact h
theorem w_join {A : Nat → Prop} {D : va_G} {wr wc w1 : va_W} {H H1 : Heap} (hP : va_P D classes (wr ++ wc) H) (hD : va_D A (wr ++ wc)) (hF : ∀ q, va_A wc H.size q → A q) (hk : ∀ q : Nat, q < H.size → ¬ va_A wc H.size q → H1[q]? = H[q]?) (hP1 : va_P D classes w1 H1) (hD1 : va_D (va_A wc H.size) w1) : va_P D classes (wr ++ w1) H1 ∧ va_D A (wr ++ w1) := by
  have apart : ∀ (k : Nat) (q : Nat × va_E), wr[k]? = some q → q.1 < H.size ∧ ¬ va_A wc H.size q.1 := by
    intro k q hq
    have hl := (hP k q (w_left hq)).lt
    refine ⟨hl, fun h => ?_⟩
    rcases h with ⟨k2, e, h⟩ | h
    · have hij := hD.1 k _ q (q.1, e) (w_left hq) (w_right h) rfl
      have : k < wr.length := (List.getElem?_eq_some_iff.mp hq).1
      omega
    · omega
  refine ⟨va_P.app (fun k q hq => ?_) hP1, va_D.app ⟨fun i j p q hi hj e => hD.1 i j p q (w_left hi) (w_left hj) e, fun k q hq => hD.2 k q (w_left hq)⟩ (hD1.weaken (fun k q _ h => hF q.1 h)) (fun i j x y hx hy hxy => ?_)⟩
  · obtain ⟨g1, g2⟩ := apart k q hq
    exact (hP k q (w_left hq)).kept (hk q.1 g1 g2)
  · exact (apart i x hx).2 (by rw [hxy]; exact hD1.2 j y hy)
/-- a method's rows for its calls: of an object, static -/
def Mv (y : MethodName) (cc : ByteArray) (nL : Nat) (ret : Option FieldType) (n : Nat) : Prop := Cond.instanceMethod y ∈ T0 ∧ Cond.selects y.cls y y ∈ T0 ∧ Cond.initialized y.cls ∈ T0 ∧ Cond.code y cc nL ret ∈ T0 ∧ y.cls ≠ "java/lang/invoke/MethodHandle" ∧ y.cls ≠ "java/lang/invoke/VarHandle" ∧ (parseMethodDescriptor y.desc).map (fun d => d.parameters.length) = some n
def Ms (y : MethodName) (cc : ByteArray) (nL : Nat) (ret : Option FieldType) (n : Nat) : Prop := Cond.static y ∈ T0 ∧ Cond.initialized y.cls ∈ T0 ∧ Cond.code y cc nL ret ∈ T0 ∧ y.cls ≠ "java/lang/invoke/MethodHandle" ∧ y.cls ≠ "java/lang/invoke/VarHandle" ∧ (parseMethodDescriptor y.desc).map (fun d => d.parameters.length) = some n
section XC
variable {Z : ZT} {own : String} {cc : ByteArray} {rm : Room} {nL kc ns pc : Nat} {lv : List (Nat × Value)} {st : List Value}
variable {wr : va_W} {wd : St → va_W} {y : MethodName} {cb : ByteArray} {nb b q0 ci idx : Nat} {ty : FieldType} {rmc : Room} {σ : St} {fs : List Value} {C : String} {T : u_T} {N : Nat}
theorem cw_V {ret : Option FieldType} {n : Nat} (X : Cx Z own cc rm nL) (hm : Mv y cb nb ret n) (hc0 : rmc.cells = 0 ∧ rmc.slots = 0) (hlk : Cond.methodLink own idx y ∈ T0) (hR : rmc.frames + 1 ≤ rm.frames ∧ 8 + (nb + 11) + rmc.locals ≤ rm.locals) : CallW (zR Z) (zs Z) (za Z) own y.cls idx y cb nb ret (Cond.code y cb nb ret :: T0) rmc 0 0 n := by
  obtain ⟨m1, m2, m3, m4, m5, m6, m7⟩ := hm
  refine cwV n X.2.2.2.2.1 (T0_app (l := [.methodLink own idx y, .instanceMethod y, .selects y.cls y y, .initialized y.cls]) ?_ m4) rfl hc0.1 hc0.2 ⟨rfl, m5, m6, m7⟩ (by rw [X.2.2.2.2.2.2.2.2.1]; exact hR)
  intro w hw
  simp only [List.mem_cons, List.not_mem_nil, or_false] at hw
  rcases hw with rfl | rfl | rfl | rfl <;> assumption
theorem cw_VN {ret : Option FieldType} {n : Nat} {host : String} (X : Cx Z own cc rm nL) (hm : Mv y cb nb ret n) (hc0 : rmc.cells = 0 ∧ rmc.slots = 0) (hlk : Cond.methodLinkNest own idx y host ∈ N0) (hR : rmc.frames + 1 ≤ rm.frames ∧ 8 + (nb + 11) + rmc.locals ≤ rm.locals) : va_CN (zR Z) (zs Z) (za Z) own idx y host cb nb ret (Cond.code y cb nb ret :: T0) rmc 0 0 n ∧ (Cond.instanceMethod y).before (za Z) (zs Z) = true ∧ (Cond.selects y.cls y y).before (za Z) (zs Z) = true := by
  obtain ⟨m1, m2, m3, m4, m5, m6, m7⟩ := hm
  exact ⟨va_cnB n X.2.2.2.2.1 (T0_cons m4) rfl hc0.1 hc0.2 (X.2.2.2.2.2.2.2.1 _ hlk) (X.2.2.2.2.1 _ m3) ⟨m5, m6, m7⟩ (by rw [X.2.2.2.2.2.2.2.2.1]; exact hR), X.2.2.2.2.1 _ m1, X.2.2.2.2.1 _ m2⟩
theorem cw_S {ret : Option FieldType} {n : Nat} (X : Cx Z own cc rm nL) (hm : Ms y cb nb ret n) (hc0 : rmc.cells = 0 ∧ rmc.slots = 0) (hlk : Cond.methodLink own idx y ∈ T0) (hR : rmc.frames + 1 ≤ rm.frames ∧ 8 + (nb + 11) + rmc.locals ≤ rm.locals) : CallB (zR Z) (zs Z) (za Z) own idx y cb nb ret (Cond.code y cb nb ret :: T0) rmc 0 0 n ∧ (Cond.static y).before (za Z) (zs Z) = true := by
  obtain ⟨m1, m3, m4, m5, m6, m7⟩ := hm
  refine va_cwS n X.2.2.2.2.1 (T0_app (l := [.methodLink own idx y, .static y, .initialized y.cls]) ?_ m4) rfl hc0.1 hc0.2 ⟨m5, m6, m7⟩ (by rw [X.2.2.2.2.2.2.2.2.1]; exact hR)
  intro w hw
  simp only [List.mem_cons, List.not_mem_nil, or_false] at hw
  rcases hw with rfl | rfl | rfl <;> assumption
theorem x_free (X : Cx Z own cc rm nL) {ws : va_W} {H : Heap} {locs : List Loc} (hD : va_D (zA Z) ws) (hS : va_S (zA Z) (zs Z).heap H locs) : ∀ q, va_A ws H.size q → zA Z q := fun q h => by
  rcases h with ⟨k, e, h⟩ | h
  · exact hD.2 k (q, e) h
  · exact X.2.2.2.2.2.2.1 q (Nat.le_trans hS.1 h)
theorem pre_S (X : Cx Z own cc rm nL) {H : Heap} {As : List Value} (hP : va_P (zD Z) classes (wr ++ wd σ) H) (hD : va_D (zA Z) (wr ++ wd σ)) : PreS (zs Z) H (va_Pc As (PcB (zD Z) (zI Z) (wd σ) H.size)) As :=
  ⟨pc_blind, fun U hU hW => ⟨rfl, by rw [hU], by rw [hU]; exact w_Pc hP, va_K.moved hW.alike X.2.2.2.2.2.1, (w_Dc hD).weaken (fun _ _ _ _ => trivial), nw_warm hW X.2.2.2.2.2.2.2.1⟩⟩
theorem pre_V (X : Cx Z own cc rm nL) {H : Heap} {As : List Value} (hP : va_P (zD Z) classes (wr ++ wd σ) H) (hD : va_D (zA Z) (wr ++ wd σ)) (hT : Tb ci C T N) (he : (wd σ)[q0]? = some (b, .inr (ci, fs))) : PreV (zs Z) H C b (va_Pc (.ref b :: As) (PcB (zD Z) (zI Z) (wd σ) H.size)) As :=
  ⟨pc_blind, va_recv X.2.2.2.2.2.1 (w_Pc hP) hT.1 he, fun U hU hW => ⟨rfl, by rw [hU], by rw [hU]; exact w_Pc hP, va_K.moved hW.alike X.2.2.2.2.2.1, (w_Dc hD).weaken (fun _ _ _ _ => trivial), nw_warm hW X.2.2.2.2.2.2.2.1⟩⟩
theorem x_runi {post : Int32 → St → Prop} {rest : List Value} {a : Array Value} (X : Cx Z own cc rm nL) (hr : ∀ (H : Heap) (locs : List Loc) (ls : Array Slot), va_P (zD Z) classes (wr ++ wd σ) H → va_D (zA Z) (wr ++ wd σ) → lv_has ls (zn Z) lv → va_Run (zp Z) (zl Z) (ze Z) (zR Z) (zs Z) (zm Z) (za Z) (zw Z) (zt Z) (zc Z) H locs kc ns 0 0 (F0 (zm Z) pc ls st) rest (va_Qi post (QcB (zD Z) (wd σ) H.size wd) (va_A (wd σ) H.size) a) (va_A (wd σ) H.size))
    (kk : ∀ (r : Int32) (u : St), post r u → VV Z kc ns (wr ++ wd u) lv (pc + 3) (.int r :: rest)) : VV Z kc ns (wr ++ wd σ) lv pc st := by
  intro H locs ls hP hD hS hl
  have hFc : ∀ q, va_A (wd σ) H.size q → zA Z q := x_free X (w_Dc hD) hS
  refine va_calli (hr H locs ls hP hD hl) hS (fun q _ h => hFc q h) hFc (fun r u t H1 locs1 ht hvm hw hB hz1 hk1 hS1 => ?_)
  obtain ⟨hP1, hD1⟩ := hB
  rw [ht] at hP1
  obtain ⟨hP', hD'⟩ := w_join hP hD hFc hk1 hP1 hD1
  exact kk r u hw H1 locs1 ls hP' hD' hS1 hl
theorem x_runv {post : St → Prop} {rest : List Value} {a : Array Value} (X : Cx Z own cc rm nL) (hr : ∀ (H : Heap) (locs : List Loc) (ls : Array Slot), va_P (zD Z) classes (wr ++ wd σ) H → va_D (zA Z) (wr ++ wd σ) → lv_has ls (zn Z) lv → va_Run (zp Z) (zl Z) (ze Z) (zR Z) (zs Z) (zm Z) (za Z) (zw Z) (zt Z) (zc Z) H locs kc ns 0 0 (F0 (zm Z) pc ls st) rest (va_Qv post (QcB (zD Z) (wd σ) H.size wd) (va_A (wd σ) H.size) a) (va_A (wd σ) H.size))
    (kk : ∀ (u : St), post u → VV Z kc ns (wr ++ wd u) lv (pc + 3) rest) : VV Z kc ns (wr ++ wd σ) lv pc st := by
  intro H locs ls hP hD hS hl
  have hFc : ∀ q, va_A (wd σ) H.size q → zA Z q := x_free X (w_Dc hD) hS
  refine va_callv (hr H locs ls hP hD hl) hS (fun q _ h => hFc q h) hFc (fun u t H1 locs1 ht hvm hw hB hz1 hk1 hS1 => ?_)
  obtain ⟨hP1, hD1⟩ := hB
  rw [ht] at hP1
  obtain ⟨hP', hD'⟩ := w_join hP hD hFc hk1 hP1 hD1
  exact kk u hw H1 locs1 ls hP' hD' hS1 hl
theorem x_cvi_w {post : Int32 → St → Prop} {rest : List Value} (X : Cx Z own cc rm nL) (As : List Value) (hM : CI (zl Z) (zD Z) (zI Z) wd y cb nb ty rmc (.ref b :: As) σ post) (hm : Mv y cb nb (some ty) As.length) (hT : Tb ci y.cls T N) (q0 : Nat) (he : (wd σ)[q0]? = some (b, .inr (ci, fs))) (hlk : Cond.methodLink own idx y ∈ T0) (hd : decode cc pc = .ok (.invokevirtual idx, 3)) (hst : st = As.reverse ++ .ref b :: rest) (h8 : (rest.map fun v => v.category).sum ≤ 8) (hR : rmc.frames + 1 ≤ rm.frames ∧ 8 + (nb + 11) + rmc.locals ≤ rm.locals) (hc0 : rmc.cells = 0 ∧ rmc.slots = 0) (hk : kc ≤ rm.cells ∧ ns ≤ rm.slots) (kk : ∀ (r : Int32) (u : St), post r u → VV Z kc ns (wr ++ wd u) lv (pc + 3) (.int r :: rest)) : VV Z kc ns (wr ++ wd σ) lv pc st := by
  subst hst
  refine x_runi (a := (Value.ref b :: As).toArray) X (fun H locs ls hP hD hl => ?_) kk
  exact va_runV (C := y.cls) (As := As) (rest := rest) ⟨X.1, X.2.1, X.2.2.1, X.2.2.2.1, X.2.2.2.2.1⟩ (hM H.size) (cw_V X hm hc0 hlk hR) (pre_V X hP hD hT he) rfl rfl hl.1 rfl (lv_room h8) hd (by rw [X.2.2.2.2.2.2.2.2.1]; exact hk)
theorem x_cvi {post : Int32 → St → Prop} {rest : List Value} (X : Cx Z own cc rm nL) (As : List Value) (hM : CI (zl Z) (zD Z) (zI Z) wd y cb nb ty rmc (.ref b :: As) σ post) (hm : Mv y cb nb (some ty) As.length) (hT : Tb ci y.cls T N) (q0 : Nat) (he : (wd σ)[q0]? = some (b, .inr (ci, fs))) (hlk : Cond.methodLink own idx y ∈ T0) (hd : decode cc pc = .ok (.invokevirtual idx, 3)) (hst : st = As.reverse ++ .ref b :: rest) (h8 : (rest.map fun v => v.category).sum ≤ 8) (hR : rmc.frames + 1 ≤ rm.frames ∧ 8 + (nb + 11) + rmc.locals ≤ rm.locals) (hc0 : rmc.cells = 0 ∧ rmc.slots = 0) (hk : kc ≤ rm.cells ∧ ns ≤ rm.slots) (kk : ∀ (r : Int32) (u : St), post r u → VV Z kc ns (wd u) lv (pc + 3) (.int r :: rest)) : VV Z kc ns (wd σ) lv pc st := x_cvi_w (wr := []) X As hM hm hT q0 he hlk hd hst h8 hR hc0 hk kk
theorem x_cvv_w {post : St → Prop} {rest : List Value} (X : Cx Z own cc rm nL) (As : List Value) (hM : CV (zl Z) (zD Z) (zI Z) wd y cb nb rmc (.ref b :: As) σ post) (hm : Mv y cb nb none As.length) (hT : Tb ci y.cls T N) (q0 : Nat) (he : (wd σ)[q0]? = some (b, .inr (ci, fs))) (hlk : Cond.methodLink own idx y ∈ T0) (hd : decode cc pc = .ok (.invokevirtual idx, 3)) (hst : st = As.reverse ++ .ref b :: rest) (h8 : (rest.map fun v => v.category).sum ≤ 8) (hR : rmc.frames + 1 ≤ rm.frames ∧ 8 + (nb + 11) + rmc.locals ≤ rm.locals) (hc0 : rmc.cells = 0 ∧ rmc.slots = 0) (hk : kc ≤ rm.cells ∧ ns ≤ rm.slots) (kk : ∀ (u : St), post u → VV Z kc ns (wr ++ wd u) lv (pc + 3) rest) : VV Z kc ns (wr ++ wd σ) lv pc st := by
  subst hst
  refine x_runv (a := (Value.ref b :: As).toArray) X (fun H locs ls hP hD hl => ?_) kk
  exact va_runV (C := y.cls) (As := As) (rest := rest) ⟨X.1, X.2.1, X.2.2.1, X.2.2.2.1, X.2.2.2.2.1⟩ (hM H.size) (cw_V X hm hc0 hlk hR) (pre_V X hP hD hT he) rfl rfl hl.1 rfl (lv_room h8) hd (by rw [X.2.2.2.2.2.2.2.2.1]; exact hk)
theorem x_cvv {post : St → Prop} {rest : List Value} (X : Cx Z own cc rm nL) (As : List Value) (hM : CV (zl Z) (zD Z) (zI Z) wd y cb nb rmc (.ref b :: As) σ post) (hm : Mv y cb nb none As.length) (hT : Tb ci y.cls T N) (q0 : Nat) (he : (wd σ)[q0]? = some (b, .inr (ci, fs))) (hlk : Cond.methodLink own idx y ∈ T0) (hd : decode cc pc = .ok (.invokevirtual idx, 3)) (hst : st = As.reverse ++ .ref b :: rest) (h8 : (rest.map fun v => v.category).sum ≤ 8) (hR : rmc.frames + 1 ≤ rm.frames ∧ 8 + (nb + 11) + rmc.locals ≤ rm.locals) (hc0 : rmc.cells = 0 ∧ rmc.slots = 0) (hk : kc ≤ rm.cells ∧ ns ≤ rm.slots) (kk : ∀ (u : St), post u → VV Z kc ns (wd u) lv (pc + 3) rest) : VV Z kc ns (wd σ) lv pc st := x_cvv_w (wr := []) X As hM hm hT q0 he hlk hd hst h8 hR hc0 hk kk
theorem x_cni_w {post : Int32 → St → Prop} {rest : List Value} {host : String} (X : Cx Z own cc rm nL) (As : List Value) (hM : CI (zl Z) (zD Z) (zI Z) wd y cb nb ty rmc (.ref b :: As) σ post) (hm : Mv y cb nb (some ty) As.length) (hT : Tb ci y.cls T N) (q0 : Nat) (he : (wd σ)[q0]? = some (b, .inr (ci, fs))) (hlk : Cond.methodLinkNest own idx y host ∈ N0) (hd : decode cc pc = .ok (.invokevirtual idx, 3)) (hst : st = As.reverse ++ .ref b :: rest) (h8 : (rest.map fun v => v.category).sum ≤ 8) (hR : rmc.frames + 1 ≤ rm.frames ∧ 8 + (nb + 11) + rmc.locals ≤ rm.locals) (hc0 : rmc.cells = 0 ∧ rmc.slots = 0) (hk : kc ≤ rm.cells ∧ ns ≤ rm.slots) (kk : ∀ (r : Int32) (u : St), post r u → VV Z kc ns (wr ++ wd u) lv (pc + 3) (.int r :: rest)) : VV Z kc ns (wr ++ wd σ) lv pc st := by
  subst hst
  refine x_runi (a := (Value.ref b :: As).toArray) X (fun H locs ls hP hD hl => ?_) kk
  exact va_runVN (C := y.cls) (As := As) (rest := rest) ⟨X.1, X.2.1, X.2.2.1, X.2.2.2.1, X.2.2.2.2.1⟩ (hM H.size) (cw_VN X hm hc0 hlk hR) (pre_V X hP hD hT he) rfl rfl hl.1 rfl (lv_room h8) hd (by rw [X.2.2.2.2.2.2.2.2.1]; exact hk)
theorem x_cni {post : Int32 → St → Prop} {rest : List Value} {host : String} (X : Cx Z own cc rm nL) (As : List Value) (hM : CI (zl Z) (zD Z) (zI Z) wd y cb nb ty rmc (.ref b :: As) σ post) (hm : Mv y cb nb (some ty) As.length) (hT : Tb ci y.cls T N) (q0 : Nat) (he : (wd σ)[q0]? = some (b, .inr (ci, fs))) (hlk : Cond.methodLinkNest own idx y host ∈ N0) (hd : decode cc pc = .ok (.invokevirtual idx, 3)) (hst : st = As.reverse ++ .ref b :: rest) (h8 : (rest.map fun v => v.category).sum ≤ 8) (hR : rmc.frames + 1 ≤ rm.frames ∧ 8 + (nb + 11) + rmc.locals ≤ rm.locals) (hc0 : rmc.cells = 0 ∧ rmc.slots = 0) (hk : kc ≤ rm.cells ∧ ns ≤ rm.slots) (kk : ∀ (r : Int32) (u : St), post r u → VV Z kc ns (wd u) lv (pc + 3) (.int r :: rest)) : VV Z kc ns (wd σ) lv pc st := x_cni_w (wr := []) X As hM hm hT q0 he hlk hd hst h8 hR hc0 hk kk
theorem x_cnv_w {post : St → Prop} {rest : List Value} {host : String} (X : Cx Z own cc rm nL) (As : List Value) (hM : CV (zl Z) (zD Z) (zI Z) wd y cb nb rmc (.ref b :: As) σ post) (hm : Mv y cb nb none As.length) (hT : Tb ci y.cls T N) (q0 : Nat) (he : (wd σ)[q0]? = some (b, .inr (ci, fs))) (hlk : Cond.methodLinkNest own idx y host ∈ N0) (hd : decode cc pc = .ok (.invokevirtual idx, 3)) (hst : st = As.reverse ++ .ref b :: rest) (h8 : (rest.map fun v => v.category).sum ≤ 8) (hR : rmc.frames + 1 ≤ rm.frames ∧ 8 + (nb + 11) + rmc.locals ≤ rm.locals) (hc0 : rmc.cells = 0 ∧ rmc.slots = 0) (hk : kc ≤ rm.cells ∧ ns ≤ rm.slots) (kk : ∀ (u : St), post u → VV Z kc ns (wr ++ wd u) lv (pc + 3) rest) : VV Z kc ns (wr ++ wd σ) lv pc st := by
  subst hst
  refine x_runv (a := (Value.ref b :: As).toArray) X (fun H locs ls hP hD hl => ?_) kk
  exact va_runVN (C := y.cls) (As := As) (rest := rest) ⟨X.1, X.2.1, X.2.2.1, X.2.2.2.1, X.2.2.2.2.1⟩ (hM H.size) (cw_VN X hm hc0 hlk hR) (pre_V X hP hD hT he) rfl rfl hl.1 rfl (lv_room h8) hd (by rw [X.2.2.2.2.2.2.2.2.1]; exact hk)
theorem x_cnv {post : St → Prop} {rest : List Value} {host : String} (X : Cx Z own cc rm nL) (As : List Value) (hM : CV (zl Z) (zD Z) (zI Z) wd y cb nb rmc (.ref b :: As) σ post) (hm : Mv y cb nb none As.length) (hT : Tb ci y.cls T N) (q0 : Nat) (he : (wd σ)[q0]? = some (b, .inr (ci, fs))) (hlk : Cond.methodLinkNest own idx y host ∈ N0) (hd : decode cc pc = .ok (.invokevirtual idx, 3)) (hst : st = As.reverse ++ .ref b :: rest) (h8 : (rest.map fun v => v.category).sum ≤ 8) (hR : rmc.frames + 1 ≤ rm.frames ∧ 8 + (nb + 11) + rmc.locals ≤ rm.locals) (hc0 : rmc.cells = 0 ∧ rmc.slots = 0) (hk : kc ≤ rm.cells ∧ ns ≤ rm.slots) (kk : ∀ (u : St), post u → VV Z kc ns (wd u) lv (pc + 3) rest) : VV Z kc ns (wd σ) lv pc st := x_cnv_w (wr := []) X As hM hm hT q0 he hlk hd hst h8 hR hc0 hk kk
theorem x_csi_w {post : Int32 → St → Prop} {rest : List Value} (X : Cx Z own cc rm nL) (As : List Value) (hM : CI (zl Z) (zD Z) (zI Z) wd y cb nb ty rmc As σ post) (hm : Ms y cb nb (some ty) As.length) (hlk : Cond.methodLink own idx y ∈ T0) (hd : decode cc pc = .ok (.invokestatic idx, 3)) (hst : st = As.reverse ++ rest) (h8 : (rest.map fun v => v.category).sum ≤ 8) (hR : rmc.frames + 1 ≤ rm.frames ∧ 8 + (nb + 11) + rmc.locals ≤ rm.locals) (hc0 : rmc.cells = 0 ∧ rmc.slots = 0) (hk : kc ≤ rm.cells ∧ ns ≤ rm.slots) (kk : ∀ (r : Int32) (u : St), post r u → VV Z kc ns (wr ++ wd u) lv (pc + 3) (.int r :: rest)) : VV Z kc ns (wr ++ wd σ) lv pc st := by
  subst hst
  refine x_runi (a := As.toArray) X (fun H locs ls hP hD hl => ?_) kk
  exact va_runS (As := As) (rest := rest) ⟨X.1, X.2.1, X.2.2.1, X.2.2.2.1, X.2.2.2.2.1⟩ (hM H.size) (cw_S X hm hc0 hlk hR) (pre_S X hP hD) rfl rfl hl.1 rfl (lv_room h8) hd (by rw [X.2.2.2.2.2.2.2.2.1]; exact hk)
theorem x_csi {post : Int32 → St → Prop} {rest : List Value} (X : Cx Z own cc rm nL) (As : List Value) (hM : CI (zl Z) (zD Z) (zI Z) wd y cb nb ty rmc As σ post) (hm : Ms y cb nb (some ty) As.length) (hlk : Cond.methodLink own idx y ∈ T0) (hd : decode cc pc = .ok (.invokestatic idx, 3)) (hst : st = As.reverse ++ rest) (h8 : (rest.map fun v => v.category).sum ≤ 8) (hR : rmc.frames + 1 ≤ rm.frames ∧ 8 + (nb + 11) + rmc.locals ≤ rm.locals) (hc0 : rmc.cells = 0 ∧ rmc.slots = 0) (hk : kc ≤ rm.cells ∧ ns ≤ rm.slots) (kk : ∀ (r : Int32) (u : St), post r u → VV Z kc ns (wd u) lv (pc + 3) (.int r :: rest)) : VV Z kc ns (wd σ) lv pc st := x_csi_w (wr := []) X As hM hm hlk hd hst h8 hR hc0 hk kk
theorem x_csv_w {post : St → Prop} {rest : List Value} (X : Cx Z own cc rm nL) (As : List Value) (hM : CV (zl Z) (zD Z) (zI Z) wd y cb nb rmc As σ post) (hm : Ms y cb nb none As.length) (hlk : Cond.methodLink own idx y ∈ T0) (hd : decode cc pc = .ok (.invokestatic idx, 3)) (hst : st = As.reverse ++ rest) (h8 : (rest.map fun v => v.category).sum ≤ 8) (hR : rmc.frames + 1 ≤ rm.frames ∧ 8 + (nb + 11) + rmc.locals ≤ rm.locals) (hc0 : rmc.cells = 0 ∧ rmc.slots = 0) (hk : kc ≤ rm.cells ∧ ns ≤ rm.slots) (kk : ∀ (u : St), post u → VV Z kc ns (wr ++ wd u) lv (pc + 3) rest) : VV Z kc ns (wr ++ wd σ) lv pc st := by
  subst hst
  refine x_runv (a := As.toArray) X (fun H locs ls hP hD hl => ?_) kk
  exact va_runS (As := As) (rest := rest) ⟨X.1, X.2.1, X.2.2.1, X.2.2.2.1, X.2.2.2.2.1⟩ (hM H.size) (cw_S X hm hc0 hlk hR) (pre_S X hP hD) rfl rfl hl.1 rfl (lv_room h8) hd (by rw [X.2.2.2.2.2.2.2.2.1]; exact hk)
theorem x_csv {post : St → Prop} {rest : List Value} (X : Cx Z own cc rm nL) (As : List Value) (hM : CV (zl Z) (zD Z) (zI Z) wd y cb nb rmc As σ post) (hm : Ms y cb nb none As.length) (hlk : Cond.methodLink own idx y ∈ T0) (hd : decode cc pc = .ok (.invokestatic idx, 3)) (hst : st = As.reverse ++ rest) (h8 : (rest.map fun v => v.category).sum ≤ 8) (hR : rmc.frames + 1 ≤ rm.frames ∧ 8 + (nb + 11) + rmc.locals ≤ rm.locals) (hc0 : rmc.cells = 0 ∧ rmc.slots = 0) (hk : kc ≤ rm.cells ∧ ns ≤ rm.slots) (kk : ∀ (u : St), post u → VV Z kc ns (wd u) lv (pc + 3) rest) : VV Z kc ns (wd σ) lv pc st := x_csv_w (wr := []) X As hM hm hlk hd hst h8 hR hc0 hk kk
end XC
