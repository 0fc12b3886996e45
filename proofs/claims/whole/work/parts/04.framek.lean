/-! THE FRAME, 2: what is made (new, newarray, constructors), the law's script, two worlds side by side. -/
theorem w_Pl {D : va_G} {wr wc : va_W} {H : Heap} (h : va_P D classes (wr ++ wc) H) : va_P D classes wr H := fun k q hq => h _ q (w_left hq)
theorem w_Dl {A : Nat → Prop} {wr wc : va_W} (h : va_D A (wr ++ wc)) : va_D A wr := ⟨fun i j p q hi hj e => h.1 i j p q (w_left hi) (w_left hj) e, fun k q hq => h.2 k q (w_left hq)⟩
theorem w_swapP {D : va_G} {a b : va_W} {H : Heap} (h : va_P D classes (a ++ b) H) : va_P D classes (b ++ a) H := va_P.app (w_Pc h) (w_Pl h)
theorem w_swapD {A : Nat → Prop} {a b : va_W} (h : va_D A (a ++ b)) : va_D A (b ++ a) := va_D.app (w_Dc h) (w_Dl h) (fun i j p q hi hj e => by
  have := h.1 _ _ q p (w_left hj) (w_right hi) e.symm
  have hl : j < a.length := (List.getElem?_eq_some_iff.mp hj).1
  omega)
theorem VV_swap {Z : ZT} {kc ns pc : Nat} {a b : va_W} {lv : List (Nat × Value)} {st : List Value} (h : VV Z kc ns (a ++ b) lv pc st) : VV Z kc ns (b ++ a) lv pc st := fun H locs ls hP hD hS hl => h H locs ls (w_swapP hP) (w_swapD hD) hS hl
theorem VV_widen {Z : ZT} {kc ns k n pc : Nat} {ws : va_W} {lv : List (Nat × Value)} {st : List Value} (h1 : kc ≤ k) (h2 : ns ≤ n) (h : VV Z k n ws lv pc st) : VV Z kc ns ws lv pc st := fun H locs ls hP hD hS hl => W.widen h1 h2 (h H locs ls hP hD hS hl)
/-- a constructor's contract: from the cells w0 to cells w with Pw w; mc cells of ms slots are new -/
def CK (l : Launch) (D : va_G) (cI : ClassId) (y : MethodName) (cc : ByteArray) (nL : Nat) (rm : Room) (av : List Value) (w0 : va_W) (Pw : va_W → Prop) (mc ms : Nat) : Prop :=
  ∀ sz : Nat, Met l y (Cond.code y cc nL none :: T0) rm (va_Pc av (PcB D cI w0 sz)) (va_Qv Pw (fun w t => va_P D classes w t.heap ∧ va_D (va_A w0 sz) w) (va_A w0 sz)) mc ms (va_A w0 sz)
def RK (Z : ZT) (cc : ByteArray) (Pw : va_W → Prop) (mc ms : Nat) : Prop := ∀ (w : va_W) (lv : List (Nat × Value)) (pc : Nat), decode cc pc = .ok (.return_, 1) → Pw w → VV Z mc ms w lv pc []
theorem CK_of {l : Launch} {D : va_G} {cI : ClassId} {y : MethodName} {cc : ByteArray} {nL : Nat} {rm : Room} {av : List Value} {w0 : va_W} {Pw : va_W → Prop} {mc ms : Nat} (hy : plainName y.cls = true) (hlen : (lg_sl av).length ≤ nL)
    (body : ∀ Z : ZT, zl Z = l → zD Z = D → zI Z = cI → (zt Z).name = y.name → Cx Z y.cls cc rm nL → RK Z cc Pw mc ms → VV Z 0 0 w0 (lv_args 0 av) 0 []) : CK l D cI y cc nL rm av w0 Pw mc ms := by
  intro sz
  refine Met.ofW (cc := cc) (maxL := nL) (ret := none) hy rfl ?_
  intro p e s m args below meth c s₁ B hml hv
  obtain ⟨rfl, hsz, hP, hK, hD0, hN⟩ := hv
  have hts := atoms_spec (ws := Cond.code y cc nL none :: T0) B.pre
  have hlocks := B.notSynchronized
  have hin : meth.name = y.name := (name_of_methodNamed B.named B.method).1
  subst hsz
  rw [lg_entry_eq]
  have hl := lv_entry av (n := nL) hlen
  refine body (p, l, e, rm, s, m, av.toArray, below, meth, c, va_A w0 s.heap.size, MQ below (va_Qv Pw (fun w t => va_P D classes w t.heap ∧ va_D (va_A w0 s.heap.size) w) (va_A w0 s.heap.size)) av.toArray s mc ms (va_A w0 s.heap.size), D, cI, nL) rfl rfl rfl hin ⟨B.exec, B.bytes, hml, findClass_of_methodNamed B.named, fun w hw => hts w (List.mem_cons_of_mem _ hw), hK, fun q h => Or.inr h, hN, rfl, rfl⟩ ?_ s.heap [] _ hP hD0.self va_S.rf hl
  intro w lv pc hd hp H locs ls hP hD hS hl
  exact W.vret B.exec B.bytes B.returns (fun t ht hW => ⟨⟨w, rfl, hp, by rw [ht]; exact hP, hD⟩, hS.F ht⟩) hS.2.2 hd (hlocks := hlocks)
section XK
variable {Z : ZT} {own : String} {cc : ByteArray} {rm : Room} {nL kc ns pc : Nat} {ws : va_W} {lv : List (Nat × Value)} {st : List Value}
theorem x_newa (X : Cx Z own cc rm nL) {n : Int32} {N : Nat} (hw : Cond.arrayClass .int ∈ T0) (hn : ¬ n < 0) (hN : n.toNatClampNeg = N) (hb : N * 4 ≤ 536870912) (hk : kc + 1 ≤ rm.cells) (hs : ns + N ≤ rm.slots) (hd : decode cc pc = .ok (.newarray .int, 2)) (h : ∀ a : Nat, VV Z (kc + 1) (ns + N) (ws ++ [(a, .inl (zI Z, N, .inl (fun _ => 0)))]) lv (pc + 2) (.ref a :: st)) : VV Z kc ns ws lv pc (.int n :: st) := by
  intro H locs ls hP hD hS hl
  refine va_newa (atype := .int) (ty := .int) X.1 X.2.1 (X.2.2.2.2.1 _ hw) rfl X.2.2.2.2.2.1 hP hD hS X.2.2.2.2.2.2.1 (a0 := (N, .inl (fun _ => 0))) (fun cA => rfl) hn hN hb (by rw [X.2.2.2.2.2.2.2.2.1]; exact hk) (by rw [X.2.2.2.2.2.2.2.2.1]; exact hs) hd (fun a cA H1 hK1 hP1 hD1 hS1 => ?_)
  have e1 := (hK1.2 0 _ rfl).2
  have e2 := (hK1.2 1 _ rfl).2
  have e : cA = zI Z := Option.some.inj (e2.symm.trans e1)
  rw [e] at hP1 hD1
  exact h a H1 locs ls hP1 hD1 hS1 hl
theorem x_new (X : Cx Z own cc rm nL) {ci N idx : Nat} {C : String} {T : u_T} {fs : List Value} (hT : Tb ci C T N) (ty : Nat → FieldType) (hty : ∀ k, k < N → parseFieldDescriptor (T k).2.2.1 = some (ty k)) (h1 : Cond.classLink own idx C ∈ T0) (h2 : Cond.instantiable C N ∈ T0) (h3 : Cond.initialized C ∈ T0) (hfs : ∀ j, j < N → defaultValue (ty j) = vp_V fs j) (hk : kc + 1 ≤ rm.cells) (hs : ns + N ≤ rm.slots) (hd : decode cc pc = .ok (.new idx, 3)) (h : ∀ a : Nat, VV Z (kc + 1) (ns + N) (ws ++ [(a, .inr (ci, fs))]) lv (pc + 3) (.ref a :: st)) : VV Z kc ns ws lv pc st := by
  intro H locs ls hP hD hS hl
  exact va_new X.1 X.2.1 X.2.2.2.2.1 hT.2.1 ty hty X.2.2.2.1 (X.2.2.2.2.1 _ h1) (X.2.2.2.2.1 _ h2) (X.2.2.2.2.1 _ h3) X.2.2.2.2.2.1 hP hD hS X.2.2.2.2.2.2.1 hT.1 hfs (by rw [X.2.2.2.2.2.2.2.2.1]; exact hk) (by rw [X.2.2.2.2.2.2.2.2.1]; exact hs) hd (fun a H1 hP1 hD1 hS1 => h a H1 locs ls hP1 hD1 hS1 hl)
theorem x_putF (X : Cx Z own cc rm nL) {ci N idx a r : Nat} {C : String} {T : u_T} {fs : List Value} {ty : FieldType} {ws' : va_W} (hin : (zt Z).name = "<init>") (hT : Tb ci C T N) (q0 k : Nat) (hk : k < N) (hw : Cond.fieldLink own idx (T k).1 (T k).2.1 (T k).2.2.1 ∈ T0) (he : ws[q0]? = some (a, .inr (ci, fs))) (hf : (T k).2.2.2 = true) (ho : (T k).1 = own) (hy : parseFieldDescriptor (T k).2.2.1 = some ty) (hna : narrow ty (.ref r) = .ref r) (hfi : fits ty (.ref r) = true) (hlen : k < fs.length) (hset : ws.set q0 (a, .inr (ci, fs.set k (.ref r))) = ws') (hd : decode cc pc = .ok (.putfield idx, 3)) (h : VV Z kc ns ws' lv (pc + 3) st) : VV Z kc ns ws lv pc (.ref r :: .ref a :: st) := by
  obtain ⟨h1, h2, h3, ty0, h4⟩ := hT
  subst hset
  exact fun H locs ls hP hD hS hl => va_putF X.1 X.2.1 X.2.2.2.2.1 h2 ty0 h4 h3 X.2.2.2.1 X.2.2.2.2.2.1 hP hD hS q0 he h1 k hk (X.2.2.2.2.1 _ hw) (fun _ z => z) hf hin ho hy hna hfi hlen hd (fun H1 l1 a1 a2 a3 => h H1 l1 ls a1 a2 a3 hl)
theorem x_objInit (X : Cx Z own cc rm nL) {idx a : Nat} (h1 : Cond.methodLink own idx Lib.objectInit ∈ T0) (h2 : Cond.instanceMethod Lib.objectInit ∈ T0) (h3 : Cond.code Lib.objectInit ⟨#[0xb1]⟩ 1 none ∈ T0) (hf : 1 ≤ rm.frames) (hl9 : (st.map fun v => v.category).sum + 12 ≤ rm.locals) (hd : decode cc pc = .ok (.invokespecial idx, 3)) (h : VV Z kc ns ws lv (pc + 3) st) : VV Z kc ns ws lv pc (.ref a :: st) := fun H locs ls hP hD hS hl =>
  W.objInit X.1 X.2.1 X.2.2.2.1 (X.2.2.2.2.1 _ h1) (X.2.2.2.2.1 _ h2) (X.2.2.2.2.1 _ h3) rfl (hl.1.trans X.2.2.1.symm) rfl hd (by rw [X.2.2.2.2.2.2.2.2.1]; exact hf) (by rw [X.2.2.2.2.2.2.2.2.1]; show 2 * 0 + _ + 12 ≤ _; omega) (h H locs ls hP hD hS hl)
/-- the call of a constructor, of one's own or of a nest mate -/
def Mk (y : MethodName) (cc : ByteArray) (nL : Nat) : Prop := Cond.instanceMethod y ∈ T0 ∧ Cond.initialized y.cls ∈ T0 ∧ Cond.code y cc nL none ∈ T0 ∧ y.name = "<init>" ∧ y.cls ≠ "java/lang/invoke/MethodHandle" ∧ y.cls ≠ "java/lang/invoke/VarHandle" ∧ (parseMethodDescriptor y.desc).map (fun d => d.parameters.length) = some 0
theorem x_ck0 (X : Cx Z own cc rm nL) {y : MethodName} {cb : ByteArray} {nb b mc ms : Nat} {rmc : Room} {wr w0 : va_W} {Pw : va_W → Prop} (hM : CK (zl Z) (zD Z) (zI Z) y cb nb rmc [.ref b] w0 Pw mc ms)
    (hr : ∀ (H : Heap) (locs : List Loc) (ls : Array Slot), va_P (zD Z) classes (wr ++ w0) H → va_D (zA Z) (wr ++ w0) → lv_has ls (zn Z) lv → Met (zl Z) y (Cond.code y cb nb none :: T0) rmc (va_Pc [.ref b] (PcB (zD Z) (zI Z) w0 H.size)) (va_Qv Pw (fun w t => va_P (zD Z) classes w t.heap ∧ va_D (va_A w0 H.size) w) (va_A w0 H.size)) mc ms (va_A w0 H.size) → va_Run (zp Z) (zl Z) (ze Z) (zR Z) (zs Z) (zm Z) (za Z) (zw Z) (zt Z) (zc Z) H locs kc ns mc ms (F0 (zm Z) pc ls (.ref b :: st)) st (va_Qv Pw (fun w t => va_P (zD Z) classes w t.heap ∧ va_D (va_A w0 H.size) w) (va_A w0 H.size) [Value.ref b].toArray) (va_A w0 H.size))
    (kk : ∀ w : va_W, Pw w → VV Z (kc + mc) (ns + ms) (wr ++ w) lv (pc + 3) st) : VV Z kc ns (wr ++ w0) lv pc (.ref b :: st) := by
  intro H locs ls hP hD hS hl
  have hFc : ∀ q, va_A w0 H.size q → zA Z q := x_free X (w_Dc hD) hS
  refine va_callv (hr H locs ls hP hD hl (hM H.size)) hS (fun q _ h => hFc q h) hFc (fun u t H1 locs1 ht hvm hw hB hz1 hk1 hS1 => ?_)
  obtain ⟨hP1, hD1⟩ := hB
  rw [ht] at hP1
  obtain ⟨hP', hD'⟩ := w_join hP hD hFc hk1 hP1 hD1
  exact kk u hw H1 locs1 ls hP' hD' hS1 hl
theorem x_ck (X : Cx Z own cc rm nL) {y : MethodName} {cb : ByteArray} {nb b mc ms idx : Nat} {rmc : Room} {wr w0 : va_W} {Pw : va_W → Prop} (hM : CK (zl Z) (zD Z) (zI Z) y cb nb rmc [.ref b] w0 Pw mc ms) (hm : Mk y cb nb) (hlk : Cond.methodLink own idx y ∈ T0) (hd : decode cc pc = .ok (.invokespecial idx, 3)) (h8 : (st.map fun v => v.category).sum ≤ 8) (hR : rmc.frames + 1 ≤ rm.frames ∧ 8 + (nb + 11) + rmc.locals ≤ rm.locals) (hc0 : rmc.cells = mc ∧ rmc.slots = ms) (hk : kc + mc ≤ rm.cells ∧ ns + ms ≤ rm.slots)
    (kk : ∀ w : va_W, Pw w → VV Z (kc + mc) (ns + ms) (wr ++ w) lv (pc + 3) st) : VV Z kc ns (wr ++ w0) lv pc (.ref b :: st) := by
  obtain ⟨m1, m3, m4, m0, m5, m6, m7⟩ := hm
  refine x_ck0 X hM (fun H locs ls hP hD hl hMt => ?_) kk
  exact va_runI (As := []) (rest := st) ⟨X.1, X.2.1, X.2.2.1, X.2.2.2.1, X.2.2.2.2.1⟩ hMt (cwI 0 X.2.2.2.2.1 (T0_cons m4) rfl hc0.1 hc0.2 (X.2.2.2.2.1 _ m3) (X.2.2.2.2.1 _ hlk) (X.2.2.2.2.1 _ m1) m0 ⟨m5, m6, m7⟩ (by rw [X.2.2.2.2.2.2.2.2.1]; exact hR)) ⟨pc_blind, fun U hU hW => ⟨rfl, by rw [hU], by rw [hU]; exact w_Pc hP, va_K.moved hW.alike X.2.2.2.2.2.1, (w_Dc hD).weaken (fun _ _ _ _ => trivial), nw_warm hW X.2.2.2.2.2.2.2.1⟩⟩ rfl rfl hl.1 rfl (lv_room h8) hd (by rw [X.2.2.2.2.2.2.2.2.1]; exact hk)
theorem x_ckN (X : Cx Z own cc rm nL) {y : MethodName} {cb : ByteArray} {nb b mc ms idx : Nat} {host : String} {rmc : Room} {wr w0 : va_W} {Pw : va_W → Prop} (hM : CK (zl Z) (zD Z) (zI Z) y cb nb rmc [.ref b] w0 Pw mc ms) (hm : Mk y cb nb) (hlk : Cond.methodLinkNest own idx y host ∈ N0) (hd : decode cc pc = .ok (.invokespecial idx, 3)) (h8 : (st.map fun v => v.category).sum ≤ 8) (hR : rmc.frames + 1 ≤ rm.frames ∧ 8 + (nb + 11) + rmc.locals ≤ rm.locals) (hc0 : rmc.cells = mc ∧ rmc.slots = ms) (hk : kc + mc ≤ rm.cells ∧ ns + ms ≤ rm.slots)
    (kk : ∀ w : va_W, Pw w → VV Z (kc + mc) (ns + ms) (wr ++ w) lv (pc + 3) st) : VV Z kc ns (wr ++ w0) lv pc (.ref b :: st) := by
  obtain ⟨m1, m3, m4, m0, m5, m6, m7⟩ := hm
  refine x_ck0 X hM (fun H locs ls hP hD hl hMt => ?_) kk
  exact va_runIN (As := []) (rest := st) ⟨X.1, X.2.1, X.2.2.1, X.2.2.2.1, X.2.2.2.2.1⟩ hMt ⟨va_cnB 0 X.2.2.2.2.1 (T0_cons m4) rfl hc0.1 hc0.2 (X.2.2.2.2.2.2.2.1 _ hlk) (X.2.2.2.2.1 _ m3) ⟨m5, m6, m7⟩ (by rw [X.2.2.2.2.2.2.2.2.1]; exact hR), m0, X.2.2.2.2.1 _ m1⟩ ⟨pc_blind, fun U hU hW => ⟨rfl, by rw [hU], by rw [hU]; exact w_Pc hP, va_K.moved hW.alike X.2.2.2.2.2.1, (w_Dc hD).weaken (fun _ _ _ _ => trivial), nw_warm hW X.2.2.2.2.2.2.2.1⟩⟩ rfl rfl hl.1 rfl (lv_room h8) hd (by rw [X.2.2.2.2.2.2.2.2.1]; exact hk)
/-- the script -/
theorem x_sld (X : Cx Z own cc rm nL) {b L : Nat} {xs : Nat → Int32} (hX : va_X b L xs (zs Z) (zs Z).heap) (hbl : b < (zs Z).heap.size) (hbA : ¬ zA Z b) {i : Int32} (hin : vp_in i L) (hd : decode cc pc = .ok (.iaload, 1)) (h : VV Z kc ns ws lv (pc + 1) (.int (xs i.toNatClampNeg) :: st)) : VV Z kc ns ws lv pc (.int i :: .ref b :: st) := fun H locs ls hP hD hS hl => va_sld X.1 X.2.1 hX hbl hbA hS hin hd (h H locs ls hP hD hS hl)
theorem x_slen (X : Cx Z own cc rm nL) {b L : Nat} {xs : Nat → Int32} (hX : va_X b L xs (zs Z) (zs Z).heap) (hbl : b < (zs Z).heap.size) (hbA : ¬ zA Z b) (hd : decode cc pc = .ok (.arraylength, 1)) (h : VV Z kc ns ws lv (pc + 1) (.int (nI L) :: st)) : VV Z kc ns ws lv pc (.ref b :: st) := fun H locs ls hP hD hS hl => va_slen X.1 X.2.1 hX hbl hbA hS hd (h H locs ls hP hD hS hl)
end XK
