/-! THE CLAIM OUT OF ONE WALK OF THE LAW'S BODY. Your part is whole_start (and what it stands on); all else here is the same for every law, but numbers. -/
def R_law : String := "WayTableLaw"
def lw_P (b : Addr) (xs : List Int32) (args : Array Value) (s : State) : Prop := args = #[.ref b] ∧ s.IntsAt b xs ∧ xs.length ≤ 2560 ∧ (Jvm.Cond.and given_1 narrow_1).before args s = true
def lw_Q (_ : Array Value) (s : State) (o : Outcome) (t : State) : Prop := o = .returned (some (.int 1)) ∧ Framed s o t [] 22 53497
def lw_Z (below : List Frame) (a : Array Value) (s : State) : State → Prop := fun t => ∃ o, t.status = .running ∧ Ended t below o ∧ lw_Q a s o t
/-- the law's own end, with 1 on the stack, nothing written that was there before, its room as the claim has it -/
theorem lw_ret {p : Program} {l : Launch} {e : Env} {s : State} {m : MethodId} {below : List Frame} {meth : Method} {c : Code} {b : Nat} (hx : p.tables.exec = Jvm.exec) (hb : c.code = code) (hr : meth.sig.returnType = ret) (hlocks : meth.locks = false) {pc : Nat} {H : Heap} {ls : Array Slot} (hdg : decode code pc = .ok (.ireturn, 1)) : W p l e room_1 s m #[Value.ref b] below meth c H [] 22 53497 (lw_Z below #[Value.ref b] s) (F0 m pc ls [.int 1]) := by
  intro T hT X
  obtain ⟨fs, hret, hrun, hended, hW, hframe⟩ := X.leave (v := some (.int 1)) (hlocks := hlocks) (fun h => by rw [hr] at h; cases h)
  have hmeth' : T.vm.method? m = some meth := X.method'
  refine ⟨T.setFrames fs, ?_, .returned (some (.int 1)), hrun, hended, rfl, ⟨_, rfl⟩, hW, hframe⟩
  jvm_step X.here [X.here.top, hx, hb, hdg, hmeth', hr, ret, narrow_b1]
  (try refine ⟨rfl, ?_⟩); (try refine ⟨rfl, ?_⟩)
  first | (intro acts; rw [hret _ acts rfl rfl rfl]) | rw [hret _ _ rfl rfl rfl]
  exact Steps.refl _
/-- what holds at the law's entry: the machine, the code, the tables' words (any of lw_tbl by 'hts w (by decide +kernel)'), the script of L ints xs at the cell b, what the Statement gives of the start (any of its parts by flat_of_before) -/
def lw_At (p : Program) (s : State) (m : MethodId) (meth : Method) (c : Code) (b L : Nat) (xs : Nat → Int32) : Prop :=
  p.tables.exec = Jvm.exec ∧ c.code = code ∧ meth.sig.returnType = ret ∧ c.maxLocals = 4 ∧ s.vm.findClass R_law = some m.cls ∧ (∀ w ∈ lw_tbl, w.before #[Value.ref b] s = true) ∧ va_X b L xs s s.heap ∧ b < s.heap.size ∧ meth.locks = false ∧ (Jvm.Cond.and given_1 narrow_1).before #[Value.ref b] s = true
set_option maxHeartbeats 4000000 in
set_option maxRecDepth 100000 in
theorem law_begin {Z : ZT} {b L : Nat} {xs : Nat → Int32} (hL : L ≤ 2560) (X : Cx Z "WayTableLaw" code room_1 4) (hX : va_X b L xs (zs Z) (zs Z).heap) (hbl : b < (zs Z).heap.size) (hbA : ¬ zA Z b) {q p : Nat → Nat} {σ τ : St} {x3 : Int32} (hRel : Rel σ τ) (i1 : vp_in (x3 + 1) L) (i2 : vp_in (x3 + (nI 2)) L) (i3 : vp_in (x3 + (nI 3)) L) (i4 : vp_in (x3 + (nI 4)) L) (hK : ∀ u v : St, Rel u v → VV Z 22 53497 ((wC (zI Z) q u) ++ (wM (zI Z) p v)) [(0, .ref b), (1, .ref (q 0)), (2, .ref (p 0)), (3, .int x3)] 545 []) : VV Z 22 53497 ((wC (zI Z) q σ) ++ (wM (zI Z) p τ)) [(0, .ref b), (1, .ref (q 0)), (2, .ref (p 0)), (3, .int x3)] 108 [] := by
  refine x_aload_n (pc := 108) X d_law_108 1 rfl ?_
  refine x_aload_n (pc := 109) X d_law_109 0 rfl ?_
  refine x_iload_n (pc := 110) X d_law_110 3 rfl ?_
  refine x_iconst (pc := 111) (v := 1) X d_law_111 (by decide) ?_
  refine x_iadd (pc := 112) X d_law_112 ?_
  refine x_sld (pc := 113) X hX hbl hbA i1 d_law_113 ?_
  refine x_aload_n (pc := 114) X d_law_114 0 rfl ?_
  refine x_iload_n (pc := 115) X d_law_115 3 rfl ?_
  refine x_iconst (pc := 116) (v := (nI 2)) X d_law_116 (by decide) ?_
  refine x_iadd (pc := 117) X d_law_117 ?_
  refine x_sld (pc := 118) X hX hbl hbA i2 d_law_118 ?_
  have hw := r_begin (x1 := (xs (x3 + 1).toNatClampNeg)) (x2 := (xs (x3 + (nI 2)).toNatClampNeg)) (post := eqR) hRel (fun _ _ _ _ h => h)
  refine VV_swap ?_
  refine x_cvi_w (pc := 119) (wr := (wM (zI Z) p τ)) (wd := wC (zI Z) q) X [.int (xs (x3 + 1).toNatClampNeg), .int (xs (x3 + (nI 2)).toNatClampNeg)] (c_W_begin (zl Z) (zD Z) (zI Z) q σ (xs (x3 + 1).toNatClampNeg) (xs (x3 + (nI 2)).toNatClampNeg) _ hw) mv_W_begin tb_W 0 rfl mw_133 d_law_119 rfl (Nat.le_of_ble_eq_true rfl) ⟨Nat.le_of_ble_eq_true rfl, Nat.le_of_ble_eq_true rfl⟩ ⟨rfl, rfl⟩ ⟨Nat.le_of_ble_eq_true rfl, Nat.le_of_ble_eq_true rfl⟩ ?_
  intro r1 u1 hw
  refine VV_swap ?_
  refine x_aload_n (pc := 122) X d_law_122 2 rfl ?_
  refine x_aload_n (pc := 123) X d_law_123 0 rfl ?_
  refine x_iload_n (pc := 124) X d_law_124 3 rfl ?_
  refine x_iconst (pc := 125) (v := 1) X d_law_125 (by decide) ?_
  refine x_iadd (pc := 126) X d_law_126 ?_
  refine x_sld (pc := 127) X hX hbl hbA i1 d_law_127 ?_
  refine x_aload_n (pc := 128) X d_law_128 0 rfl ?_
  refine x_iload_n (pc := 129) X d_law_129 3 rfl ?_
  refine x_iconst (pc := 130) (v := (nI 2)) X d_law_130 (by decide) ?_
  refine x_iadd (pc := 131) X d_law_131 ?_
  refine x_sld (pc := 132) X hX hbl hbA i2 d_law_132 ?_
  refine x_cvi_w (pc := 133) (wr := (wC (zI Z) q u1)) (wd := wM (zI Z) p) X [.int (xs (x3 + 1).toNatClampNeg), .int (xs (x3 + (nI 2)).toNatClampNeg)] (c_M_begin (zl Z) (zD Z) (zI Z) p τ (xs (x3 + 1).toNatClampNeg) (xs (x3 + (nI 2)).toNatClampNeg) _ hw) mv_M_begin tb_M 0 rfl mw_134 d_law_133 rfl (Nat.le_of_ble_eq_true rfl) ⟨Nat.le_of_ble_eq_true rfl, Nat.le_of_ble_eq_true rfl⟩ ⟨rfl, rfl⟩ ⟨Nat.le_of_ble_eq_true rfl, Nat.le_of_ble_eq_true rfl⟩ ?_
  intro r2 v1 hw
  obtain ⟨he, hR⟩ := hw
  refine x_icmp_eq (pc := 136) (tgt := 545) X d_law_136 (by decide) (fun _ => ?_) (fun c => absurd he c)
  exact hK u1 v1 hR
set_option maxHeartbeats 4000000 in
set_option maxRecDepth 100000 in
theorem law_way {Z : ZT} {b L : Nat} {xs : Nat → Int32} (hL : L ≤ 2560) (X : Cx Z "WayTableLaw" code room_1 4) (hX : va_X b L xs (zs Z) (zs Z).heap) (hbl : b < (zs Z).heap.size) (hbA : ¬ zA Z b) {q p : Nat → Nat} {σ τ : St} {x3 : Int32} (hRel : Rel σ τ) (i1 : vp_in (x3 + 1) L) (i2 : vp_in (x3 + (nI 2)) L) (i3 : vp_in (x3 + (nI 3)) L) (i4 : vp_in (x3 + (nI 4)) L) (hK : ∀ u v : St, Rel u v → VV Z 22 53497 ((wC (zI Z) q u) ++ (wM (zI Z) p v)) [(0, .ref b), (1, .ref (q 0)), (2, .ref (p 0)), (3, .int x3)] 545 []) : VV Z 22 53497 ((wC (zI Z) q σ) ++ (wM (zI Z) p τ)) [(0, .ref b), (1, .ref (q 0)), (2, .ref (p 0)), (3, .int x3)] 141 [] := by
  refine x_aload_n (pc := 141) X d_law_141 1 rfl ?_
  refine x_aload_n (pc := 142) X d_law_142 0 rfl ?_
  refine x_iload_n (pc := 143) X d_law_143 3 rfl ?_
  refine x_iconst (pc := 144) (v := 1) X d_law_144 (by decide) ?_
  refine x_iadd (pc := 145) X d_law_145 ?_
  refine x_sld (pc := 146) X hX hbl hbA i1 d_law_146 ?_
  refine x_aload_n (pc := 147) X d_law_147 0 rfl ?_
  refine x_iload_n (pc := 148) X d_law_148 3 rfl ?_
  refine x_iconst (pc := 149) (v := (nI 2)) X d_law_149 (by decide) ?_
  refine x_iadd (pc := 150) X d_law_150 ?_
  refine x_sld (pc := 151) X hX hbl hbA i2 d_law_151 ?_
  refine x_aload_n (pc := 152) X d_law_152 0 rfl ?_
  refine x_iload_n (pc := 153) X d_law_153 3 rfl ?_
  refine x_iconst (pc := 154) (v := (nI 3)) X d_law_154 (by decide) ?_
  refine x_iadd (pc := 155) X d_law_155 ?_
  refine x_sld (pc := 156) X hX hbl hbA i3 d_law_156 ?_
  refine x_aload_n (pc := 157) X d_law_157 0 rfl ?_
  refine x_iload_n (pc := 158) X d_law_158 3 rfl ?_
  refine x_iconst (pc := 159) (v := (nI 4)) X d_law_159 (by decide) ?_
  refine x_iadd (pc := 160) X d_law_160 ?_
  refine x_sld (pc := 161) X hX hbl hbA i4 d_law_161 ?_
  refine x_if_eq (pc := 162) (tgt := 169) X d_law_162 (by decide) (fun c1 => ?_) (fun c1 => ?_)
  · refine x_iconst (pc := 169) (v := 0) X d_law_169 (by decide) ?_
    have hw := r_way (x1 := (xs (x3 + 1).toNatClampNeg)) (x2 := (xs (x3 + (nI 2)).toNatClampNeg)) (x3 := (xs (x3 + (nI 3)).toNatClampNeg)) (x4 := 0) (post := eqR) hRel (fun _ _ _ _ h => h)
    refine VV_swap ?_
    refine x_cvi_w (pc := 170) (wr := (wM (zI Z) p τ)) (wd := wC (zI Z) q) X [.int (xs (x3 + 1).toNatClampNeg), .int (xs (x3 + (nI 2)).toNatClampNeg), .int (xs (x3 + (nI 3)).toNatClampNeg), .int 0] (c_W_way (zl Z) (zD Z) (zI Z) q σ (xs (x3 + 1).toNatClampNeg) (xs (x3 + (nI 2)).toNatClampNeg) (xs (x3 + (nI 3)).toNatClampNeg) 0 _ hw) mv_W_way tb_W 0 rfl mw_135 d_law_170 rfl (Nat.le_of_ble_eq_true rfl) ⟨Nat.le_of_ble_eq_true rfl, Nat.le_of_ble_eq_true rfl⟩ ⟨rfl, rfl⟩ ⟨Nat.le_of_ble_eq_true rfl, Nat.le_of_ble_eq_true rfl⟩ ?_
    intro r1 u1 hw
    refine VV_swap ?_
    refine x_aload_n (pc := 173) X d_law_173 2 rfl ?_
    refine x_aload_n (pc := 174) X d_law_174 0 rfl ?_
    refine x_iload_n (pc := 175) X d_law_175 3 rfl ?_
    refine x_iconst (pc := 176) (v := 1) X d_law_176 (by decide) ?_
    refine x_iadd (pc := 177) X d_law_177 ?_
    refine x_sld (pc := 178) X hX hbl hbA i1 d_law_178 ?_
    refine x_aload_n (pc := 179) X d_law_179 0 rfl ?_
    refine x_iload_n (pc := 180) X d_law_180 3 rfl ?_
    refine x_iconst (pc := 181) (v := (nI 2)) X d_law_181 (by decide) ?_
    refine x_iadd (pc := 182) X d_law_182 ?_
    refine x_sld (pc := 183) X hX hbl hbA i2 d_law_183 ?_
    refine x_aload_n (pc := 184) X d_law_184 0 rfl ?_
    refine x_iload_n (pc := 185) X d_law_185 3 rfl ?_
    refine x_iconst (pc := 186) (v := (nI 3)) X d_law_186 (by decide) ?_
    refine x_iadd (pc := 187) X d_law_187 ?_
    refine x_sld (pc := 188) X hX hbl hbA i3 d_law_188 ?_
    refine x_aload_n (pc := 189) X d_law_189 0 rfl ?_
    refine x_iload_n (pc := 190) X d_law_190 3 rfl ?_
    refine x_iconst (pc := 191) (v := (nI 4)) X d_law_191 (by decide) ?_
    refine x_iadd (pc := 192) X d_law_192 ?_
    refine x_sld (pc := 193) X hX hbl hbA i4 d_law_193 ?_
    refine x_if_eq (pc := 194) (tgt := 201) X d_law_194 (by decide) (fun _ => ?_) (fun c2 => absurd c1 c2)
    refine x_iconst (pc := 201) (v := 0) X d_law_201 (by decide) ?_
    refine x_cvi_w (pc := 202) (wr := (wC (zI Z) q u1)) (wd := wM (zI Z) p) X [.int (xs (x3 + 1).toNatClampNeg), .int (xs (x3 + (nI 2)).toNatClampNeg), .int (xs (x3 + (nI 3)).toNatClampNeg), .int 0] (c_M_way (zl Z) (zD Z) (zI Z) p τ (xs (x3 + 1).toNatClampNeg) (xs (x3 + (nI 2)).toNatClampNeg) (xs (x3 + (nI 3)).toNatClampNeg) 0 _ hw) mv_M_way tb_M 0 rfl mw_136 d_law_202 rfl (Nat.le_of_ble_eq_true rfl) ⟨Nat.le_of_ble_eq_true rfl, Nat.le_of_ble_eq_true rfl⟩ ⟨rfl, rfl⟩ ⟨Nat.le_of_ble_eq_true rfl, Nat.le_of_ble_eq_true rfl⟩ ?_
    intro r2 v1 hw
    obtain ⟨he, hR⟩ := hw
    refine x_icmp_eq (pc := 205) (tgt := 545) X d_law_205 (by decide) (fun _ => ?_) (fun c => absurd he c)
    exact hK u1 v1 hR
  · refine x_iconst (pc := 165) (v := 1) X d_law_165 (by decide) ?_
    refine x_goto (pc := 166) (tgt := 170) X d_law_166 (by decide) ?_
    have hw := r_way (x1 := (xs (x3 + 1).toNatClampNeg)) (x2 := (xs (x3 + (nI 2)).toNatClampNeg)) (x3 := (xs (x3 + (nI 3)).toNatClampNeg)) (x4 := 1) (post := eqR) hRel (fun _ _ _ _ h => h)
    refine VV_swap ?_
    refine x_cvi_w (pc := 170) (wr := (wM (zI Z) p τ)) (wd := wC (zI Z) q) X [.int (xs (x3 + 1).toNatClampNeg), .int (xs (x3 + (nI 2)).toNatClampNeg), .int (xs (x3 + (nI 3)).toNatClampNeg), .int 1] (c_W_way (zl Z) (zD Z) (zI Z) q σ (xs (x3 + 1).toNatClampNeg) (xs (x3 + (nI 2)).toNatClampNeg) (xs (x3 + (nI 3)).toNatClampNeg) 1 _ hw) mv_W_way tb_W 0 rfl mw_135 d_law_170 rfl (Nat.le_of_ble_eq_true rfl) ⟨Nat.le_of_ble_eq_true rfl, Nat.le_of_ble_eq_true rfl⟩ ⟨rfl, rfl⟩ ⟨Nat.le_of_ble_eq_true rfl, Nat.le_of_ble_eq_true rfl⟩ ?_
    intro r1 u1 hw
    refine VV_swap ?_
    refine x_aload_n (pc := 173) X d_law_173 2 rfl ?_
    refine x_aload_n (pc := 174) X d_law_174 0 rfl ?_
    refine x_iload_n (pc := 175) X d_law_175 3 rfl ?_
    refine x_iconst (pc := 176) (v := 1) X d_law_176 (by decide) ?_
    refine x_iadd (pc := 177) X d_law_177 ?_
    refine x_sld (pc := 178) X hX hbl hbA i1 d_law_178 ?_
    refine x_aload_n (pc := 179) X d_law_179 0 rfl ?_
    refine x_iload_n (pc := 180) X d_law_180 3 rfl ?_
    refine x_iconst (pc := 181) (v := (nI 2)) X d_law_181 (by decide) ?_
    refine x_iadd (pc := 182) X d_law_182 ?_
    refine x_sld (pc := 183) X hX hbl hbA i2 d_law_183 ?_
    refine x_aload_n (pc := 184) X d_law_184 0 rfl ?_
    refine x_iload_n (pc := 185) X d_law_185 3 rfl ?_
    refine x_iconst (pc := 186) (v := (nI 3)) X d_law_186 (by decide) ?_
    refine x_iadd (pc := 187) X d_law_187 ?_
    refine x_sld (pc := 188) X hX hbl hbA i3 d_law_188 ?_
    refine x_aload_n (pc := 189) X d_law_189 0 rfl ?_
    refine x_iload_n (pc := 190) X d_law_190 3 rfl ?_
    refine x_iconst (pc := 191) (v := (nI 4)) X d_law_191 (by decide) ?_
    refine x_iadd (pc := 192) X d_law_192 ?_
    refine x_sld (pc := 193) X hX hbl hbA i4 d_law_193 ?_
    refine x_if_eq (pc := 194) (tgt := 201) X d_law_194 (by decide) (fun c2 => absurd c2 c1) (fun _ => ?_)
    refine x_iconst (pc := 197) (v := 1) X d_law_197 (by decide) ?_
    refine x_goto (pc := 198) (tgt := 202) X d_law_198 (by decide) ?_
    refine x_cvi_w (pc := 202) (wr := (wC (zI Z) q u1)) (wd := wM (zI Z) p) X [.int (xs (x3 + 1).toNatClampNeg), .int (xs (x3 + (nI 2)).toNatClampNeg), .int (xs (x3 + (nI 3)).toNatClampNeg), .int 1] (c_M_way (zl Z) (zD Z) (zI Z) p τ (xs (x3 + 1).toNatClampNeg) (xs (x3 + (nI 2)).toNatClampNeg) (xs (x3 + (nI 3)).toNatClampNeg) 1 _ hw) mv_M_way tb_M 0 rfl mw_136 d_law_202 rfl (Nat.le_of_ble_eq_true rfl) ⟨Nat.le_of_ble_eq_true rfl, Nat.le_of_ble_eq_true rfl⟩ ⟨rfl, rfl⟩ ⟨Nat.le_of_ble_eq_true rfl, Nat.le_of_ble_eq_true rfl⟩ ?_
    intro r2 v1 hw
    obtain ⟨he, hR⟩ := hw
    refine x_icmp_eq (pc := 205) (tgt := 545) X d_law_205 (by decide) (fun _ => ?_) (fun c => absurd he c)
    exact hK u1 v1 hR
set_option maxHeartbeats 4000000 in
set_option maxRecDepth 100000 in
theorem law_fill {Z : ZT} {b L : Nat} {xs : Nat → Int32} (hL : L ≤ 2560) (X : Cx Z "WayTableLaw" code room_1 4) (hX : va_X b L xs (zs Z) (zs Z).heap) (hbl : b < (zs Z).heap.size) (hbA : ¬ zA Z b) {q p : Nat → Nat} {σ τ : St} {x3 : Int32} (hRel : Rel σ τ) (i1 : vp_in (x3 + 1) L) (i2 : vp_in (x3 + (nI 2)) L) (i3 : vp_in (x3 + (nI 3)) L) (i4 : vp_in (x3 + (nI 4)) L) (hK : ∀ u v : St, Rel u v → VV Z 22 53497 ((wC (zI Z) q u) ++ (wM (zI Z) p v)) [(0, .ref b), (1, .ref (q 0)), (2, .ref (p 0)), (3, .int x3)] 545 []) : VV Z 22 53497 ((wC (zI Z) q σ) ++ (wM (zI Z) p τ)) [(0, .ref b), (1, .ref (q 0)), (2, .ref (p 0)), (3, .int x3)] 210 [] := by
  refine x_aload_n (pc := 210) X d_law_210 1 rfl ?_
  refine x_aload_n (pc := 211) X d_law_211 0 rfl ?_
  refine x_iload_n (pc := 212) X d_law_212 3 rfl ?_
  refine x_iconst (pc := 213) (v := 1) X d_law_213 (by decide) ?_
  refine x_iadd (pc := 214) X d_law_214 ?_
  refine x_sld (pc := 215) X hX hbl hbA i1 d_law_215 ?_
  refine x_aload_n (pc := 216) X d_law_216 0 rfl ?_
  refine x_iload_n (pc := 217) X d_law_217 3 rfl ?_
  refine x_iconst (pc := 218) (v := (nI 2)) X d_law_218 (by decide) ?_
  refine x_iadd (pc := 219) X d_law_219 ?_
  refine x_sld (pc := 220) X hX hbl hbA i2 d_law_220 ?_
  have hw := r_fill (x1 := (xs (x3 + 1).toNatClampNeg)) (x2 := (xs (x3 + (nI 2)).toNatClampNeg)) (post := eqR) hRel (fun _ _ _ _ h => h)
  refine VV_swap ?_
  refine x_cvi_w (pc := 221) (wr := (wM (zI Z) p τ)) (wd := wC (zI Z) q) X [.int (xs (x3 + 1).toNatClampNeg), .int (xs (x3 + (nI 2)).toNatClampNeg)] (c_W_fill (zl Z) (zD Z) (zI Z) q σ (xs (x3 + 1).toNatClampNeg) (xs (x3 + (nI 2)).toNatClampNeg) _ hw) mv_W_fill tb_W 0 rfl mw_137 d_law_221 rfl (Nat.le_of_ble_eq_true rfl) ⟨Nat.le_of_ble_eq_true rfl, Nat.le_of_ble_eq_true rfl⟩ ⟨rfl, rfl⟩ ⟨Nat.le_of_ble_eq_true rfl, Nat.le_of_ble_eq_true rfl⟩ ?_
  intro r1 u1 hw
  refine VV_swap ?_
  refine x_aload_n (pc := 224) X d_law_224 2 rfl ?_
  refine x_aload_n (pc := 225) X d_law_225 0 rfl ?_
  refine x_iload_n (pc := 226) X d_law_226 3 rfl ?_
  refine x_iconst (pc := 227) (v := 1) X d_law_227 (by decide) ?_
  refine x_iadd (pc := 228) X d_law_228 ?_
  refine x_sld (pc := 229) X hX hbl hbA i1 d_law_229 ?_
  refine x_aload_n (pc := 230) X d_law_230 0 rfl ?_
  refine x_iload_n (pc := 231) X d_law_231 3 rfl ?_
  refine x_iconst (pc := 232) (v := (nI 2)) X d_law_232 (by decide) ?_
  refine x_iadd (pc := 233) X d_law_233 ?_
  refine x_sld (pc := 234) X hX hbl hbA i2 d_law_234 ?_
  refine x_cvi_w (pc := 235) (wr := (wC (zI Z) q u1)) (wd := wM (zI Z) p) X [.int (xs (x3 + 1).toNatClampNeg), .int (xs (x3 + (nI 2)).toNatClampNeg)] (c_M_fill (zl Z) (zD Z) (zI Z) p τ (xs (x3 + 1).toNatClampNeg) (xs (x3 + (nI 2)).toNatClampNeg) _ hw) mv_M_fill tb_M 0 rfl mw_138 d_law_235 rfl (Nat.le_of_ble_eq_true rfl) ⟨Nat.le_of_ble_eq_true rfl, Nat.le_of_ble_eq_true rfl⟩ ⟨rfl, rfl⟩ ⟨Nat.le_of_ble_eq_true rfl, Nat.le_of_ble_eq_true rfl⟩ ?_
  intro r2 v1 hw
  obtain ⟨he, hR⟩ := hw
  refine x_icmp_eq (pc := 238) (tgt := 545) X d_law_238 (by decide) (fun _ => ?_) (fun c => absurd he c)
  exact hK u1 v1 hR
set_option maxHeartbeats 4000000 in
set_option maxRecDepth 100000 in
theorem law_turn {Z : ZT} {b L : Nat} {xs : Nat → Int32} (hL : L ≤ 2560) (X : Cx Z "WayTableLaw" code room_1 4) (hX : va_X b L xs (zs Z) (zs Z).heap) (hbl : b < (zs Z).heap.size) (hbA : ¬ zA Z b) {q p : Nat → Nat} {σ τ : St} {x3 : Int32} (hRel : Rel σ τ) (i1 : vp_in (x3 + 1) L) (i2 : vp_in (x3 + (nI 2)) L) (i3 : vp_in (x3 + (nI 3)) L) (i4 : vp_in (x3 + (nI 4)) L) (hK : ∀ u v : St, Rel u v → VV Z 22 53497 ((wC (zI Z) q u) ++ (wM (zI Z) p v)) [(0, .ref b), (1, .ref (q 0)), (2, .ref (p 0)), (3, .int x3)] 545 []) : VV Z 22 53497 ((wC (zI Z) q σ) ++ (wM (zI Z) p τ)) [(0, .ref b), (1, .ref (q 0)), (2, .ref (p 0)), (3, .int x3)] 243 [] := by
  refine x_aload_n (pc := 243) X d_law_243 1 rfl ?_
  have hw := r_turn  (post := Rel) hRel (fun _ _ h => h)
  refine VV_swap ?_
  refine x_cvv_w (pc := 244) (wr := (wM (zI Z) p τ)) (wd := wC (zI Z) q) X [] (c_W_turn (zl Z) (zD Z) (zI Z) q σ  _ hw) mv_W_turn tb_W 0 rfl mw_139 d_law_244 rfl (Nat.le_of_ble_eq_true rfl) ⟨Nat.le_of_ble_eq_true rfl, Nat.le_of_ble_eq_true rfl⟩ ⟨rfl, rfl⟩ ⟨Nat.le_of_ble_eq_true rfl, Nat.le_of_ble_eq_true rfl⟩ ?_
  intro u1 hw
  refine VV_swap ?_
  refine x_aload_n (pc := 247) X d_law_247 2 rfl ?_
  refine x_cvv_w (pc := 248) (wr := (wC (zI Z) q u1)) (wd := wM (zI Z) p) X [] (c_M_turn (zl Z) (zD Z) (zI Z) p τ  _ hw) mv_M_turn tb_M 0 rfl mw_140 d_law_248 rfl (Nat.le_of_ble_eq_true rfl) ⟨Nat.le_of_ble_eq_true rfl, Nat.le_of_ble_eq_true rfl⟩ ⟨rfl, rfl⟩ ⟨Nat.le_of_ble_eq_true rfl, Nat.le_of_ble_eq_true rfl⟩ ?_
  intro v1 hw
  have hR := hw
  refine x_goto (pc := 251) (tgt := 545) X d_law_251 (by decide) ?_
  exact hK u1 v1 hR
set_option maxHeartbeats 4000000 in
set_option maxRecDepth 100000 in
theorem law_start {Z : ZT} {b L : Nat} {xs : Nat → Int32} (hL : L ≤ 2560) (X : Cx Z "WayTableLaw" code room_1 4) (hX : va_X b L xs (zs Z) (zs Z).heap) (hbl : b < (zs Z).heap.size) (hbA : ¬ zA Z b) {q p : Nat → Nat} {σ τ : St} {x3 : Int32} (hRel : Rel σ τ) (i1 : vp_in (x3 + 1) L) (i2 : vp_in (x3 + (nI 2)) L) (i3 : vp_in (x3 + (nI 3)) L) (i4 : vp_in (x3 + (nI 4)) L) (hK : ∀ u v : St, Rel u v → VV Z 22 53497 ((wC (zI Z) q u) ++ (wM (zI Z) p v)) [(0, .ref b), (1, .ref (q 0)), (2, .ref (p 0)), (3, .int x3)] 545 []) : VV Z 22 53497 ((wC (zI Z) q σ) ++ (wM (zI Z) p τ)) [(0, .ref b), (1, .ref (q 0)), (2, .ref (p 0)), (3, .int x3)] 254 [] := by
  refine x_aload_n (pc := 254) X d_law_254 1 rfl ?_
  refine x_aload_n (pc := 255) X d_law_255 0 rfl ?_
  refine x_iload_n (pc := 256) X d_law_256 3 rfl ?_
  refine x_iconst (pc := 257) (v := 1) X d_law_257 (by decide) ?_
  refine x_iadd (pc := 258) X d_law_258 ?_
  refine x_sld (pc := 259) X hX hbl hbA i1 d_law_259 ?_
  have hw := r_start (x := (xs (x3 + 1).toNatClampNeg)) (post := eqR) hRel (fun _ _ _ _ h => h)
  refine VV_swap ?_
  refine x_cvi_w (pc := 260) (wr := (wM (zI Z) p τ)) (wd := wC (zI Z) q) X [.int (xs (x3 + 1).toNatClampNeg)] (c_W_start (zl Z) (zD Z) (zI Z) q σ (xs (x3 + 1).toNatClampNeg) _ hw) mv_W_start tb_W 0 rfl mw_141 d_law_260 rfl (Nat.le_of_ble_eq_true rfl) ⟨Nat.le_of_ble_eq_true rfl, Nat.le_of_ble_eq_true rfl⟩ ⟨rfl, rfl⟩ ⟨Nat.le_of_ble_eq_true rfl, Nat.le_of_ble_eq_true rfl⟩ ?_
  intro r1 u1 hw
  refine VV_swap ?_
  refine x_aload_n (pc := 263) X d_law_263 2 rfl ?_
  refine x_aload_n (pc := 264) X d_law_264 0 rfl ?_
  refine x_iload_n (pc := 265) X d_law_265 3 rfl ?_
  refine x_iconst (pc := 266) (v := 1) X d_law_266 (by decide) ?_
  refine x_iadd (pc := 267) X d_law_267 ?_
  refine x_sld (pc := 268) X hX hbl hbA i1 d_law_268 ?_
  refine x_cvi_w (pc := 269) (wr := (wC (zI Z) q u1)) (wd := wM (zI Z) p) X [.int (xs (x3 + 1).toNatClampNeg)] (c_M_start (zl Z) (zD Z) (zI Z) p τ (xs (x3 + 1).toNatClampNeg) _ hw) mv_M_start tb_M 0 rfl mw_142 d_law_269 rfl (Nat.le_of_ble_eq_true rfl) ⟨Nat.le_of_ble_eq_true rfl, Nat.le_of_ble_eq_true rfl⟩ ⟨rfl, rfl⟩ ⟨Nat.le_of_ble_eq_true rfl, Nat.le_of_ble_eq_true rfl⟩ ?_
  intro r2 v1 hw
  obtain ⟨he, hR⟩ := hw
  refine x_icmp_eq (pc := 272) (tgt := 545) X d_law_272 (by decide) (fun _ => ?_) (fun c => absurd he c)
  exact hK u1 v1 hR
set_option maxHeartbeats 4000000 in
set_option maxRecDepth 100000 in
theorem law_make {Z : ZT} {b L : Nat} {xs : Nat → Int32} (hL : L ≤ 2560) (X : Cx Z "WayTableLaw" code room_1 4) (hX : va_X b L xs (zs Z) (zs Z).heap) (hbl : b < (zs Z).heap.size) (hbA : ¬ zA Z b) {q p : Nat → Nat} {σ τ : St} {x3 : Int32} (hRel : Rel σ τ) (i1 : vp_in (x3 + 1) L) (i2 : vp_in (x3 + (nI 2)) L) (i3 : vp_in (x3 + (nI 3)) L) (i4 : vp_in (x3 + (nI 4)) L) (hK : ∀ u v : St, Rel u v → VV Z 22 53497 ((wC (zI Z) q u) ++ (wM (zI Z) p v)) [(0, .ref b), (1, .ref (q 0)), (2, .ref (p 0)), (3, .int x3)] 545 []) : VV Z 22 53497 ((wC (zI Z) q σ) ++ (wM (zI Z) p τ)) [(0, .ref b), (1, .ref (q 0)), (2, .ref (p 0)), (3, .int x3)] 277 [] := by
  refine x_aload_n (pc := 277) X d_law_277 1 rfl ?_
  have hw := r_make  (post := eqR) hRel (fun _ _ _ _ h => h)
  refine VV_swap ?_
  refine x_cvi_w (pc := 278) (wr := (wM (zI Z) p τ)) (wd := wC (zI Z) q) X [] (c_W_make (zl Z) (zD Z) (zI Z) q σ  _ hw) mv_W_make tb_W 0 rfl mw_143 d_law_278 rfl (Nat.le_of_ble_eq_true rfl) ⟨Nat.le_of_ble_eq_true rfl, Nat.le_of_ble_eq_true rfl⟩ ⟨rfl, rfl⟩ ⟨Nat.le_of_ble_eq_true rfl, Nat.le_of_ble_eq_true rfl⟩ ?_
  intro r1 u1 hw
  refine VV_swap ?_
  refine x_aload_n (pc := 281) X d_law_281 2 rfl ?_
  refine x_cvi_w (pc := 282) (wr := (wC (zI Z) q u1)) (wd := wM (zI Z) p) X [] (c_M_make (zl Z) (zD Z) (zI Z) p τ  _ hw) mv_M_make tb_M 0 rfl mw_144 d_law_282 rfl (Nat.le_of_ble_eq_true rfl) ⟨Nat.le_of_ble_eq_true rfl, Nat.le_of_ble_eq_true rfl⟩ ⟨rfl, rfl⟩ ⟨Nat.le_of_ble_eq_true rfl, Nat.le_of_ble_eq_true rfl⟩ ?_
  intro r2 v1 hw
  obtain ⟨he, hR⟩ := hw
  refine x_icmp_eq (pc := 285) (tgt := 545) X d_law_285 (by decide) (fun _ => ?_) (fun c => absurd he c)
  exact hK u1 v1 hR
set_option maxHeartbeats 4000000 in
set_option maxRecDepth 100000 in
theorem law_home {Z : ZT} {b L : Nat} {xs : Nat → Int32} (hL : L ≤ 2560) (X : Cx Z "WayTableLaw" code room_1 4) (hX : va_X b L xs (zs Z) (zs Z).heap) (hbl : b < (zs Z).heap.size) (hbA : ¬ zA Z b) {q p : Nat → Nat} {σ τ : St} {x3 : Int32} (hRel : Rel σ τ) (i1 : vp_in (x3 + 1) L) (i2 : vp_in (x3 + (nI 2)) L) (i3 : vp_in (x3 + (nI 3)) L) (i4 : vp_in (x3 + (nI 4)) L) (hK : ∀ u v : St, Rel u v → VV Z 22 53497 ((wC (zI Z) q u) ++ (wM (zI Z) p v)) [(0, .ref b), (1, .ref (q 0)), (2, .ref (p 0)), (3, .int x3)] 545 []) : VV Z 22 53497 ((wC (zI Z) q σ) ++ (wM (zI Z) p τ)) [(0, .ref b), (1, .ref (q 0)), (2, .ref (p 0)), (3, .int x3)] 290 [] := by
  refine x_aload_n (pc := 290) X d_law_290 1 rfl ?_
  have hw := r_home  (post := Rel) hRel (fun _ _ h => h)
  refine VV_swap ?_
  refine x_cvv_w (pc := 291) (wr := (wM (zI Z) p τ)) (wd := wC (zI Z) q) X [] (c_W_home (zl Z) (zD Z) (zI Z) q σ  _ hw) mv_W_home tb_W 0 rfl mw_145 d_law_291 rfl (Nat.le_of_ble_eq_true rfl) ⟨Nat.le_of_ble_eq_true rfl, Nat.le_of_ble_eq_true rfl⟩ ⟨rfl, rfl⟩ ⟨Nat.le_of_ble_eq_true rfl, Nat.le_of_ble_eq_true rfl⟩ ?_
  intro u1 hw
  refine VV_swap ?_
  refine x_aload_n (pc := 294) X d_law_294 2 rfl ?_
  refine x_cvv_w (pc := 295) (wr := (wC (zI Z) q u1)) (wd := wM (zI Z) p) X [] (c_M_home (zl Z) (zD Z) (zI Z) p τ  _ hw) mv_M_home tb_M 0 rfl mw_146 d_law_295 rfl (Nat.le_of_ble_eq_true rfl) ⟨Nat.le_of_ble_eq_true rfl, Nat.le_of_ble_eq_true rfl⟩ ⟨rfl, rfl⟩ ⟨Nat.le_of_ble_eq_true rfl, Nat.le_of_ble_eq_true rfl⟩ ?_
  intro v1 hw
  have hR := hw
  refine x_goto (pc := 298) (tgt := 545) X d_law_298 (by decide) ?_
  exact hK u1 v1 hR
set_option maxHeartbeats 4000000 in
set_option maxRecDepth 100000 in
theorem law_go {Z : ZT} {b L : Nat} {xs : Nat → Int32} (hL : L ≤ 2560) (X : Cx Z "WayTableLaw" code room_1 4) (hX : va_X b L xs (zs Z) (zs Z).heap) (hbl : b < (zs Z).heap.size) (hbA : ¬ zA Z b) {q p : Nat → Nat} {σ τ : St} {x3 : Int32} (hRel : Rel σ τ) (i1 : vp_in (x3 + 1) L) (i2 : vp_in (x3 + (nI 2)) L) (i3 : vp_in (x3 + (nI 3)) L) (i4 : vp_in (x3 + (nI 4)) L) (hK : ∀ u v : St, Rel u v → VV Z 22 53497 ((wC (zI Z) q u) ++ (wM (zI Z) p v)) [(0, .ref b), (1, .ref (q 0)), (2, .ref (p 0)), (3, .int x3)] 545 []) : VV Z 22 53497 ((wC (zI Z) q σ) ++ (wM (zI Z) p τ)) [(0, .ref b), (1, .ref (q 0)), (2, .ref (p 0)), (3, .int x3)] 301 [] := by
  refine x_aload_n (pc := 301) X d_law_301 1 rfl ?_
  refine x_aload_n (pc := 302) X d_law_302 0 rfl ?_
  refine x_iload_n (pc := 303) X d_law_303 3 rfl ?_
  refine x_iconst (pc := 304) (v := 1) X d_law_304 (by decide) ?_
  refine x_iadd (pc := 305) X d_law_305 ?_
  refine x_sld (pc := 306) X hX hbl hbA i1 d_law_306 ?_
  have hw := r_go (x := (xs (x3 + 1).toNatClampNeg)) (post := eqR) hRel (fun _ _ _ _ h => h)
  refine VV_swap ?_
  refine x_cvi_w (pc := 307) (wr := (wM (zI Z) p τ)) (wd := wC (zI Z) q) X [.int (xs (x3 + 1).toNatClampNeg)] (c_W_go (zl Z) (zD Z) (zI Z) q σ (xs (x3 + 1).toNatClampNeg) _ hw) mv_W_go tb_W 0 rfl mw_147 d_law_307 rfl (Nat.le_of_ble_eq_true rfl) ⟨Nat.le_of_ble_eq_true rfl, Nat.le_of_ble_eq_true rfl⟩ ⟨rfl, rfl⟩ ⟨Nat.le_of_ble_eq_true rfl, Nat.le_of_ble_eq_true rfl⟩ ?_
  intro r1 u1 hw
  refine VV_swap ?_
  refine x_aload_n (pc := 310) X d_law_310 2 rfl ?_
  refine x_aload_n (pc := 311) X d_law_311 0 rfl ?_
  refine x_iload_n (pc := 312) X d_law_312 3 rfl ?_
  refine x_iconst (pc := 313) (v := 1) X d_law_313 (by decide) ?_
  refine x_iadd (pc := 314) X d_law_314 ?_
  refine x_sld (pc := 315) X hX hbl hbA i1 d_law_315 ?_
  refine x_cvi_w (pc := 316) (wr := (wC (zI Z) q u1)) (wd := wM (zI Z) p) X [.int (xs (x3 + 1).toNatClampNeg)] (c_M_go (zl Z) (zD Z) (zI Z) p τ (xs (x3 + 1).toNatClampNeg) _ hw) mv_M_go tb_M 0 rfl mw_148 d_law_316 rfl (Nat.le_of_ble_eq_true rfl) ⟨Nat.le_of_ble_eq_true rfl, Nat.le_of_ble_eq_true rfl⟩ ⟨rfl, rfl⟩ ⟨Nat.le_of_ble_eq_true rfl, Nat.le_of_ble_eq_true rfl⟩ ?_
  intro r2 v1 hw
  obtain ⟨he, hR⟩ := hw
  refine x_icmp_eq (pc := 319) (tgt := 545) X d_law_319 (by decide) (fun _ => ?_) (fun c => absurd he c)
  exact hK u1 v1 hR
set_option maxHeartbeats 4000000 in
set_option maxRecDepth 100000 in
theorem law_to {Z : ZT} {b L : Nat} {xs : Nat → Int32} (hL : L ≤ 2560) (X : Cx Z "WayTableLaw" code room_1 4) (hX : va_X b L xs (zs Z) (zs Z).heap) (hbl : b < (zs Z).heap.size) (hbA : ¬ zA Z b) {q p : Nat → Nat} {σ τ : St} {x3 : Int32} (hRel : Rel σ τ) (i1 : vp_in (x3 + 1) L) (i2 : vp_in (x3 + (nI 2)) L) (i3 : vp_in (x3 + (nI 3)) L) (i4 : vp_in (x3 + (nI 4)) L) (hK : ∀ u v : St, Rel u v → VV Z 22 53497 ((wC (zI Z) q u) ++ (wM (zI Z) p v)) [(0, .ref b), (1, .ref (q 0)), (2, .ref (p 0)), (3, .int x3)] 545 []) : VV Z 22 53497 ((wC (zI Z) q σ) ++ (wM (zI Z) p τ)) [(0, .ref b), (1, .ref (q 0)), (2, .ref (p 0)), (3, .int x3)] 324 [] := by
  refine x_aload_n (pc := 324) X d_law_324 1 rfl ?_
  refine x_aload_n (pc := 325) X d_law_325 0 rfl ?_
  refine x_iload_n (pc := 326) X d_law_326 3 rfl ?_
  refine x_iconst (pc := 327) (v := 1) X d_law_327 (by decide) ?_
  refine x_iadd (pc := 328) X d_law_328 ?_
  refine x_sld (pc := 329) X hX hbl hbA i1 d_law_329 ?_
  refine x_aload_n (pc := 330) X d_law_330 0 rfl ?_
  refine x_iload_n (pc := 331) X d_law_331 3 rfl ?_
  refine x_iconst (pc := 332) (v := (nI 2)) X d_law_332 (by decide) ?_
  refine x_iadd (pc := 333) X d_law_333 ?_
  refine x_sld (pc := 334) X hX hbl hbA i2 d_law_334 ?_
  have hw := r_to (x1 := (xs (x3 + 1).toNatClampNeg)) (x2 := (xs (x3 + (nI 2)).toNatClampNeg)) (post := eqR) hRel (fun _ _ _ _ h => h)
  refine VV_swap ?_
  refine x_cvi_w (pc := 335) (wr := (wM (zI Z) p τ)) (wd := wC (zI Z) q) X [.int (xs (x3 + 1).toNatClampNeg), .int (xs (x3 + (nI 2)).toNatClampNeg)] (c_W_to (zl Z) (zD Z) (zI Z) q σ (xs (x3 + 1).toNatClampNeg) (xs (x3 + (nI 2)).toNatClampNeg) _ hw) mv_W_to tb_W 0 rfl mw_149 d_law_335 rfl (Nat.le_of_ble_eq_true rfl) ⟨Nat.le_of_ble_eq_true rfl, Nat.le_of_ble_eq_true rfl⟩ ⟨rfl, rfl⟩ ⟨Nat.le_of_ble_eq_true rfl, Nat.le_of_ble_eq_true rfl⟩ ?_
  intro r1 u1 hw
  refine VV_swap ?_
  refine x_aload_n (pc := 338) X d_law_338 2 rfl ?_
  refine x_aload_n (pc := 339) X d_law_339 0 rfl ?_
  refine x_iload_n (pc := 340) X d_law_340 3 rfl ?_
  refine x_iconst (pc := 341) (v := 1) X d_law_341 (by decide) ?_
  refine x_iadd (pc := 342) X d_law_342 ?_
  refine x_sld (pc := 343) X hX hbl hbA i1 d_law_343 ?_
  refine x_aload_n (pc := 344) X d_law_344 0 rfl ?_
  refine x_iload_n (pc := 345) X d_law_345 3 rfl ?_
  refine x_iconst (pc := 346) (v := (nI 2)) X d_law_346 (by decide) ?_
  refine x_iadd (pc := 347) X d_law_347 ?_
  refine x_sld (pc := 348) X hX hbl hbA i2 d_law_348 ?_
  refine x_cvi_w (pc := 349) (wr := (wC (zI Z) q u1)) (wd := wM (zI Z) p) X [.int (xs (x3 + 1).toNatClampNeg), .int (xs (x3 + (nI 2)).toNatClampNeg)] (c_M_to (zl Z) (zD Z) (zI Z) p τ (xs (x3 + 1).toNatClampNeg) (xs (x3 + (nI 2)).toNatClampNeg) _ hw) mv_M_to tb_M 0 rfl mw_150 d_law_349 rfl (Nat.le_of_ble_eq_true rfl) ⟨Nat.le_of_ble_eq_true rfl, Nat.le_of_ble_eq_true rfl⟩ ⟨rfl, rfl⟩ ⟨Nat.le_of_ble_eq_true rfl, Nat.le_of_ble_eq_true rfl⟩ ?_
  intro r2 v1 hw
  obtain ⟨he, hR⟩ := hw
  refine x_icmp_eq (pc := 352) (tgt := 545) X d_law_352 (by decide) (fun _ => ?_) (fun c => absurd he c)
  exact hK u1 v1 hR
set_option maxHeartbeats 4000000 in
set_option maxRecDepth 100000 in
theorem law_nodes {Z : ZT} {b L : Nat} {xs : Nat → Int32} (hL : L ≤ 2560) (X : Cx Z "WayTableLaw" code room_1 4) (hX : va_X b L xs (zs Z) (zs Z).heap) (hbl : b < (zs Z).heap.size) (hbA : ¬ zA Z b) {q p : Nat → Nat} {σ τ : St} {x3 : Int32} (hRel : Rel σ τ) (i1 : vp_in (x3 + 1) L) (i2 : vp_in (x3 + (nI 2)) L) (i3 : vp_in (x3 + (nI 3)) L) (i4 : vp_in (x3 + (nI 4)) L) (hK : ∀ u v : St, Rel u v → VV Z 22 53497 ((wC (zI Z) q u) ++ (wM (zI Z) p v)) [(0, .ref b), (1, .ref (q 0)), (2, .ref (p 0)), (3, .int x3)] 545 []) : VV Z 22 53497 ((wC (zI Z) q σ) ++ (wM (zI Z) p τ)) [(0, .ref b), (1, .ref (q 0)), (2, .ref (p 0)), (3, .int x3)] 357 [] := by
  refine x_aload_n (pc := 357) X d_law_357 1 rfl ?_
  refine x_aload_n (pc := 358) X d_law_358 0 rfl ?_
  refine x_iload_n (pc := 359) X d_law_359 3 rfl ?_
  refine x_iconst (pc := 360) (v := 1) X d_law_360 (by decide) ?_
  refine x_iadd (pc := 361) X d_law_361 ?_
  refine x_sld (pc := 362) X hX hbl hbA i1 d_law_362 ?_
  have hw := r_nodes (x := (xs (x3 + 1).toNatClampNeg)) (post := eqR) hRel (fun _ _ _ _ h => h)
  refine VV_swap ?_
  refine x_cvi_w (pc := 363) (wr := (wM (zI Z) p τ)) (wd := wC (zI Z) q) X [.int (xs (x3 + 1).toNatClampNeg)] (c_W_nodes (zl Z) (zD Z) (zI Z) q σ (xs (x3 + 1).toNatClampNeg) _ hw) mv_W_nodes tb_W 0 rfl mw_151 d_law_363 rfl (Nat.le_of_ble_eq_true rfl) ⟨Nat.le_of_ble_eq_true rfl, Nat.le_of_ble_eq_true rfl⟩ ⟨rfl, rfl⟩ ⟨Nat.le_of_ble_eq_true rfl, Nat.le_of_ble_eq_true rfl⟩ ?_
  intro r1 u1 hw
  refine VV_swap ?_
  refine x_aload_n (pc := 366) X d_law_366 2 rfl ?_
  refine x_aload_n (pc := 367) X d_law_367 0 rfl ?_
  refine x_iload_n (pc := 368) X d_law_368 3 rfl ?_
  refine x_iconst (pc := 369) (v := 1) X d_law_369 (by decide) ?_
  refine x_iadd (pc := 370) X d_law_370 ?_
  refine x_sld (pc := 371) X hX hbl hbA i1 d_law_371 ?_
  refine x_cvi_w (pc := 372) (wr := (wC (zI Z) q u1)) (wd := wM (zI Z) p) X [.int (xs (x3 + 1).toNatClampNeg)] (c_M_nodes (zl Z) (zD Z) (zI Z) p τ (xs (x3 + 1).toNatClampNeg) _ hw) mv_M_nodes tb_M 0 rfl mw_152 d_law_372 rfl (Nat.le_of_ble_eq_true rfl) ⟨Nat.le_of_ble_eq_true rfl, Nat.le_of_ble_eq_true rfl⟩ ⟨rfl, rfl⟩ ⟨Nat.le_of_ble_eq_true rfl, Nat.le_of_ble_eq_true rfl⟩ ?_
  intro r2 v1 hw
  obtain ⟨he, hR⟩ := hw
  refine x_icmp_eq (pc := 375) (tgt := 545) X d_law_375 (by decide) (fun _ => ?_) (fun c => absurd he c)
  exact hK u1 v1 hR
set_option maxHeartbeats 4000000 in
set_option maxRecDepth 100000 in
theorem law_state {Z : ZT} {b L : Nat} {xs : Nat → Int32} (hL : L ≤ 2560) (X : Cx Z "WayTableLaw" code room_1 4) (hX : va_X b L xs (zs Z) (zs Z).heap) (hbl : b < (zs Z).heap.size) (hbA : ¬ zA Z b) {q p : Nat → Nat} {σ τ : St} {x3 : Int32} (hRel : Rel σ τ) (i1 : vp_in (x3 + 1) L) (i2 : vp_in (x3 + (nI 2)) L) (i3 : vp_in (x3 + (nI 3)) L) (i4 : vp_in (x3 + (nI 4)) L) (hK : ∀ u v : St, Rel u v → VV Z 22 53497 ((wC (zI Z) q u) ++ (wM (zI Z) p v)) [(0, .ref b), (1, .ref (q 0)), (2, .ref (p 0)), (3, .int x3)] 545 []) : VV Z 22 53497 ((wC (zI Z) q σ) ++ (wM (zI Z) p τ)) [(0, .ref b), (1, .ref (q 0)), (2, .ref (p 0)), (3, .int x3)] 380 [] := by
  refine x_aload_n (pc := 380) X d_law_380 1 rfl ?_
  refine x_aload_n (pc := 381) X d_law_381 0 rfl ?_
  refine x_iload_n (pc := 382) X d_law_382 3 rfl ?_
  refine x_iconst (pc := 383) (v := 1) X d_law_383 (by decide) ?_
  refine x_iadd (pc := 384) X d_law_384 ?_
  refine x_sld (pc := 385) X hX hbl hbA i1 d_law_385 ?_
  have hw := r_state (x := (xs (x3 + 1).toNatClampNeg)) (post := eqR) hRel (fun _ _ _ _ h => h)
  refine VV_swap ?_
  refine x_cvi_w (pc := 386) (wr := (wM (zI Z) p τ)) (wd := wC (zI Z) q) X [.int (xs (x3 + 1).toNatClampNeg)] (c_W_state (zl Z) (zD Z) (zI Z) q σ (xs (x3 + 1).toNatClampNeg) _ hw) mv_W_state tb_W 0 rfl mw_153 d_law_386 rfl (Nat.le_of_ble_eq_true rfl) ⟨Nat.le_of_ble_eq_true rfl, Nat.le_of_ble_eq_true rfl⟩ ⟨rfl, rfl⟩ ⟨Nat.le_of_ble_eq_true rfl, Nat.le_of_ble_eq_true rfl⟩ ?_
  intro r1 u1 hw
  refine VV_swap ?_
  refine x_aload_n (pc := 389) X d_law_389 2 rfl ?_
  refine x_aload_n (pc := 390) X d_law_390 0 rfl ?_
  refine x_iload_n (pc := 391) X d_law_391 3 rfl ?_
  refine x_iconst (pc := 392) (v := 1) X d_law_392 (by decide) ?_
  refine x_iadd (pc := 393) X d_law_393 ?_
  refine x_sld (pc := 394) X hX hbl hbA i1 d_law_394 ?_
  refine x_cvi_w (pc := 395) (wr := (wC (zI Z) q u1)) (wd := wM (zI Z) p) X [.int (xs (x3 + 1).toNatClampNeg)] (c_M_state (zl Z) (zD Z) (zI Z) p τ (xs (x3 + 1).toNatClampNeg) _ hw) mv_M_state tb_M 0 rfl mw_154 d_law_395 rfl (Nat.le_of_ble_eq_true rfl) ⟨Nat.le_of_ble_eq_true rfl, Nat.le_of_ble_eq_true rfl⟩ ⟨rfl, rfl⟩ ⟨Nat.le_of_ble_eq_true rfl, Nat.le_of_ble_eq_true rfl⟩ ?_
  intro r2 v1 hw
  obtain ⟨he, hR⟩ := hw
  refine x_icmp_eq (pc := 398) (tgt := 545) X d_law_398 (by decide) (fun _ => ?_) (fun c => absurd he c)
  exact hK u1 v1 hR
set_option maxHeartbeats 4000000 in
set_option maxRecDepth 100000 in
theorem law_apart {Z : ZT} {b L : Nat} {xs : Nat → Int32} (hL : L ≤ 2560) (X : Cx Z "WayTableLaw" code room_1 4) (hX : va_X b L xs (zs Z) (zs Z).heap) (hbl : b < (zs Z).heap.size) (hbA : ¬ zA Z b) {q p : Nat → Nat} {σ τ : St} {x3 : Int32} (hRel : Rel σ τ) (i1 : vp_in (x3 + 1) L) (i2 : vp_in (x3 + (nI 2)) L) (i3 : vp_in (x3 + (nI 3)) L) (i4 : vp_in (x3 + (nI 4)) L) (hK : ∀ u v : St, Rel u v → VV Z 22 53497 ((wC (zI Z) q u) ++ (wM (zI Z) p v)) [(0, .ref b), (1, .ref (q 0)), (2, .ref (p 0)), (3, .int x3)] 545 []) : VV Z 22 53497 ((wC (zI Z) q σ) ++ (wM (zI Z) p τ)) [(0, .ref b), (1, .ref (q 0)), (2, .ref (p 0)), (3, .int x3)] 403 [] := by
  refine x_aload_n (pc := 403) X d_law_403 1 rfl ?_
  refine x_aload_n (pc := 404) X d_law_404 0 rfl ?_
  refine x_iload_n (pc := 405) X d_law_405 3 rfl ?_
  refine x_iconst (pc := 406) (v := 1) X d_law_406 (by decide) ?_
  refine x_iadd (pc := 407) X d_law_407 ?_
  refine x_sld (pc := 408) X hX hbl hbA i1 d_law_408 ?_
  refine x_aload_n (pc := 409) X d_law_409 0 rfl ?_
  refine x_iload_n (pc := 410) X d_law_410 3 rfl ?_
  refine x_iconst (pc := 411) (v := (nI 2)) X d_law_411 (by decide) ?_
  refine x_iadd (pc := 412) X d_law_412 ?_
  refine x_sld (pc := 413) X hX hbl hbA i2 d_law_413 ?_
  have hw := r_apart (x1 := (xs (x3 + 1).toNatClampNeg)) (x2 := (xs (x3 + (nI 2)).toNatClampNeg)) (post := eqR) hRel (fun _ _ _ _ h => h)
  refine VV_swap ?_
  refine x_cvi_w (pc := 414) (wr := (wM (zI Z) p τ)) (wd := wC (zI Z) q) X [.int (xs (x3 + 1).toNatClampNeg), .int (xs (x3 + (nI 2)).toNatClampNeg)] (c_W_apart (zl Z) (zD Z) (zI Z) q σ (xs (x3 + 1).toNatClampNeg) (xs (x3 + (nI 2)).toNatClampNeg) _ hw) mv_W_apart tb_W 0 rfl mw_155 d_law_414 rfl (Nat.le_of_ble_eq_true rfl) ⟨Nat.le_of_ble_eq_true rfl, Nat.le_of_ble_eq_true rfl⟩ ⟨rfl, rfl⟩ ⟨Nat.le_of_ble_eq_true rfl, Nat.le_of_ble_eq_true rfl⟩ ?_
  intro r1 u1 hw
  refine VV_swap ?_
  refine x_aload_n (pc := 417) X d_law_417 2 rfl ?_
  refine x_aload_n (pc := 418) X d_law_418 0 rfl ?_
  refine x_iload_n (pc := 419) X d_law_419 3 rfl ?_
  refine x_iconst (pc := 420) (v := 1) X d_law_420 (by decide) ?_
  refine x_iadd (pc := 421) X d_law_421 ?_
  refine x_sld (pc := 422) X hX hbl hbA i1 d_law_422 ?_
  refine x_aload_n (pc := 423) X d_law_423 0 rfl ?_
  refine x_iload_n (pc := 424) X d_law_424 3 rfl ?_
  refine x_iconst (pc := 425) (v := (nI 2)) X d_law_425 (by decide) ?_
  refine x_iadd (pc := 426) X d_law_426 ?_
  refine x_sld (pc := 427) X hX hbl hbA i2 d_law_427 ?_
  refine x_cvi_w (pc := 428) (wr := (wC (zI Z) q u1)) (wd := wM (zI Z) p) X [.int (xs (x3 + 1).toNatClampNeg), .int (xs (x3 + (nI 2)).toNatClampNeg)] (c_M_apart (zl Z) (zD Z) (zI Z) p τ (xs (x3 + 1).toNatClampNeg) (xs (x3 + (nI 2)).toNatClampNeg) _ hw) mv_M_apart tb_M 0 rfl mw_156 d_law_428 rfl (Nat.le_of_ble_eq_true rfl) ⟨Nat.le_of_ble_eq_true rfl, Nat.le_of_ble_eq_true rfl⟩ ⟨rfl, rfl⟩ ⟨Nat.le_of_ble_eq_true rfl, Nat.le_of_ble_eq_true rfl⟩ ?_
  intro r2 v1 hw
  obtain ⟨he, hR⟩ := hw
  refine x_icmp_eq (pc := 431) (tgt := 545) X d_law_431 (by decide) (fun _ => ?_) (fun c => absurd he c)
  exact hK u1 v1 hR
set_option maxHeartbeats 4000000 in
set_option maxRecDepth 100000 in
theorem law_apartBy {Z : ZT} {b L : Nat} {xs : Nat → Int32} (hL : L ≤ 2560) (X : Cx Z "WayTableLaw" code room_1 4) (hX : va_X b L xs (zs Z) (zs Z).heap) (hbl : b < (zs Z).heap.size) (hbA : ¬ zA Z b) {q p : Nat → Nat} {σ τ : St} {x3 : Int32} (hRel : Rel σ τ) (i1 : vp_in (x3 + 1) L) (i2 : vp_in (x3 + (nI 2)) L) (i3 : vp_in (x3 + (nI 3)) L) (i4 : vp_in (x3 + (nI 4)) L) (hK : ∀ u v : St, Rel u v → VV Z 22 53497 ((wC (zI Z) q u) ++ (wM (zI Z) p v)) [(0, .ref b), (1, .ref (q 0)), (2, .ref (p 0)), (3, .int x3)] 545 []) : VV Z 22 53497 ((wC (zI Z) q σ) ++ (wM (zI Z) p τ)) [(0, .ref b), (1, .ref (q 0)), (2, .ref (p 0)), (3, .int x3)] 436 [] := by
  refine x_aload_n (pc := 436) X d_law_436 1 rfl ?_
  refine x_aload_n (pc := 437) X d_law_437 0 rfl ?_
  refine x_iload_n (pc := 438) X d_law_438 3 rfl ?_
  refine x_iconst (pc := 439) (v := 1) X d_law_439 (by decide) ?_
  refine x_iadd (pc := 440) X d_law_440 ?_
  refine x_sld (pc := 441) X hX hbl hbA i1 d_law_441 ?_
  refine x_aload_n (pc := 442) X d_law_442 0 rfl ?_
  refine x_iload_n (pc := 443) X d_law_443 3 rfl ?_
  refine x_iconst (pc := 444) (v := (nI 2)) X d_law_444 (by decide) ?_
  refine x_iadd (pc := 445) X d_law_445 ?_
  refine x_sld (pc := 446) X hX hbl hbA i2 d_law_446 ?_
  refine x_aload_n (pc := 447) X d_law_447 0 rfl ?_
  refine x_iload_n (pc := 448) X d_law_448 3 rfl ?_
  refine x_iconst (pc := 449) (v := (nI 3)) X d_law_449 (by decide) ?_
  refine x_iadd (pc := 450) X d_law_450 ?_
  refine x_sld (pc := 451) X hX hbl hbA i3 d_law_451 ?_
  have hw := r_apartBy (x1 := (xs (x3 + 1).toNatClampNeg)) (x2 := (xs (x3 + (nI 2)).toNatClampNeg)) (x3 := (xs (x3 + (nI 3)).toNatClampNeg)) (post := eqR) hRel (fun _ _ _ _ h => h)
  refine VV_swap ?_
  refine x_cvi_w (pc := 452) (wr := (wM (zI Z) p τ)) (wd := wC (zI Z) q) X [.int (xs (x3 + 1).toNatClampNeg), .int (xs (x3 + (nI 2)).toNatClampNeg), .int (xs (x3 + (nI 3)).toNatClampNeg)] (c_W_apartBy (zl Z) (zD Z) (zI Z) q σ (xs (x3 + 1).toNatClampNeg) (xs (x3 + (nI 2)).toNatClampNeg) (xs (x3 + (nI 3)).toNatClampNeg) _ hw) mv_W_apartBy tb_W 0 rfl mw_157 d_law_452 rfl (Nat.le_of_ble_eq_true rfl) ⟨Nat.le_of_ble_eq_true rfl, Nat.le_of_ble_eq_true rfl⟩ ⟨rfl, rfl⟩ ⟨Nat.le_of_ble_eq_true rfl, Nat.le_of_ble_eq_true rfl⟩ ?_
  intro r1 u1 hw
  refine VV_swap ?_
  refine x_aload_n (pc := 455) X d_law_455 2 rfl ?_
  refine x_aload_n (pc := 456) X d_law_456 0 rfl ?_
  refine x_iload_n (pc := 457) X d_law_457 3 rfl ?_
  refine x_iconst (pc := 458) (v := 1) X d_law_458 (by decide) ?_
  refine x_iadd (pc := 459) X d_law_459 ?_
  refine x_sld (pc := 460) X hX hbl hbA i1 d_law_460 ?_
  refine x_aload_n (pc := 461) X d_law_461 0 rfl ?_
  refine x_iload_n (pc := 462) X d_law_462 3 rfl ?_
  refine x_iconst (pc := 463) (v := (nI 2)) X d_law_463 (by decide) ?_
  refine x_iadd (pc := 464) X d_law_464 ?_
  refine x_sld (pc := 465) X hX hbl hbA i2 d_law_465 ?_
  refine x_aload_n (pc := 466) X d_law_466 0 rfl ?_
  refine x_iload_n (pc := 467) X d_law_467 3 rfl ?_
  refine x_iconst (pc := 468) (v := (nI 3)) X d_law_468 (by decide) ?_
  refine x_iadd (pc := 469) X d_law_469 ?_
  refine x_sld (pc := 470) X hX hbl hbA i3 d_law_470 ?_
  refine x_cvi_w (pc := 471) (wr := (wC (zI Z) q u1)) (wd := wM (zI Z) p) X [.int (xs (x3 + 1).toNatClampNeg), .int (xs (x3 + (nI 2)).toNatClampNeg), .int (xs (x3 + (nI 3)).toNatClampNeg)] (c_M_apartBy (zl Z) (zD Z) (zI Z) p τ (xs (x3 + 1).toNatClampNeg) (xs (x3 + (nI 2)).toNatClampNeg) (xs (x3 + (nI 3)).toNatClampNeg) _ hw) mv_M_apartBy tb_M 0 rfl mw_158 d_law_471 rfl (Nat.le_of_ble_eq_true rfl) ⟨Nat.le_of_ble_eq_true rfl, Nat.le_of_ble_eq_true rfl⟩ ⟨rfl, rfl⟩ ⟨Nat.le_of_ble_eq_true rfl, Nat.le_of_ble_eq_true rfl⟩ ?_
  intro r2 v1 hw
  obtain ⟨he, hR⟩ := hw
  refine x_icmp_eq (pc := 474) (tgt := 545) X d_law_474 (by decide) (fun _ => ?_) (fun c => absurd he c)
  exact hK u1 v1 hR
set_option maxHeartbeats 4000000 in
set_option maxRecDepth 100000 in
theorem law_is {Z : ZT} {b L : Nat} {xs : Nat → Int32} (hL : L ≤ 2560) (X : Cx Z "WayTableLaw" code room_1 4) (hX : va_X b L xs (zs Z) (zs Z).heap) (hbl : b < (zs Z).heap.size) (hbA : ¬ zA Z b) {q p : Nat → Nat} {σ τ : St} {x3 : Int32} (hRel : Rel σ τ) (i1 : vp_in (x3 + 1) L) (i2 : vp_in (x3 + (nI 2)) L) (i3 : vp_in (x3 + (nI 3)) L) (i4 : vp_in (x3 + (nI 4)) L) (hK : ∀ u v : St, Rel u v → VV Z 22 53497 ((wC (zI Z) q u) ++ (wM (zI Z) p v)) [(0, .ref b), (1, .ref (q 0)), (2, .ref (p 0)), (3, .int x3)] 545 []) : VV Z 22 53497 ((wC (zI Z) q σ) ++ (wM (zI Z) p τ)) [(0, .ref b), (1, .ref (q 0)), (2, .ref (p 0)), (3, .int x3)] 479 [] := by
  refine x_aload_n (pc := 479) X d_law_479 1 rfl ?_
  refine x_aload_n (pc := 480) X d_law_480 0 rfl ?_
  refine x_iload_n (pc := 481) X d_law_481 3 rfl ?_
  refine x_iconst (pc := 482) (v := 1) X d_law_482 (by decide) ?_
  refine x_iadd (pc := 483) X d_law_483 ?_
  refine x_sld (pc := 484) X hX hbl hbA i1 d_law_484 ?_
  refine x_aload_n (pc := 485) X d_law_485 0 rfl ?_
  refine x_iload_n (pc := 486) X d_law_486 3 rfl ?_
  refine x_iconst (pc := 487) (v := (nI 2)) X d_law_487 (by decide) ?_
  refine x_iadd (pc := 488) X d_law_488 ?_
  refine x_sld (pc := 489) X hX hbl hbA i2 d_law_489 ?_
  refine x_aload_n (pc := 490) X d_law_490 0 rfl ?_
  refine x_iload_n (pc := 491) X d_law_491 3 rfl ?_
  refine x_iconst (pc := 492) (v := (nI 3)) X d_law_492 (by decide) ?_
  refine x_iadd (pc := 493) X d_law_493 ?_
  refine x_sld (pc := 494) X hX hbl hbA i3 d_law_494 ?_
  have hw := r_is (x1 := (xs (x3 + 1).toNatClampNeg)) (x2 := (xs (x3 + (nI 2)).toNatClampNeg)) (x3 := (xs (x3 + (nI 3)).toNatClampNeg)) (post := eqR) hRel (fun _ _ _ _ h => h)
  refine VV_swap ?_
  refine x_cvi_w (pc := 495) (wr := (wM (zI Z) p τ)) (wd := wC (zI Z) q) X [.int (xs (x3 + 1).toNatClampNeg), .int (xs (x3 + (nI 2)).toNatClampNeg), .int (xs (x3 + (nI 3)).toNatClampNeg)] (c_W_is (zl Z) (zD Z) (zI Z) q σ (xs (x3 + 1).toNatClampNeg) (xs (x3 + (nI 2)).toNatClampNeg) (xs (x3 + (nI 3)).toNatClampNeg) _ hw) mv_W_is tb_W 0 rfl mw_159 d_law_495 rfl (Nat.le_of_ble_eq_true rfl) ⟨Nat.le_of_ble_eq_true rfl, Nat.le_of_ble_eq_true rfl⟩ ⟨rfl, rfl⟩ ⟨Nat.le_of_ble_eq_true rfl, Nat.le_of_ble_eq_true rfl⟩ ?_
  intro r1 u1 hw
  refine VV_swap ?_
  refine x_aload_n (pc := 498) X d_law_498 2 rfl ?_
  refine x_aload_n (pc := 499) X d_law_499 0 rfl ?_
  refine x_iload_n (pc := 500) X d_law_500 3 rfl ?_
  refine x_iconst (pc := 501) (v := 1) X d_law_501 (by decide) ?_
  refine x_iadd (pc := 502) X d_law_502 ?_
  refine x_sld (pc := 503) X hX hbl hbA i1 d_law_503 ?_
  refine x_aload_n (pc := 504) X d_law_504 0 rfl ?_
  refine x_iload_n (pc := 505) X d_law_505 3 rfl ?_
  refine x_iconst (pc := 506) (v := (nI 2)) X d_law_506 (by decide) ?_
  refine x_iadd (pc := 507) X d_law_507 ?_
  refine x_sld (pc := 508) X hX hbl hbA i2 d_law_508 ?_
  refine x_aload_n (pc := 509) X d_law_509 0 rfl ?_
  refine x_iload_n (pc := 510) X d_law_510 3 rfl ?_
  refine x_iconst (pc := 511) (v := (nI 3)) X d_law_511 (by decide) ?_
  refine x_iadd (pc := 512) X d_law_512 ?_
  refine x_sld (pc := 513) X hX hbl hbA i3 d_law_513 ?_
  refine x_cvi_w (pc := 514) (wr := (wC (zI Z) q u1)) (wd := wM (zI Z) p) X [.int (xs (x3 + 1).toNatClampNeg), .int (xs (x3 + (nI 2)).toNatClampNeg), .int (xs (x3 + (nI 3)).toNatClampNeg)] (c_M_is (zl Z) (zD Z) (zI Z) p τ (xs (x3 + 1).toNatClampNeg) (xs (x3 + (nI 2)).toNatClampNeg) (xs (x3 + (nI 3)).toNatClampNeg) _ hw) mv_M_is tb_M 0 rfl mw_160 d_law_514 rfl (Nat.le_of_ble_eq_true rfl) ⟨Nat.le_of_ble_eq_true rfl, Nat.le_of_ble_eq_true rfl⟩ ⟨rfl, rfl⟩ ⟨Nat.le_of_ble_eq_true rfl, Nat.le_of_ble_eq_true rfl⟩ ?_
  intro r2 v1 hw
  obtain ⟨he, hR⟩ := hw
  refine x_icmp_eq (pc := 517) (tgt := 545) X d_law_517 (by decide) (fun _ => ?_) (fun c => absurd he c)
  exact hK u1 v1 hR
set_option maxHeartbeats 4000000 in
set_option maxRecDepth 100000 in
theorem law_look {Z : ZT} {b L : Nat} {xs : Nat → Int32} (hL : L ≤ 2560) (X : Cx Z "WayTableLaw" code room_1 4) (hX : va_X b L xs (zs Z) (zs Z).heap) (hbl : b < (zs Z).heap.size) (hbA : ¬ zA Z b) {q p : Nat → Nat} {σ τ : St} {x3 : Int32} (hRel : Rel σ τ) (i1 : vp_in (x3 + 1) L) (i2 : vp_in (x3 + (nI 2)) L) (i3 : vp_in (x3 + (nI 3)) L) (i4 : vp_in (x3 + (nI 4)) L) (hK : ∀ u v : St, Rel u v → VV Z 22 53497 ((wC (zI Z) q u) ++ (wM (zI Z) p v)) [(0, .ref b), (1, .ref (q 0)), (2, .ref (p 0)), (3, .int x3)] 545 []) : VV Z 22 53497 ((wC (zI Z) q σ) ++ (wM (zI Z) p τ)) [(0, .ref b), (1, .ref (q 0)), (2, .ref (p 0)), (3, .int x3)] 522 [] := by
  refine x_aload_n (pc := 522) X d_law_522 1 rfl ?_
  refine x_aload_n (pc := 523) X d_law_523 0 rfl ?_
  refine x_iload_n (pc := 524) X d_law_524 3 rfl ?_
  refine x_iconst (pc := 525) (v := 1) X d_law_525 (by decide) ?_
  refine x_iadd (pc := 526) X d_law_526 ?_
  refine x_sld (pc := 527) X hX hbl hbA i1 d_law_527 ?_
  have hw := r_look (x := (xs (x3 + 1).toNatClampNeg)) (post := eqR) hRel (fun _ _ _ _ h => h)
  refine VV_swap ?_
  refine x_cvi_w (pc := 528) (wr := (wM (zI Z) p τ)) (wd := wC (zI Z) q) X [.int (xs (x3 + 1).toNatClampNeg)] (c_W_look (zl Z) (zD Z) (zI Z) q σ (xs (x3 + 1).toNatClampNeg) _ hw) mv_W_look tb_W 0 rfl mw_161 d_law_528 rfl (Nat.le_of_ble_eq_true rfl) ⟨Nat.le_of_ble_eq_true rfl, Nat.le_of_ble_eq_true rfl⟩ ⟨rfl, rfl⟩ ⟨Nat.le_of_ble_eq_true rfl, Nat.le_of_ble_eq_true rfl⟩ ?_
  intro r1 u1 hw
  refine VV_swap ?_
  refine x_aload_n (pc := 531) X d_law_531 2 rfl ?_
  refine x_aload_n (pc := 532) X d_law_532 0 rfl ?_
  refine x_iload_n (pc := 533) X d_law_533 3 rfl ?_
  refine x_iconst (pc := 534) (v := 1) X d_law_534 (by decide) ?_
  refine x_iadd (pc := 535) X d_law_535 ?_
  refine x_sld (pc := 536) X hX hbl hbA i1 d_law_536 ?_
  refine x_cvi_w (pc := 537) (wr := (wC (zI Z) q u1)) (wd := wM (zI Z) p) X [.int (xs (x3 + 1).toNatClampNeg)] (c_M_look (zl Z) (zD Z) (zI Z) p τ (xs (x3 + 1).toNatClampNeg) _ hw) mv_M_look tb_M 0 rfl mw_162 d_law_537 rfl (Nat.le_of_ble_eq_true rfl) ⟨Nat.le_of_ble_eq_true rfl, Nat.le_of_ble_eq_true rfl⟩ ⟨rfl, rfl⟩ ⟨Nat.le_of_ble_eq_true rfl, Nat.le_of_ble_eq_true rfl⟩ ?_
  intro r2 v1 hw
  obtain ⟨he, hR⟩ := hw
  refine x_icmp_eq (pc := 540) (tgt := 545) X d_law_540 (by decide) (fun _ => ?_) (fun c => absurd he c)
  exact hK u1 v1 hR
