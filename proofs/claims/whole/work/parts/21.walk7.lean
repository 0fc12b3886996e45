def rm_M_make : Room := { frames := 2, cells := 0, slots := 0, locals := 49 }
set_option maxHeartbeats 4000000 in
set_option maxRecDepth 100000 in
theorem wL_M_make_288 {Z : ZT} {q : Nat → Nat} {post : Int32 → St → Prop} (X : Cx Z "WayTableModel" b_M_make rm_M_make 7) (hR : RI Z b_M_make .int (wM (zI Z) q) post) : ∀ (n : Nat) (x1 x2 x3 : Int32) (σ : St), L_M_make_288 post n x1 x2 x3 σ → VV Z 0 0 (wM (zI Z) q σ) [(0, .ref (q 0)), (1, .int x1), (2, .int x2), (3, .int x3)] 288 [] := by
  intro n
  induction n with
  | zero => intro x1 x2 x3 σ hw; exact False.elim hw
  | succ n ih =>
    intro x1 x2 x3 σ hw
    unfold L_M_make_288 at hw
    refine x_iload_n (pc := 288) X d_M_make_288 3 rfl ?_
    refine x_iload_n (pc := 289) X d_M_make_289 1 rfl ?_
    refine x_icmp_ge (pc := 290) (tgt := 315) X d_M_make_290 (by decide) (fun c => ?_) (fun c => ?_)
    · have hw := hw.1 c
      refine x_aload_n (pc := 315) X d_M_make_315 0 rfl ?_
      refine x_iconst (pc := 316) (v := 0) X d_M_make_316 (by decide) ?_
      refine x_put (pc := 317) (ws' := (wM (zI Z) q (us σ 7 0))) X tb_M 0 14 (by decide) mw_86 (atM_0 _ _ _) rfl pI (Nat.le_of_ble_eq_true rfl) (ptM_7 _ _ _ _) d_M_make_317 ?_
      refine x_aload_n (pc := 320) X d_M_make_320 0 rfl ?_
      refine x_get (pc := 321) X tb_M 0 13 (by decide) mw_85 (atM_0 _ _ _) rfl d_M_make_321 ?_
      exact hR _ _ _ _ d_M_make_324 (vp_nar_int _) hw
    · have hw := hw.2 c
      refine x_aload_n (pc := 293) X d_M_make_293 0 rfl ?_
      refine x_get (pc := 294) X tb_M 0 11 (by decide) mw_83 (atM_0 _ _ _) rfl d_M_make_294 ?_
      refine x_iload_n (pc := 297) X d_M_make_297 3 rfl ?_
      refine x_aload_n (pc := 298) X d_M_make_298 0 rfl ?_
      refine x_get (pc := 299) X tb_M 0 11 (by decide) mw_83 (atM_0 _ _ _) rfl d_M_make_299 ?_
      refine x_aload_n (pc := 302) X d_M_make_302 0 rfl ?_
      refine x_iload_n (pc := 303) X d_M_make_303 3 rfl ?_
      refine x_cvi (pc := 304) X [.int x3] (c_M_leastLike (zl Z) (zD Z) (zI Z) q σ x3 _ hw) mv_M_leastLike tb_M 0 (atM_0 _ _ _) mw_87 d_M_make_304 rfl (Nat.le_of_ble_eq_true rfl) ⟨Nat.le_of_ble_eq_true rfl, Nat.le_of_ble_eq_true rfl⟩ ⟨rfl, rfl⟩ ⟨Nat.zero_le _, Nat.zero_le _⟩ ?_
      intro r5 σ5 hw
      obtain ⟨h6, hw⟩ := hw
      refine x_iald (pc := 307) X 6 (atM_6 _ _ _) h6 d_M_make_307 ?_
      obtain ⟨h7, hw⟩ := hw
      refine x_iast (pc := 308) (ws' := (wM (zI Z) q (ua σ5 5 x3.toNatClampNeg (σ5.2 5 r5.toNatClampNeg)))) X 6 (atM_6 _ _ _) h7 (stM_6 _ _ _ _) d_M_make_308 ?_
      refine x_iinc (pc := 309) (d := 1) (lv' := [(0, .ref (q 0)), (1, .int x1), (2, .int x2), (3, .int (x3 + 1))]) X d_M_make_309 3 rfl (by decide) (by decide) [1, 2, 3, 0] rfl ?_
      refine x_goto (pc := 312) (tgt := 288) X d_M_make_312 (by decide) ?_
      exact ih x1 x2 (x3 + 1) (ua σ5 5 x3.toNatClampNeg (σ5.2 5 r5.toNatClampNeg)) hw
set_option maxHeartbeats 4000000 in
set_option maxRecDepth 100000 in
theorem wL_M_make_182 {Z : ZT} {q : Nat → Nat} {post : Int32 → St → Prop} {K : Int32 → Int32 → Int32 → St → Prop} (X : Cx Z "WayTableModel" b_M_make rm_M_make 7) (hR : RI Z b_M_make .int (wM (zI Z) q) post) (hK : ∀ (x1 x2 x3 : Int32) (σ : St), K x1 x2 x3 σ → VV Z 0 0 (wM (zI Z) q σ) [(0, .ref (q 0)), (1, .int x1), (2, .int x2), (3, .int x3)] 171 []) : ∀ (n : Nat) (x1 x2 x3 x4 : Int32) (σ : St), L_M_make_182 post K n x1 x2 x3 x4 σ → VV Z 0 0 (wM (zI Z) q σ) [(0, .ref (q 0)), (1, .int x1), (2, .int x2), (3, .int x3), (4, .int x4)] 182 [] := by
  intro n
  induction n with
  | zero => intro x1 x2 x3 x4 σ hw; exact False.elim hw
  | succ n ih =>
    intro x1 x2 x3 x4 σ hw
    unfold L_M_make_182 at hw
    refine x_iload (pc := 182) X d_M_make_182 4 rfl ?_
    refine x_aload_n (pc := 184) X d_M_make_184 0 rfl ?_
    refine x_get (pc := 185) X tb_M 0 2 (by decide) mw_9 (atM_0 _ _ _) rfl d_M_make_185 ?_
    refine x_icmp_ge (pc := 188) (tgt := 280) X d_M_make_188 (by decide) (fun c => ?_) (fun c => ?_)
    · have hw := hw.1 c
      refine x_iinc (pc := 280) (d := 1) (lv' := [(0, .ref (q 0)), (1, .int x1), (2, .int x2), (3, .int (x3 + 1)), (4, .int x4)]) X d_M_make_280 3 rfl (by decide) (by decide) [1, 2, 3, 0, 4] rfl ?_
      refine x_goto (pc := 283) (tgt := 171) X d_M_make_283 (by decide) ?_
      refine x_drop [0, 1, 2, 3] rfl ?_
      exact hK x1 x2 (x3 + 1) σ hw
    · have hw := hw.2 c
      refine x_aload_n (pc := 191) X d_M_make_191 0 rfl ?_
      refine x_get (pc := 192) X tb_M 0 8 (by decide) mw_81 (atM_0 _ _ _) rfl d_M_make_192 ?_
      refine x_bipush (pc := 195) (v := (nI 40)) X d_M_make_195 (by decide) ?_
      refine x_aload_n (pc := 197) X d_M_make_197 0 rfl ?_
      refine x_get (pc := 198) X tb_M 0 12 (by decide) mw_84 (atM_0 _ _ _) rfl d_M_make_198 ?_
      refine x_iload_n (pc := 201) X d_M_make_201 3 rfl ?_
      obtain ⟨h8, hw⟩ := hw
      refine x_iald (pc := 202) X 7 (atM_7 _ _ _) h8 d_M_make_202 ?_
      refine x_imul (pc := 203) X d_M_make_203 ?_
      refine x_iload (pc := 204) X d_M_make_204 4 rfl ?_
      refine x_iadd (pc := 206) X d_M_make_206 ?_
      obtain ⟨h9, hw⟩ := hw
      refine x_iald (pc := 207) X 3 (atM_3 _ _ _) h9 d_M_make_207 ?_
      refine x_istore (pc := 208) (lv' := [(0, .ref (q 0)), (1, .int x1), (2, .int x2), (3, .int x3), (4, .int x4), (5, .int (σ.2 2 (((nI 40) * (σ.2 6 x3.toNatClampNeg)) + x4).toNatClampNeg))]) X d_M_make_208 (by decide) [1, 2, 3, 4, 5, 0] rfl ?_
      refine x_iload (pc := 210) X d_M_make_210 5 rfl ?_
      refine x_if_ge (pc := 212) (tgt := 219) X d_M_make_212 (by decide) (fun c => ?_) (fun c => ?_)
      · have hw := hw.1 c
        refine x_aload_n (pc := 219) X d_M_make_219 0 rfl ?_
        refine x_iload (pc := 220) X d_M_make_220 5 rfl ?_
        refine x_cvi (pc := 222) X [.int (σ.2 2 (((nI 40) * (σ.2 6 x3.toNatClampNeg)) + x4).toNatClampNeg)] (c_M_leastLike (zl Z) (zD Z) (zI Z) q σ (σ.2 2 (((nI 40) * (σ.2 6 x3.toNatClampNeg)) + x4).toNatClampNeg) _ hw) mv_M_leastLike tb_M 0 (atM_0 _ _ _) mw_87 d_M_make_222 rfl (Nat.le_of_ble_eq_true rfl) ⟨Nat.le_of_ble_eq_true rfl, Nat.le_of_ble_eq_true rfl⟩ ⟨rfl, rfl⟩ ⟨Nat.zero_le _, Nat.zero_le _⟩ ?_
        intro r10 σ10 hw
        refine x_istore (pc := 225) (lv' := [(0, .ref (q 0)), (1, .int x1), (2, .int x2), (3, .int x3), (4, .int x4), (5, .int (σ.2 2 (((nI 40) * (σ.2 6 x3.toNatClampNeg)) + x4).toNatClampNeg)), (6, .int r10)]) X d_M_make_225 (by decide) [1, 2, 3, 4, 5, 6, 0] rfl ?_
        refine x_iload (pc := 227) X d_M_make_227 5 rfl ?_
        refine x_if_lt (pc := 229) (tgt := 274) X d_M_make_229 (by decide) (fun c => ?_) (fun c => ?_)
        · have hw := hw.1 c
          refine x_iinc (pc := 274) (d := 1) (lv' := [(0, .ref (q 0)), (1, .int x1), (2, .int x2), (3, .int x3), (4, .int (x4 + 1)), (5, .int (σ.2 2 (((nI 40) * (σ.2 6 x3.toNatClampNeg)) + x4).toNatClampNeg)), (6, .int r10)]) X d_M_make_274 4 rfl (by decide) (by decide) [1, 2, 3, 4, 0, 5, 6] rfl ?_
          refine x_goto (pc := 277) (tgt := 182) X d_M_make_277 (by decide) ?_
          refine x_drop [0, 1, 2, 3, 4] rfl ?_
          exact ih x1 x2 x3 (x4 + 1) σ10 hw
        · have hw := hw.2 c
          refine x_aload_n (pc := 232) X d_M_make_232 0 rfl ?_
          refine x_get (pc := 233) X tb_M 0 11 (by decide) mw_83 (atM_0 _ _ _) rfl d_M_make_233 ?_
          refine x_iload (pc := 236) X d_M_make_236 6 rfl ?_
          obtain ⟨h11, hw⟩ := hw
          refine x_iald (pc := 238) X 6 (atM_6 _ _ _) h11 d_M_make_238 ?_
          refine x_if_ge (pc := 239) (tgt := 274) X d_M_make_239 (by decide) (fun c => ?_) (fun c => ?_)
          · have hw := hw.1 c
            refine x_iinc (pc := 274) (d := 1) (lv' := [(0, .ref (q 0)), (1, .int x1), (2, .int x2), (3, .int x3), (4, .int (x4 + 1)), (5, .int (σ.2 2 (((nI 40) * (σ.2 6 x3.toNatClampNeg)) + x4).toNatClampNeg)), (6, .int r10)]) X d_M_make_274 4 rfl (by decide) (by decide) [1, 2, 3, 4, 0, 5, 6] rfl ?_
            refine x_goto (pc := 277) (tgt := 182) X d_M_make_277 (by decide) ?_
            refine x_drop [0, 1, 2, 3, 4] rfl ?_
            exact ih x1 x2 x3 (x4 + 1) σ10 hw
          · have hw := hw.2 c
            refine x_aload_n (pc := 242) X d_M_make_242 0 rfl ?_
            refine x_get (pc := 243) X tb_M 0 11 (by decide) mw_83 (atM_0 _ _ _) rfl d_M_make_243 ?_
            refine x_iload (pc := 246) X d_M_make_246 6 rfl ?_
            refine x_aload_n (pc := 248) X d_M_make_248 0 rfl ?_
            refine x_get (pc := 249) X tb_M 0 13 (by decide) mw_85 (atM_0 _ _ _) rfl d_M_make_249 ?_
            obtain ⟨h12, hw⟩ := hw
            refine x_iast (pc := 252) (ws' := (wM (zI Z) q (ua σ10 5 r10.toNatClampNeg (σ10.1 6)))) X 6 (atM_6 _ _ _) h12 (stM_6 _ _ _ _) d_M_make_252 ?_
            refine x_aload_n (pc := 253) X d_M_make_253 0 rfl ?_
            refine x_get (pc := 254) X tb_M 0 12 (by decide) mw_84 (atM_0 _ _ _) rfl d_M_make_254 ?_
            refine x_aload_n (pc := 257) X d_M_make_257 0 rfl ?_
            refine x_get (pc := 258) X tb_M 0 13 (by decide) mw_85 (atM_0 _ _ _) rfl d_M_make_258 ?_
            refine x_iload (pc := 261) X d_M_make_261 6 rfl ?_
            obtain ⟨h13, hw⟩ := hw
            refine x_iast (pc := 263) (ws' := (wM (zI Z) q (ua (ua σ10 5 r10.toNatClampNeg (σ10.1 6)) 6 ((ua σ10 5 r10.toNatClampNeg (σ10.1 6)).1 6).toNatClampNeg r10))) X 7 (atM_7 _ _ _) h13 (stM_7 _ _ _ _) d_M_make_263 ?_
            refine x_aload_n (pc := 264) X d_M_make_264 0 rfl ?_
            refine x_dup (pc := 265) X d_M_make_265 rfl ?_
            refine x_get (pc := 266) X tb_M 0 13 (by decide) mw_85 (atM_0 _ _ _) rfl d_M_make_266 ?_
            refine x_iconst (pc := 269) (v := 1) X d_M_make_269 (by decide) ?_
            refine x_iadd (pc := 270) X d_M_make_270 ?_
            refine x_put (pc := 271) (ws' := (wM (zI Z) q (us (ua (ua σ10 5 r10.toNatClampNeg (σ10.1 6)) 6 ((ua σ10 5 r10.toNatClampNeg (σ10.1 6)).1 6).toNatClampNeg r10) 6 (((ua (ua σ10 5 r10.toNatClampNeg (σ10.1 6)) 6 ((ua σ10 5 r10.toNatClampNeg (σ10.1 6)).1 6).toNatClampNeg r10).1 6) + 1)))) X tb_M 0 13 (by decide) mw_85 (atM_0 _ _ _) rfl pI (Nat.le_of_ble_eq_true rfl) (ptM_6 _ _ _ _) d_M_make_271 ?_
            refine x_iinc (pc := 274) (d := 1) (lv' := [(0, .ref (q 0)), (1, .int x1), (2, .int x2), (3, .int x3), (4, .int (x4 + 1)), (5, .int (σ.2 2 (((nI 40) * (σ.2 6 x3.toNatClampNeg)) + x4).toNatClampNeg)), (6, .int r10)]) X d_M_make_274 4 rfl (by decide) (by decide) [1, 2, 3, 4, 0, 5, 6] rfl ?_
            refine x_goto (pc := 277) (tgt := 182) X d_M_make_277 (by decide) ?_
            refine x_drop [0, 1, 2, 3, 4] rfl ?_
            exact ih x1 x2 x3 (x4 + 1) (us (ua (ua σ10 5 r10.toNatClampNeg (σ10.1 6)) 6 ((ua σ10 5 r10.toNatClampNeg (σ10.1 6)).1 6).toNatClampNeg r10) 6 (((ua (ua σ10 5 r10.toNatClampNeg (σ10.1 6)) 6 ((ua σ10 5 r10.toNatClampNeg (σ10.1 6)).1 6).toNatClampNeg r10).1 6) + 1)) hw
      · have hw := hw.2 c
        refine x_iconst (pc := 215) (v := 0) X d_M_make_215 (by decide) ?_
        refine x_goto (pc := 216) (tgt := 225) X d_M_make_216 (by decide) ?_
        refine x_istore (pc := 225) (lv' := [(0, .ref (q 0)), (1, .int x1), (2, .int x2), (3, .int x3), (4, .int x4), (5, .int (σ.2 2 (((nI 40) * (σ.2 6 x3.toNatClampNeg)) + x4).toNatClampNeg)), (6, .int 0)]) X d_M_make_225 (by decide) [1, 2, 3, 4, 5, 6, 0] rfl ?_
        refine x_iload (pc := 227) X d_M_make_227 5 rfl ?_
        refine x_if_lt (pc := 229) (tgt := 274) X d_M_make_229 (by decide) (fun c => ?_) (fun c => ?_)
        · have hw := hw.1 c
          refine x_iinc (pc := 274) (d := 1) (lv' := [(0, .ref (q 0)), (1, .int x1), (2, .int x2), (3, .int x3), (4, .int (x4 + 1)), (5, .int (σ.2 2 (((nI 40) * (σ.2 6 x3.toNatClampNeg)) + x4).toNatClampNeg)), (6, .int 0)]) X d_M_make_274 4 rfl (by decide) (by decide) [1, 2, 3, 4, 0, 5, 6] rfl ?_
          refine x_goto (pc := 277) (tgt := 182) X d_M_make_277 (by decide) ?_
          refine x_drop [0, 1, 2, 3, 4] rfl ?_
          exact ih x1 x2 x3 (x4 + 1) σ hw
        · have hw := hw.2 c
          refine x_aload_n (pc := 232) X d_M_make_232 0 rfl ?_
          refine x_get (pc := 233) X tb_M 0 11 (by decide) mw_83 (atM_0 _ _ _) rfl d_M_make_233 ?_
          refine x_iload (pc := 236) X d_M_make_236 6 rfl ?_
          obtain ⟨h14, hw⟩ := hw
          refine x_iald (pc := 238) X 6 (atM_6 _ _ _) h14 d_M_make_238 ?_
          refine x_if_ge (pc := 239) (tgt := 274) X d_M_make_239 (by decide) (fun c => ?_) (fun c => ?_)
          · have hw := hw.1 c
            refine x_iinc (pc := 274) (d := 1) (lv' := [(0, .ref (q 0)), (1, .int x1), (2, .int x2), (3, .int x3), (4, .int (x4 + 1)), (5, .int (σ.2 2 (((nI 40) * (σ.2 6 x3.toNatClampNeg)) + x4).toNatClampNeg)), (6, .int 0)]) X d_M_make_274 4 rfl (by decide) (by decide) [1, 2, 3, 4, 0, 5, 6] rfl ?_
            refine x_goto (pc := 277) (tgt := 182) X d_M_make_277 (by decide) ?_
            refine x_drop [0, 1, 2, 3, 4] rfl ?_
            exact ih x1 x2 x3 (x4 + 1) σ hw
          · have hw := hw.2 c
            refine x_aload_n (pc := 242) X d_M_make_242 0 rfl ?_
            refine x_get (pc := 243) X tb_M 0 11 (by decide) mw_83 (atM_0 _ _ _) rfl d_M_make_243 ?_
            refine x_iload (pc := 246) X d_M_make_246 6 rfl ?_
            refine x_aload_n (pc := 248) X d_M_make_248 0 rfl ?_
            refine x_get (pc := 249) X tb_M 0 13 (by decide) mw_85 (atM_0 _ _ _) rfl d_M_make_249 ?_
            obtain ⟨h15, hw⟩ := hw
            refine x_iast (pc := 252) (ws' := (wM (zI Z) q (ua σ 5 ((0 : Int32).toNatClampNeg) (σ.1 6)))) X 6 (atM_6 _ _ _) h15 (stM_6 _ _ _ _) d_M_make_252 ?_
            refine x_aload_n (pc := 253) X d_M_make_253 0 rfl ?_
            refine x_get (pc := 254) X tb_M 0 12 (by decide) mw_84 (atM_0 _ _ _) rfl d_M_make_254 ?_
            refine x_aload_n (pc := 257) X d_M_make_257 0 rfl ?_
            refine x_get (pc := 258) X tb_M 0 13 (by decide) mw_85 (atM_0 _ _ _) rfl d_M_make_258 ?_
            refine x_iload (pc := 261) X d_M_make_261 6 rfl ?_
            obtain ⟨h16, hw⟩ := hw
            refine x_iast (pc := 263) (ws' := (wM (zI Z) q (ua (ua σ 5 ((0 : Int32).toNatClampNeg) (σ.1 6)) 6 ((ua σ 5 ((0 : Int32).toNatClampNeg) (σ.1 6)).1 6).toNatClampNeg 0))) X 7 (atM_7 _ _ _) h16 (stM_7 _ _ _ _) d_M_make_263 ?_
            refine x_aload_n (pc := 264) X d_M_make_264 0 rfl ?_
            refine x_dup (pc := 265) X d_M_make_265 rfl ?_
            refine x_get (pc := 266) X tb_M 0 13 (by decide) mw_85 (atM_0 _ _ _) rfl d_M_make_266 ?_
            refine x_iconst (pc := 269) (v := 1) X d_M_make_269 (by decide) ?_
            refine x_iadd (pc := 270) X d_M_make_270 ?_
            refine x_put (pc := 271) (ws' := (wM (zI Z) q (us (ua (ua σ 5 ((0 : Int32).toNatClampNeg) (σ.1 6)) 6 ((ua σ 5 ((0 : Int32).toNatClampNeg) (σ.1 6)).1 6).toNatClampNeg 0) 6 (((ua (ua σ 5 ((0 : Int32).toNatClampNeg) (σ.1 6)) 6 ((ua σ 5 ((0 : Int32).toNatClampNeg) (σ.1 6)).1 6).toNatClampNeg 0).1 6) + 1)))) X tb_M 0 13 (by decide) mw_85 (atM_0 _ _ _) rfl pI (Nat.le_of_ble_eq_true rfl) (ptM_6 _ _ _ _) d_M_make_271 ?_
            refine x_iinc (pc := 274) (d := 1) (lv' := [(0, .ref (q 0)), (1, .int x1), (2, .int x2), (3, .int x3), (4, .int (x4 + 1)), (5, .int (σ.2 2 (((nI 40) * (σ.2 6 x3.toNatClampNeg)) + x4).toNatClampNeg)), (6, .int 0)]) X d_M_make_274 4 rfl (by decide) (by decide) [1, 2, 3, 4, 0, 5, 6] rfl ?_
            refine x_goto (pc := 277) (tgt := 182) X d_M_make_277 (by decide) ?_
            refine x_drop [0, 1, 2, 3, 4] rfl ?_
            exact ih x1 x2 x3 (x4 + 1) (us (ua (ua σ 5 ((0 : Int32).toNatClampNeg) (σ.1 6)) 6 ((ua σ 5 ((0 : Int32).toNatClampNeg) (σ.1 6)).1 6).toNatClampNeg 0) 6 (((ua (ua σ 5 ((0 : Int32).toNatClampNeg) (σ.1 6)) 6 ((ua σ 5 ((0 : Int32).toNatClampNeg) (σ.1 6)).1 6).toNatClampNeg 0).1 6) + 1)) hw
set_option maxHeartbeats 4000000 in
set_option maxRecDepth 100000 in
theorem wL_M_make_171 {Z : ZT} {q : Nat → Nat} {post : Int32 → St → Prop} (X : Cx Z "WayTableModel" b_M_make rm_M_make 7) (hR : RI Z b_M_make .int (wM (zI Z) q) post) : ∀ (n : Nat) (x1 x2 x3 : Int32) (σ : St), L_M_make_171 post n x1 x2 x3 σ → VV Z 0 0 (wM (zI Z) q σ) [(0, .ref (q 0)), (1, .int x1), (2, .int x2), (3, .int x3)] 171 [] := by
  intro n
  induction n with
  | zero => intro x1 x2 x3 σ hw; exact False.elim hw
  | succ n ih =>
    intro x1 x2 x3 σ hw
    unfold L_M_make_171 at hw
    refine x_iload_n (pc := 171) X d_M_make_171 3 rfl ?_
    refine x_aload_n (pc := 172) X d_M_make_172 0 rfl ?_
    refine x_get (pc := 173) X tb_M 0 13 (by decide) mw_85 (atM_0 _ _ _) rfl d_M_make_173 ?_
    refine x_icmp_ge (pc := 176) (tgt := 286) X d_M_make_176 (by decide) (fun c => ?_) (fun c => ?_)
    · have hw := hw.1 c
      refine x_iconst (pc := 286) (v := 0) X d_M_make_286 (by decide) ?_
      refine x_istore_n (pc := 287) (lv' := [(0, .ref (q 0)), (1, .int x1), (2, .int x2), (3, .int 0)]) X d_M_make_287 (by decide) [1, 2, 3, 0] rfl ?_
      obtain ⟨n2, hw⟩ := hw
      exact wL_M_make_288 X hR n2 x1 x2 0 σ hw
    · have hw := hw.2 c
      refine x_iconst (pc := 179) (v := 0) X d_M_make_179 (by decide) ?_
      refine x_istore (pc := 180) (lv' := [(0, .ref (q 0)), (1, .int x1), (2, .int x2), (3, .int x3), (4, .int 0)]) X d_M_make_180 (by decide) [1, 2, 3, 4, 0] rfl ?_
      obtain ⟨n2, hw⟩ := hw
      exact wL_M_make_182 X hR ih n2 x1 x2 x3 0 σ hw
set_option maxHeartbeats 4000000 in
set_option maxRecDepth 100000 in
theorem wL_M_make_132 {Z : ZT} {q : Nat → Nat} {post : Int32 → St → Prop} (X : Cx Z "WayTableModel" b_M_make rm_M_make 7) (hR : RI Z b_M_make .int (wM (zI Z) q) post) : ∀ (n : Nat) (x1 x2 x3 : Int32) (σ : St), L_M_make_132 post n x1 x2 x3 σ → VV Z 0 0 (wM (zI Z) q σ) [(0, .ref (q 0)), (1, .int x1), (2, .int x2), (3, .int x3)] 132 [] := by
  intro n
  induction n with
  | zero => intro x1 x2 x3 σ hw; exact False.elim hw
  | succ n ih =>
    intro x1 x2 x3 σ hw
    unfold L_M_make_132 at hw
    refine x_iload_n (pc := 132) X d_M_make_132 3 rfl ?_
    refine x_iload_n (pc := 133) X d_M_make_133 1 rfl ?_
    refine x_icmp_ge (pc := 134) (tgt := 150) X d_M_make_134 (by decide) (fun c => ?_) (fun c => ?_)
    · have hw := hw.1 c
      refine x_aload_n (pc := 150) X d_M_make_150 0 rfl ?_
      refine x_get (pc := 151) X tb_M 0 11 (by decide) mw_83 (atM_0 _ _ _) rfl d_M_make_151 ?_
      refine x_iconst (pc := 154) (v := 0) X d_M_make_154 (by decide) ?_
      refine x_iconst (pc := 155) (v := 0) X d_M_make_155 (by decide) ?_
      obtain ⟨h3, hw⟩ := hw
      refine x_iast (pc := 156) (ws' := (wM (zI Z) q (ua σ 5 ((0 : Int32).toNatClampNeg) 0))) X 6 (atM_6 _ _ _) h3 (stM_6 _ _ _ _) d_M_make_156 ?_
      refine x_aload_n (pc := 157) X d_M_make_157 0 rfl ?_
      refine x_get (pc := 158) X tb_M 0 12 (by decide) mw_84 (atM_0 _ _ _) rfl d_M_make_158 ?_
      refine x_iconst (pc := 161) (v := 0) X d_M_make_161 (by decide) ?_
      refine x_iconst (pc := 162) (v := 0) X d_M_make_162 (by decide) ?_
      obtain ⟨h4, hw⟩ := hw
      refine x_iast (pc := 163) (ws' := (wM (zI Z) q (ua (ua σ 5 ((0 : Int32).toNatClampNeg) 0) 6 ((0 : Int32).toNatClampNeg) 0))) X 7 (atM_7 _ _ _) h4 (stM_7 _ _ _ _) d_M_make_163 ?_
      refine x_aload_n (pc := 164) X d_M_make_164 0 rfl ?_
      refine x_iconst (pc := 165) (v := 1) X d_M_make_165 (by decide) ?_
      refine x_put (pc := 166) (ws' := (wM (zI Z) q (us (ua (ua σ 5 ((0 : Int32).toNatClampNeg) 0) 6 ((0 : Int32).toNatClampNeg) 0) 6 1))) X tb_M 0 13 (by decide) mw_85 (atM_0 _ _ _) rfl pI (Nat.le_of_ble_eq_true rfl) (ptM_6 _ _ _ _) d_M_make_166 ?_
      refine x_iconst (pc := 169) (v := 0) X d_M_make_169 (by decide) ?_
      refine x_istore_n (pc := 170) (lv' := [(0, .ref (q 0)), (1, .int x1), (2, .int x2), (3, .int 0)]) X d_M_make_170 (by decide) [1, 2, 3, 0] rfl ?_
      obtain ⟨n2, hw⟩ := hw
      exact wL_M_make_171 X hR n2 x1 x2 0 (us (ua (ua σ 5 ((0 : Int32).toNatClampNeg) 0) 6 ((0 : Int32).toNatClampNeg) 0) 6 1) hw
    · have hw := hw.2 c
      refine x_aload_n (pc := 137) X d_M_make_137 0 rfl ?_
      refine x_get (pc := 138) X tb_M 0 11 (by decide) mw_83 (atM_0 _ _ _) rfl d_M_make_138 ?_
      refine x_iload_n (pc := 141) X d_M_make_141 3 rfl ?_
      refine x_iconst (pc := 142) (v := (-1)) X d_M_make_142 (by decide) ?_
      obtain ⟨h17, hw⟩ := hw
      refine x_iast (pc := 143) (ws' := (wM (zI Z) q (ua σ 5 x3.toNatClampNeg (-1)))) X 6 (atM_6 _ _ _) h17 (stM_6 _ _ _ _) d_M_make_143 ?_
      refine x_iinc (pc := 144) (d := 1) (lv' := [(0, .ref (q 0)), (1, .int x1), (2, .int x2), (3, .int (x3 + 1))]) X d_M_make_144 3 rfl (by decide) (by decide) [1, 2, 3, 0] rfl ?_
      refine x_goto (pc := 147) (tgt := 132) X d_M_make_147 (by decide) ?_
      exact ih x1 x2 (x3 + 1) (ua σ 5 x3.toNatClampNeg (-1)) hw
set_option maxHeartbeats 4000000 in
set_option maxRecDepth 100000 in
theorem wL_M_make_116 {Z : ZT} {q : Nat → Nat} {post : Int32 → St → Prop} (X : Cx Z "WayTableModel" b_M_make rm_M_make 7) (hR : RI Z b_M_make .int (wM (zI Z) q) post) : ∀ (n : Nat) (x1 x2 : Int32) (σ : St), L_M_make_116 post n x1 x2 σ → VV Z 0 0 (wM (zI Z) q σ) [(0, .ref (q 0)), (1, .int x1), (2, .int x2)] 116 [] := by
  intro n
  induction n with
  | zero => intro x1 x2 σ hw; exact False.elim hw
  | succ n ih =>
    intro x1 x2 σ hw
    unfold L_M_make_116 at hw
    refine x_aload_n (pc := 116) X d_M_make_116 0 rfl ?_
    refine x_iload_n (pc := 117) X d_M_make_117 2 rfl ?_
    refine x_cvi (pc := 118) X [.int x2] (c_M_tell (zl Z) (zD Z) (zI Z) q σ x2 _ hw) mv_M_tell tb_M 0 (atM_0 _ _ _) mw_82 d_M_make_118 rfl (Nat.le_of_ble_eq_true rfl) ⟨Nat.le_of_ble_eq_true rfl, Nat.le_of_ble_eq_true rfl⟩ ⟨rfl, rfl⟩ ⟨Nat.zero_le _, Nat.zero_le _⟩ ?_
    intro r2 σ2 hw
    refine x_if_eq (pc := 121) (tgt := 130) X d_M_make_121 (by decide) (fun c => ?_) (fun c => ?_)
    · have hw := hw.1 c
      refine x_iconst (pc := 130) (v := 0) X d_M_make_130 (by decide) ?_
      refine x_istore_n (pc := 131) (lv' := [(0, .ref (q 0)), (1, .int x1), (2, .int x2), (3, .int 0)]) X d_M_make_131 (by decide) [1, 2, 3, 0] rfl ?_
      obtain ⟨n2, hw⟩ := hw
      exact wL_M_make_132 X hR n2 x1 x2 0 σ2 hw
    · have hw := hw.2 c
      refine x_iinc (pc := 124) (d := 1) (lv' := [(0, .ref (q 0)), (1, .int x1), (2, .int (x2 + 1))]) X d_M_make_124 2 rfl (by decide) (by decide) [1, 2, 0] rfl ?_
      refine x_goto (pc := 127) (tgt := 116) X d_M_make_127 (by decide) ?_
      exact ih x1 (x2 + 1) σ2 hw
set_option maxHeartbeats 4000000 in
set_option maxRecDepth 100000 in
theorem wL_M_make_94 {Z : ZT} {q : Nat → Nat} {post : Int32 → St → Prop} (X : Cx Z "WayTableModel" b_M_make rm_M_make 7) (hR : RI Z b_M_make .int (wM (zI Z) q) post) : ∀ (n : Nat) (x1 x2 : Int32) (σ : St), L_M_make_94 post n x1 x2 σ → VV Z 0 0 (wM (zI Z) q σ) [(0, .ref (q 0)), (1, .int x1), (2, .int x2)] 94 [] := by
  intro n
  induction n with
  | zero => intro x1 x2 σ hw; exact False.elim hw
  | succ n ih =>
    intro x1 x2 σ hw
    unfold L_M_make_94 at hw
    refine x_iload_n (pc := 94) X d_M_make_94 2 rfl ?_
    refine x_sipush (pc := 95) (v := (nI 14400)) X d_M_make_95 (by decide) ?_
    refine x_icmp_ge (pc := 98) (tgt := 114) X d_M_make_98 (by decide) (fun c => ?_) (fun c => ?_)
    · have hw := hw.1 c
      refine x_iconst (pc := 114) (v := 1) X d_M_make_114 (by decide) ?_
      refine x_istore_n (pc := 115) (lv' := [(0, .ref (q 0)), (1, .int x1), (2, .int 1)]) X d_M_make_115 (by decide) [1, 2, 0] rfl ?_
      obtain ⟨n2, hw⟩ := hw
      exact wL_M_make_116 X hR n2 x1 1 σ hw
    · have hw := hw.2 c
      refine x_aload_n (pc := 101) X d_M_make_101 0 rfl ?_
      refine x_get (pc := 102) X tb_M 0 9 (by decide) mw_79 (atM_0 _ _ _) rfl d_M_make_102 ?_
      refine x_iload_n (pc := 105) X d_M_make_105 2 rfl ?_
      refine x_iconst (pc := 106) (v := 0) X d_M_make_106 (by decide) ?_
      obtain ⟨h18, hw⟩ := hw
      refine x_iast (pc := 107) (ws' := (wM (zI Z) q (ua σ 3 x2.toNatClampNeg 0))) X 4 (atM_4 _ _ _) h18 (stM_4 _ _ _ _) d_M_make_107 ?_
      refine x_iinc (pc := 108) (d := 1) (lv' := [(0, .ref (q 0)), (1, .int x1), (2, .int (x2 + 1))]) X d_M_make_108 2 rfl (by decide) (by decide) [1, 2, 0] rfl ?_
      refine x_goto (pc := 111) (tgt := 94) X d_M_make_111 (by decide) ?_
      exact ih x1 (x2 + 1) (ua σ 3 x2.toNatClampNeg 0) hw
set_option maxHeartbeats 4000000 in
set_option maxRecDepth 100000 in
theorem wL_M_make_50 {Z : ZT} {q : Nat → Nat} {post : Int32 → St → Prop} {K : Int32 → Int32 → St → Prop} (X : Cx Z "WayTableModel" b_M_make rm_M_make 7) (hR : RI Z b_M_make .int (wM (zI Z) q) post) (hK : ∀ (x1 x2 : Int32) (σ : St), K x1 x2 σ → VV Z 0 0 (wM (zI Z) q σ) [(0, .ref (q 0)), (1, .int x1), (2, .int x2)] 31 []) : ∀ (n : Nat) (x1 x2 x3 : Int32) (σ : St), L_M_make_50 post K n x1 x2 x3 σ → VV Z 0 0 (wM (zI Z) q σ) [(0, .ref (q 0)), (1, .int x1), (2, .int x2), (3, .int x3)] 50 [] := by
  intro n
  induction n with
  | zero => intro x1 x2 x3 σ hw; exact False.elim hw
  | succ n ih =>
    intro x1 x2 x3 σ hw
    unfold L_M_make_50 at hw
    refine x_iload_n (pc := 50) X d_M_make_50 3 rfl ?_
    refine x_aload_n (pc := 51) X d_M_make_51 0 rfl ?_
    refine x_get (pc := 52) X tb_M 0 2 (by decide) mw_9 (atM_0 _ _ _) rfl d_M_make_52 ?_
    refine x_icmp_ge (pc := 55) (tgt := 86) X d_M_make_55 (by decide) (fun c => ?_) (fun c => ?_)
    · have hw := hw.1 c
      refine x_iinc (pc := 86) (d := 1) (lv' := [(0, .ref (q 0)), (1, .int x1), (2, .int (x2 + 1)), (3, .int x3)]) X d_M_make_86 2 rfl (by decide) (by decide) [1, 2, 0, 3] rfl ?_
      refine x_goto (pc := 89) (tgt := 31) X d_M_make_89 (by decide) ?_
      refine x_drop [0, 1, 2] rfl ?_
      exact hK x1 (x2 + 1) σ hw
    · have hw := hw.2 c
      refine x_aload_n (pc := 58) X d_M_make_58 0 rfl ?_
      refine x_get (pc := 59) X tb_M 0 8 (by decide) mw_81 (atM_0 _ _ _) rfl d_M_make_59 ?_
      refine x_bipush (pc := 62) (v := (nI 40)) X d_M_make_62 (by decide) ?_
      refine x_iload_n (pc := 64) X d_M_make_64 2 rfl ?_
      refine x_imul (pc := 65) X d_M_make_65 ?_
      refine x_iload_n (pc := 66) X d_M_make_66 3 rfl ?_
      refine x_iadd (pc := 67) X d_M_make_67 ?_
      refine x_aload_n (pc := 68) X d_M_make_68 0 rfl ?_
      refine x_get (pc := 69) X tb_M 0 16 (by decide) mw_75 (atM_0 _ _ _) rfl d_M_make_69 ?_
      refine x_bipush (pc := 72) (v := (nI 40)) X d_M_make_72 (by decide) ?_
      refine x_iload_n (pc := 74) X d_M_make_74 2 rfl ?_
      refine x_imul (pc := 75) X d_M_make_75 ?_
      refine x_iload_n (pc := 76) X d_M_make_76 3 rfl ?_
      refine x_iadd (pc := 77) X d_M_make_77 ?_
      obtain ⟨h21, hw⟩ := hw
      refine x_iald (pc := 78) X 9 (atM_9 _ _ _) h21 d_M_make_78 ?_
      obtain ⟨h22, hw⟩ := hw
      refine x_iast (pc := 79) (ws' := (wM (zI Z) q (ua σ 2 (((nI 40) * x2) + x3).toNatClampNeg (σ.2 8 (((nI 40) * x2) + x3).toNatClampNeg)))) X 3 (atM_3 _ _ _) h22 (stM_3 _ _ _ _) d_M_make_79 ?_
      refine x_iinc (pc := 80) (d := 1) (lv' := [(0, .ref (q 0)), (1, .int x1), (2, .int x2), (3, .int (x3 + 1))]) X d_M_make_80 3 rfl (by decide) (by decide) [1, 2, 3, 0] rfl ?_
      refine x_goto (pc := 83) (tgt := 50) X d_M_make_83 (by decide) ?_
      exact ih x1 x2 (x3 + 1) (ua σ 2 (((nI 40) * x2) + x3).toNatClampNeg (σ.2 8 (((nI 40) * x2) + x3).toNatClampNeg)) hw
set_option maxHeartbeats 4000000 in
set_option maxRecDepth 100000 in
theorem wL_M_make_31 {Z : ZT} {q : Nat → Nat} {post : Int32 → St → Prop} (X : Cx Z "WayTableModel" b_M_make rm_M_make 7) (hR : RI Z b_M_make .int (wM (zI Z) q) post) : ∀ (n : Nat) (x1 x2 : Int32) (σ : St), L_M_make_31 post n x1 x2 σ → VV Z 0 0 (wM (zI Z) q σ) [(0, .ref (q 0)), (1, .int x1), (2, .int x2)] 31 [] := by
  intro n
  induction n with
  | zero => intro x1 x2 σ hw; exact False.elim hw
  | succ n ih =>
    intro x1 x2 σ hw
    unfold L_M_make_31 at hw
    refine x_iload_n (pc := 31) X d_M_make_31 2 rfl ?_
    refine x_iload_n (pc := 32) X d_M_make_32 1 rfl ?_
    refine x_icmp_ge (pc := 33) (tgt := 92) X d_M_make_33 (by decide) (fun c => ?_) (fun c => ?_)
    · have hw := hw.1 c
      refine x_iconst (pc := 92) (v := 0) X d_M_make_92 (by decide) ?_
      refine x_istore_n (pc := 93) (lv' := [(0, .ref (q 0)), (1, .int x1), (2, .int 0)]) X d_M_make_93 (by decide) [1, 2, 0] rfl ?_
      obtain ⟨n2, hw⟩ := hw
      exact wL_M_make_94 X hR n2 x1 0 σ hw
    · have hw := hw.2 c
      refine x_aload_n (pc := 36) X d_M_make_36 0 rfl ?_
      refine x_get (pc := 37) X tb_M 0 7 (by decide) mw_88 (atM_0 _ _ _) rfl d_M_make_37 ?_
      refine x_iload_n (pc := 40) X d_M_make_40 2 rfl ?_
      refine x_aload_n (pc := 41) X d_M_make_41 0 rfl ?_
      refine x_get (pc := 42) X tb_M 0 15 (by decide) mw_73 (atM_0 _ _ _) rfl d_M_make_42 ?_
      refine x_iload_n (pc := 45) X d_M_make_45 2 rfl ?_
      obtain ⟨h19, hw⟩ := hw
      refine x_iald (pc := 46) X 8 (atM_8 _ _ _) h19 d_M_make_46 ?_
      obtain ⟨h20, hw⟩ := hw
      refine x_iast (pc := 47) (ws' := (wM (zI Z) q (ua σ 1 x2.toNatClampNeg (σ.2 7 x2.toNatClampNeg)))) X 2 (atM_2 _ _ _) h20 (stM_2 _ _ _ _) d_M_make_47 ?_
      refine x_iconst (pc := 48) (v := 0) X d_M_make_48 (by decide) ?_
      refine x_istore_n (pc := 49) (lv' := [(0, .ref (q 0)), (1, .int x1), (2, .int x2), (3, .int 0)]) X d_M_make_49 (by decide) [1, 2, 3, 0] rfl ?_
      obtain ⟨n2, hw⟩ := hw
      exact wL_M_make_50 X hR ih n2 x1 x2 0 (ua σ 1 x2.toNatClampNeg (σ.2 7 x2.toNatClampNeg)) hw
set_option maxHeartbeats 4000000 in
set_option maxRecDepth 100000 in
theorem c_M_make (l : Launch) (D : va_G) (cI : ClassId) (q : Nat → Nat) (σ : St) (post : Int32 → St → Prop) (hw : wp_M_make σ post) : CI l D cI (wM cI q) y_M_make b_M_make 7 .int rm_M_make [.ref (q 0)] σ post := by
  refine CI_of (by decide) (Nat.le_of_ble_eq_true rfl) ?_
  intro Z hZl hZD hZI X hR
  subst hZl; subst hZD; subst hZI
  unfold wp_M_make at hw
  show VV Z 0 0 (wM (zI Z) q σ) [(0, .ref (q 0))] 0 []
  refine x_aload_n (pc := 0) X d_M_make_0 0 rfl ?_
  refine x_iconst (pc := 1) (v := 0) X d_M_make_1 (by decide) ?_
  refine x_put (pc := 2) (ws' := (wM (zI Z) q (us σ 0 0))) X tb_M 0 0 (by decide) mw_7 (atM_0 _ _ _) rfl pI (Nat.le_of_ble_eq_true rfl) (ptM_0 _ _ _ _) d_M_make_2 ?_
  refine x_aload_n (pc := 5) X d_M_make_5 0 rfl ?_
  refine x_cvi (pc := 6) X [] (c_M_follow (zl Z) (zD Z) (zI Z) q (us σ 0 0) _ hw) mv_M_follow tb_M 0 (atM_0 _ _ _) mw_76 d_M_make_6 rfl (Nat.le_of_ble_eq_true rfl) ⟨Nat.le_of_ble_eq_true rfl, Nat.le_of_ble_eq_true rfl⟩ ⟨rfl, rfl⟩ ⟨Nat.zero_le _, Nat.zero_le _⟩ ?_
  intro r1 σ1 hw
  refine x_istore_n (pc := 9) (lv' := [(0, .ref (q 0)), (1, .int r1)]) X d_M_make_9 (by decide) [1, 0] rfl ?_
  refine x_iload_n (pc := 10) X d_M_make_10 1 rfl ?_
  refine x_if_ge (pc := 11) (tgt := 16) X d_M_make_11 (by decide) (fun c => ?_) (fun c => ?_)
  · have hw := hw.1 c
    refine x_aload_n (pc := 16) X d_M_make_16 0 rfl ?_
    refine x_iload_n (pc := 17) X d_M_make_17 1 rfl ?_
    refine x_put (pc := 18) (ws' := (wM (zI Z) q (us σ1 4 r1))) X tb_M 0 5 (by decide) mw_77 (atM_0 _ _ _) rfl pI (Nat.le_of_ble_eq_true rfl) (ptM_4 _ _ _ _) d_M_make_18 ?_
    refine x_aload_n (pc := 21) X d_M_make_21 0 rfl ?_
    refine x_aload_n (pc := 22) X d_M_make_22 0 rfl ?_
    refine x_get (pc := 23) X tb_M 0 2 (by decide) mw_9 (atM_0 _ _ _) rfl d_M_make_23 ?_
    refine x_put (pc := 26) (ws' := (wM (zI Z) q (us (us σ1 4 r1) 5 ((us σ1 4 r1).1 2)))) X tb_M 0 6 (by decide) mw_78 (atM_0 _ _ _) rfl pI (Nat.le_of_ble_eq_true rfl) (ptM_5 _ _ _ _) d_M_make_26 ?_
    refine x_iconst (pc := 29) (v := 0) X d_M_make_29 (by decide) ?_
    refine x_istore_n (pc := 30) (lv' := [(0, .ref (q 0)), (1, .int r1), (2, .int 0)]) X d_M_make_30 (by decide) [1, 2, 0] rfl ?_
    obtain ⟨n2, hw⟩ := hw
    exact wL_M_make_31 X hR n2 r1 0 (us (us σ1 4 r1) 5 ((us σ1 4 r1).1 2)) hw
  · have hw := hw.2 c
    refine x_iconst (pc := 14) (v := (-1)) X d_M_make_14 (by decide) ?_
    exact hR _ _ _ _ d_M_make_15 (vp_nar_int _) hw
def rm_W_home : Room := { frames := 0, cells := 0, slots := 0, locals := 0 }
set_option maxHeartbeats 4000000 in
set_option maxRecDepth 100000 in
theorem c_W_home (l : Launch) (D : va_G) (cI : ClassId) (q : Nat → Nat) (σ : St) (post : St → Prop) (hw : wp_W_home σ post) : CV l D cI (wC cI q) y_W_home b_W_home 1 rm_W_home [.ref (q 0)] σ post := by
  refine CV_of (by decide) (Nat.le_of_ble_eq_true rfl) ?_
  intro Z hZl hZD hZI X hR
  subst hZl; subst hZD; subst hZI
  unfold wp_W_home at hw
  show VV Z 0 0 (wC (zI Z) q σ) [(0, .ref (q 0))] 0 []
  refine x_aload_n (pc := 0) X d_W_home_0 0 rfl ?_
  refine x_iconst (pc := 1) (v := 0) X d_W_home_1 (by decide) ?_
  refine x_put (pc := 2) (ws' := (wC (zI Z) q (us σ 0 0))) X tb_W 0 2 (by decide) mw_71 (atC_0 _ _ _) rfl pI (Nat.le_of_ble_eq_true rfl) (ptC_0 _ _ _ _) d_W_home_2 ?_
  exact hR _ _ _ d_W_home_5 hw
def rm_M_home : Room := { frames := 0, cells := 0, slots := 0, locals := 0 }
set_option maxHeartbeats 4000000 in
set_option maxRecDepth 100000 in
theorem c_M_home (l : Launch) (D : va_G) (cI : ClassId) (q : Nat → Nat) (σ : St) (post : St → Prop) (hw : wp_M_home σ post) : CV l D cI (wM cI q) y_M_home b_M_home 1 rm_M_home [.ref (q 0)] σ post := by
  refine CV_of (by decide) (Nat.le_of_ble_eq_true rfl) ?_
  intro Z hZl hZD hZI X hR
  subst hZl; subst hZD; subst hZI
  unfold wp_M_home at hw
  show VV Z 0 0 (wM (zI Z) q σ) [(0, .ref (q 0))] 0 []
  refine x_aload_n (pc := 0) X d_M_home_0 0 rfl ?_
  refine x_iconst (pc := 1) (v := 0) X d_M_home_1 (by decide) ?_
  refine x_put (pc := 2) (ws' := (wM (zI Z) q (us σ 0 0))) X tb_M 0 0 (by decide) mw_7 (atM_0 _ _ _) rfl pI (Nat.le_of_ble_eq_true rfl) (ptM_0 _ _ _ _) d_M_home_2 ?_
  refine x_aload_n (pc := 5) X d_M_home_5 0 rfl ?_
  refine x_iconst (pc := 6) (v := 0) X d_M_home_6 (by decide) ?_
  refine x_put (pc := 7) (ws' := (wM (zI Z) q (us (us σ 0 0) 7 0))) X tb_M 0 14 (by decide) mw_86 (atM_0 _ _ _) rfl pI (Nat.le_of_ble_eq_true rfl) (ptM_7 _ _ _ _) d_M_home_7 ?_
  exact hR _ _ _ d_M_home_10 hw
def rm_T_hasState : Room := { frames := 0, cells := 0, slots := 0, locals := 0 }
set_option maxHeartbeats 4000000 in
set_option maxRecDepth 100000 in
theorem c_T_hasState (l : Launch) (D : va_G) (cI : ClassId) (q : Nat → Nat) (σ : St) (x1 : Int32) (post : Int32 → St → Prop) (hw : wp_T_hasState x1 σ post) : CI l D cI (wC cI q) y_T_hasState b_T_hasState 2 .boolean rm_T_hasState [.ref (q 3), .int x1] σ post := by
  refine CI_of (by decide) (Nat.le_of_ble_eq_true rfl) ?_
  intro Z hZl hZD hZI X hR
  subst hZl; subst hZD; subst hZI
  unfold wp_T_hasState at hw
  show VV Z 0 0 (wC (zI Z) q σ) [(0, .ref (q 3)), (1, .int x1)] 0 []
  refine x_iload_n (pc := 0) X d_T_hasState_0 1 rfl ?_
  refine x_if_lt (pc := 1) (tgt := 16) X d_T_hasState_1 (by decide) (fun c => ?_) (fun c => ?_)
  · have hw := hw.1 c
    refine x_iconst (pc := 16) (v := 0) X d_T_hasState_16 (by decide) ?_
    exact hR _ _ _ _ d_T_hasState_17 rfl hw
  · have hw := hw.2 c
    refine x_iload_n (pc := 4) X d_T_hasState_4 1 rfl ?_
    refine x_aload_n (pc := 5) X d_T_hasState_5 0 rfl ?_
    refine x_get (pc := 6) X tb_T 3 2 (by decide) mw_66 (atC_3 _ _ _) rfl d_T_hasState_6 ?_
    refine x_icmp_ge (pc := 9) (tgt := 16) X d_T_hasState_9 (by decide) (fun c => ?_) (fun c => ?_)
    · have hw := hw.1 c
      refine x_iconst (pc := 16) (v := 0) X d_T_hasState_16 (by decide) ?_
      exact hR _ _ _ _ d_T_hasState_17 rfl hw
    · have hw := hw.2 c
      refine x_iconst (pc := 12) (v := 1) X d_T_hasState_12 (by decide) ?_
      refine x_goto (pc := 13) (tgt := 17) X d_T_hasState_13 (by decide) ?_
      exact hR _ _ _ _ d_T_hasState_17 rfl hw
def rm_T_hasLetter : Room := { frames := 0, cells := 0, slots := 0, locals := 0 }
set_option maxHeartbeats 4000000 in
set_option maxRecDepth 100000 in
theorem c_T_hasLetter (l : Launch) (D : va_G) (cI : ClassId) (q : Nat → Nat) (σ : St) (x1 : Int32) (post : Int32 → St → Prop) (hw : wp_T_hasLetter x1 σ post) : CI l D cI (wC cI q) y_T_hasLetter b_T_hasLetter 2 .boolean rm_T_hasLetter [.ref (q 3), .int x1] σ post := by
  refine CI_of (by decide) (Nat.le_of_ble_eq_true rfl) ?_
  intro Z hZl hZD hZI X hR
  subst hZl; subst hZD; subst hZI
  unfold wp_T_hasLetter at hw
  show VV Z 0 0 (wC (zI Z) q σ) [(0, .ref (q 3)), (1, .int x1)] 0 []
  refine x_iload_n (pc := 0) X d_T_hasLetter_0 1 rfl ?_
  refine x_if_lt (pc := 1) (tgt := 16) X d_T_hasLetter_1 (by decide) (fun c => ?_) (fun c => ?_)
  · have hw := hw.1 c
    refine x_iconst (pc := 16) (v := 0) X d_T_hasLetter_16 (by decide) ?_
    exact hR _ _ _ _ d_T_hasLetter_17 rfl hw
  · have hw := hw.2 c
    refine x_iload_n (pc := 4) X d_T_hasLetter_4 1 rfl ?_
    refine x_aload_n (pc := 5) X d_T_hasLetter_5 0 rfl ?_
    refine x_get (pc := 6) X tb_T 3 0 (by decide) mw_37 (atC_3 _ _ _) rfl d_T_hasLetter_6 ?_
    refine x_icmp_ge (pc := 9) (tgt := 16) X d_T_hasLetter_9 (by decide) (fun c => ?_) (fun c => ?_)
    · have hw := hw.1 c
      refine x_iconst (pc := 16) (v := 0) X d_T_hasLetter_16 (by decide) ?_
      exact hR _ _ _ _ d_T_hasLetter_17 rfl hw
    · have hw := hw.2 c
      refine x_iconst (pc := 12) (v := 1) X d_T_hasLetter_12 (by decide) ?_
      refine x_goto (pc := 13) (tgt := 17) X d_T_hasLetter_13 (by decide) ?_
      exact hR _ _ _ _ d_T_hasLetter_17 rfl hw
def rm_T_stateAfter : Room := { frames := 0, cells := 0, slots := 0, locals := 0 }
set_option maxHeartbeats 4000000 in
set_option maxRecDepth 100000 in
theorem c_T_stateAfter (l : Launch) (D : va_G) (cI : ClassId) (q : Nat → Nat) (σ : St) (x1 x2 : Int32) (post : Int32 → St → Prop) (hw : wp_T_stateAfter x1 x2 σ post) : CI l D cI (wC cI q) y_T_stateAfter b_T_stateAfter 4 .int rm_T_stateAfter [.ref (q 3), .int x1, .int x2] σ post := by
  refine CI_of (by decide) (Nat.le_of_ble_eq_true rfl) ?_
  intro Z hZl hZD hZI X hR
  subst hZl; subst hZD; subst hZI
  unfold wp_T_stateAfter at hw
  show VV Z 0 0 (wC (zI Z) q σ) [(0, .ref (q 3)), (1, .int x1), (2, .int x2)] 0 []
  refine x_aload_n (pc := 0) X d_T_stateAfter_0 0 rfl ?_
  refine x_get (pc := 1) X tb_T 3 6 (by decide) mw_44 (atC_3 _ _ _) rfl d_T_stateAfter_1 ?_
  refine x_aload_n (pc := 4) X d_T_stateAfter_4 0 rfl ?_
  refine x_get (pc := 5) X tb_T 3 10 (by decide) mw_68 (atC_3 _ _ _) rfl d_T_stateAfter_5 ?_
  refine x_iload_n (pc := 8) X d_T_stateAfter_8 1 rfl ?_
  obtain ⟨h1, hw⟩ := hw
  refine x_iald (pc := 9) X 10 (atC_10 _ _ _) h1 d_T_stateAfter_9 ?_
  refine x_bipush (pc := 10) (v := (nI 40)) X d_T_stateAfter_10 (by decide) ?_
  refine x_imul (pc := 12) X d_T_stateAfter_12 ?_
  refine x_iload_n (pc := 13) X d_T_stateAfter_13 2 rfl ?_
  refine x_iadd (pc := 14) X d_T_stateAfter_14 ?_
  obtain ⟨h2, hw⟩ := hw
  refine x_iald (pc := 15) X 6 (atC_6 _ _ _) h2 d_T_stateAfter_15 ?_
  refine x_istore_n (pc := 16) (lv' := [(0, .ref (q 3)), (1, .int x1), (2, .int x2), (3, .int (σ.2 3 (((σ.2 7 x1.toNatClampNeg) * (nI 40)) + x2).toNatClampNeg))]) X d_T_stateAfter_16 (by decide) [1, 2, 3, 0] rfl ?_
  refine x_iload_n (pc := 17) X d_T_stateAfter_17 3 rfl ?_
  refine x_iconst (pc := 18) (v := (-1)) X d_T_stateAfter_18 (by decide) ?_
  refine x_icmp_ne (pc := 19) (tgt := 26) X d_T_stateAfter_19 (by decide) (fun c => ?_) (fun c => ?_)
  · have hw := hw.1 c
    refine x_aload_n (pc := 26) X d_T_stateAfter_26 0 rfl ?_
    refine x_get (pc := 27) X tb_T 3 9 (by decide) mw_67 (atC_3 _ _ _) rfl d_T_stateAfter_27 ?_
    refine x_iload_n (pc := 30) X d_T_stateAfter_30 3 rfl ?_
    obtain ⟨h3, hw⟩ := hw
    refine x_iald (pc := 31) X 9 (atC_9 _ _ _) h3 d_T_stateAfter_31 ?_
    exact hR _ _ _ _ d_T_stateAfter_32 (vp_nar_int _) hw
  · have hw := hw.2 c
    refine x_iconst (pc := 22) (v := (-1)) X d_T_stateAfter_22 (by decide) ?_
    refine x_goto (pc := 23) (tgt := 32) X d_T_stateAfter_23 (by decide) ?_
    exact hR _ _ _ _ d_T_stateAfter_32 (vp_nar_int _) hw
def rm_W_to : Room := { frames := 1, cells := 0, slots := 0, locals := 23 }
set_option maxHeartbeats 4000000 in
set_option maxRecDepth 100000 in
theorem c_W_to (l : Launch) (D : va_G) (cI : ClassId) (q : Nat → Nat) (σ : St) (x1 x2 : Int32) (post : Int32 → St → Prop) (hw : wp_W_to x1 x2 σ post) : CI l D cI (wC cI q) y_W_to b_W_to 3 .int rm_W_to [.ref (q 0), .int x1, .int x2] σ post := by
  refine CI_of (by decide) (Nat.le_of_ble_eq_true rfl) ?_
  intro Z hZl hZD hZI X hR
  subst hZl; subst hZD; subst hZI
  unfold wp_W_to at hw
  show VV Z 0 0 (wC (zI Z) q σ) [(0, .ref (q 0)), (1, .int x1), (2, .int x2)] 0 []
  refine x_aload_n (pc := 0) X d_W_to_0 0 rfl ?_
  refine x_get (pc := 1) X tb_W 0 1 (by decide) mw_30 (atC_0 _ _ _) rfl d_W_to_1 ?_
  refine x_iload_n (pc := 4) X d_W_to_4 1 rfl ?_
  refine x_cni (pc := 5) X [.int x1] (c_T_hasState (zl Z) (zD Z) (zI Z) q σ x1 _ hw) mv_T_hasState tb_T 3 (atC_3 _ _ _) nw_89 d_W_to_5 rfl (Nat.le_of_ble_eq_true rfl) ⟨Nat.le_of_ble_eq_true rfl, Nat.le_of_ble_eq_true rfl⟩ ⟨rfl, rfl⟩ ⟨Nat.zero_le _, Nat.zero_le _⟩ ?_
  intro r1 σ1 hw
  refine x_if_eq (pc := 8) (tgt := 22) X d_W_to_8 (by decide) (fun c => ?_) (fun c => ?_)
  · have hw := hw.1 c
    refine x_iconst (pc := 22) (v := (-1)) X d_W_to_22 (by decide) ?_
    exact hR _ _ _ _ d_W_to_23 (vp_nar_int _) hw
  · have hw := hw.2 c
    refine x_aload_n (pc := 11) X d_W_to_11 0 rfl ?_
    refine x_get (pc := 12) X tb_W 0 1 (by decide) mw_30 (atC_0 _ _ _) rfl d_W_to_12 ?_
    refine x_iload_n (pc := 15) X d_W_to_15 2 rfl ?_
    refine x_cni (pc := 16) X [.int x2] (c_T_hasLetter (zl Z) (zD Z) (zI Z) q σ1 x2 _ hw) mv_T_hasLetter tb_T 3 (atC_3 _ _ _) nw_90 d_W_to_16 rfl (Nat.le_of_ble_eq_true rfl) ⟨Nat.le_of_ble_eq_true rfl, Nat.le_of_ble_eq_true rfl⟩ ⟨rfl, rfl⟩ ⟨Nat.zero_le _, Nat.zero_le _⟩ ?_
    intro r2 σ2 hw
    refine x_if_ne (pc := 19) (tgt := 24) X d_W_to_19 (by decide) (fun c => ?_) (fun c => ?_)
    · have hw := hw.1 c
      refine x_aload_n (pc := 24) X d_W_to_24 0 rfl ?_
      refine x_get (pc := 25) X tb_W 0 1 (by decide) mw_30 (atC_0 _ _ _) rfl d_W_to_25 ?_
      refine x_iload_n (pc := 28) X d_W_to_28 1 rfl ?_
      refine x_iload_n (pc := 29) X d_W_to_29 2 rfl ?_
      refine x_cni (pc := 30) X [.int x1, .int x2] (c_T_stateAfter (zl Z) (zD Z) (zI Z) q σ2 x1 x2 _ hw) mv_T_stateAfter tb_T 3 (atC_3 _ _ _) nw_91 d_W_to_30 rfl (Nat.le_of_ble_eq_true rfl) ⟨Nat.le_of_ble_eq_true rfl, Nat.le_of_ble_eq_true rfl⟩ ⟨rfl, rfl⟩ ⟨Nat.zero_le _, Nat.zero_le _⟩ ?_
      intro r3 σ3 hw
      exact hR _ _ _ _ d_W_to_33 (vp_nar_int _) hw
    · have hw := hw.2 c
      refine x_iconst (pc := 22) (v := (-1)) X d_W_to_22 (by decide) ?_
      exact hR _ _ _ _ d_W_to_23 (vp_nar_int _) hw
def rm_W_go : Room := { frames := 2, cells := 0, slots := 0, locals := 45 }
set_option maxHeartbeats 4000000 in
set_option maxRecDepth 100000 in
theorem c_W_go (l : Launch) (D : va_G) (cI : ClassId) (q : Nat → Nat) (σ : St) (x1 : Int32) (post : Int32 → St → Prop) (hw : wp_W_go x1 σ post) : CI l D cI (wC cI q) y_W_go b_W_go 3 .int rm_W_go [.ref (q 0), .int x1] σ post := by
  refine CI_of (by decide) (Nat.le_of_ble_eq_true rfl) ?_
  intro Z hZl hZD hZI X hR
  subst hZl; subst hZD; subst hZI
  unfold wp_W_go at hw
  show VV Z 0 0 (wC (zI Z) q σ) [(0, .ref (q 0)), (1, .int x1)] 0 []
  refine x_aload_n (pc := 0) X d_W_go_0 0 rfl ?_
  refine x_aload_n (pc := 1) X d_W_go_1 0 rfl ?_
  refine x_get (pc := 2) X tb_W 0 2 (by decide) mw_71 (atC_0 _ _ _) rfl d_W_go_2 ?_
  refine x_iload_n (pc := 5) X d_W_go_5 1 rfl ?_
  refine x_cvi (pc := 6) X [.int (σ.1 0), .int x1] (c_W_to (zl Z) (zD Z) (zI Z) q σ (σ.1 0) x1 _ hw) mv_W_to tb_W 0 (atC_0 _ _ _) mw_92 d_W_go_6 rfl (Nat.le_of_ble_eq_true rfl) ⟨Nat.le_of_ble_eq_true rfl, Nat.le_of_ble_eq_true rfl⟩ ⟨rfl, rfl⟩ ⟨Nat.zero_le _, Nat.zero_le _⟩ ?_
  intro r1 σ1 hw
  refine x_istore_n (pc := 9) (lv' := [(0, .ref (q 0)), (1, .int x1), (2, .int r1)]) X d_W_go_9 (by decide) [1, 2, 0] rfl ?_
  refine x_iload_n (pc := 10) X d_W_go_10 2 rfl ?_
  refine x_iconst (pc := 11) (v := (-1)) X d_W_go_11 (by decide) ?_
  refine x_icmp_eq (pc := 12) (tgt := 20) X d_W_go_12 (by decide) (fun c => ?_) (fun c => ?_)
  · have hw := hw.1 c
    refine x_iload_n (pc := 20) X d_W_go_20 2 rfl ?_
    exact hR _ _ _ _ d_W_go_21 (vp_nar_int _) hw
  · have hw := hw.2 c
    refine x_aload_n (pc := 15) X d_W_go_15 0 rfl ?_
    refine x_iload_n (pc := 16) X d_W_go_16 2 rfl ?_
    refine x_put (pc := 17) (ws' := (wC (zI Z) q (us σ1 0 r1))) X tb_W 0 2 (by decide) mw_71 (atC_0 _ _ _) rfl pI (Nat.le_of_ble_eq_true rfl) (ptC_0 _ _ _ _) d_W_go_17 ?_
    refine x_iload_n (pc := 20) X d_W_go_20 2 rfl ?_
    exact hR _ _ _ _ d_W_go_21 (vp_nar_int _) hw
