def rm_M_tell : Room := { frames := 0, cells := 0, slots := 0, locals := 0 }
set_option maxHeartbeats 4000000 in
set_option maxRecDepth 100000 in
theorem wL_M_tell_24 {Z : ZT} {q : Nat → Nat} {post : Int32 → St → Prop} {K : Int32 → Int32 → Int32 → Int32 → St → Prop} (X : Cx Z "WayTableModel" b_M_tell rm_M_tell 9) (hR : RI Z b_M_tell .boolean (wM (zI Z) q) post) (hK : ∀ (x1 x2 x3 x4 : Int32) (σ : St), K x1 x2 x3 x4 σ → VV Z 0 0 (wM (zI Z) q σ) [(0, .ref (q 0)), (1, .int x1), (2, .int x2), (3, .int x3), (4, .int x4)] 15 []) : ∀ (n : Nat) (x1 x2 x3 x4 x5 : Int32) (σ : St), L_M_tell_24 post K n x1 x2 x3 x4 x5 σ → VV Z 0 0 (wM (zI Z) q σ) [(0, .ref (q 0)), (1, .int x1), (2, .int x2), (3, .int x3), (4, .int x4), (5, .int x5)] 24 [] := by
  intro n
  induction n with
  | zero => intro x1 x2 x3 x4 x5 σ hw; exact False.elim hw
  | succ n ih =>
    intro x1 x2 x3 x4 x5 σ hw
    unfold L_M_tell_24 at hw
    refine x_iload (pc := 24) X d_M_tell_24 5 rfl ?_
    refine x_aload_n (pc := 26) X d_M_tell_26 0 rfl ?_
    refine x_get (pc := 27) X tb_M 0 6 (by decide) mw_78 (atM_0 _ _ _) rfl d_M_tell_27 ?_
    refine x_icmp_ge (pc := 30) (tgt := 189) X d_M_tell_30 (by decide) (fun c => ?_) (fun c => ?_)
    · have hw := hw.1 c
      refine x_aload_n (pc := 189) X d_M_tell_189 0 rfl ?_
      refine x_get (pc := 190) X tb_M 0 9 (by decide) mw_79 (atM_0 _ _ _) rfl d_M_tell_190 ?_
      refine x_bipush (pc := 193) (v := (nI 120)) X d_M_tell_193 (by decide) ?_
      refine x_iload (pc := 195) X d_M_tell_195 4 rfl ?_
      refine x_imul (pc := 197) X d_M_tell_197 ?_
      refine x_iload_n (pc := 198) X d_M_tell_198 3 rfl ?_
      refine x_iadd (pc := 199) X d_M_tell_199 ?_
      refine x_aload_n (pc := 200) X d_M_tell_200 0 rfl ?_
      refine x_get (pc := 201) X tb_M 0 9 (by decide) mw_79 (atM_0 _ _ _) rfl d_M_tell_201 ?_
      refine x_bipush (pc := 204) (v := (nI 120)) X d_M_tell_204 (by decide) ?_
      refine x_iload_n (pc := 206) X d_M_tell_206 3 rfl ?_
      refine x_imul (pc := 207) X d_M_tell_207 ?_
      refine x_iload (pc := 208) X d_M_tell_208 4 rfl ?_
      refine x_iadd (pc := 210) X d_M_tell_210 ?_
      obtain ⟨h1, hw⟩ := hw
      refine x_iald (pc := 211) X 4 (atM_4 _ _ _) h1 d_M_tell_211 ?_
      obtain ⟨h2, hw⟩ := hw
      refine x_iast (pc := 212) (ws' := (wM (zI Z) q (ua σ 3 (((nI 120) * x4) + x3).toNatClampNeg (σ.2 3 (((nI 120) * x3) + x4).toNatClampNeg)))) X 4 (atM_4 _ _ _) h2 (stM_4 _ _ _ _) d_M_tell_212 ?_
      refine x_aload_n (pc := 213) X d_M_tell_213 0 rfl ?_
      refine x_get (pc := 214) X tb_M 0 10 (by decide) mw_80 (atM_0 _ _ _) rfl d_M_tell_214 ?_
      refine x_bipush (pc := 217) (v := (nI 120)) X d_M_tell_217 (by decide) ?_
      refine x_iload (pc := 219) X d_M_tell_219 4 rfl ?_
      refine x_imul (pc := 221) X d_M_tell_221 ?_
      refine x_iload_n (pc := 222) X d_M_tell_222 3 rfl ?_
      refine x_iadd (pc := 223) X d_M_tell_223 ?_
      refine x_aload_n (pc := 224) X d_M_tell_224 0 rfl ?_
      refine x_get (pc := 225) X tb_M 0 10 (by decide) mw_80 (atM_0 _ _ _) rfl d_M_tell_225 ?_
      refine x_bipush (pc := 228) (v := (nI 120)) X d_M_tell_228 (by decide) ?_
      refine x_iload_n (pc := 230) X d_M_tell_230 3 rfl ?_
      refine x_imul (pc := 231) X d_M_tell_231 ?_
      refine x_iload (pc := 232) X d_M_tell_232 4 rfl ?_
      refine x_iadd (pc := 234) X d_M_tell_234 ?_
      obtain ⟨h3, hw⟩ := hw
      refine x_iald (pc := 235) X 5 (atM_5 _ _ _) h3 d_M_tell_235 ?_
      obtain ⟨h4, hw⟩ := hw
      refine x_iast (pc := 236) (ws' := (wM (zI Z) q (ua (ua σ 3 (((nI 120) * x4) + x3).toNatClampNeg (σ.2 3 (((nI 120) * x3) + x4).toNatClampNeg)) 4 (((nI 120) * x4) + x3).toNatClampNeg ((ua σ 3 (((nI 120) * x4) + x3).toNatClampNeg (σ.2 3 (((nI 120) * x3) + x4).toNatClampNeg)).2 4 (((nI 120) * x3) + x4).toNatClampNeg)))) X 5 (atM_5 _ _ _) h4 (stM_5 _ _ _ _) d_M_tell_236 ?_
      refine x_iinc (pc := 237) (d := 1) (lv' := [(0, .ref (q 0)), (1, .int x1), (2, .int x2), (3, .int x3), (4, .int (x4 + 1)), (5, .int x5)]) X d_M_tell_237 4 rfl (by decide) (by decide) [1, 2, 3, 4, 0, 5] rfl ?_
      refine x_goto (pc := 240) (tgt := 15) X d_M_tell_240 (by decide) ?_
      refine x_drop [0, 1, 2, 3, 4] rfl ?_
      exact hK x1 x2 x3 (x4 + 1) (ua (ua σ 3 (((nI 120) * x4) + x3).toNatClampNeg (σ.2 3 (((nI 120) * x3) + x4).toNatClampNeg)) 4 (((nI 120) * x4) + x3).toNatClampNeg ((ua σ 3 (((nI 120) * x4) + x3).toNatClampNeg (σ.2 3 (((nI 120) * x3) + x4).toNatClampNeg)).2 4 (((nI 120) * x3) + x4).toNatClampNeg)) hw
    · have hw := hw.2 c
      refine x_aload_n (pc := 33) X d_M_tell_33 0 rfl ?_
      refine x_get (pc := 34) X tb_M 0 9 (by decide) mw_79 (atM_0 _ _ _) rfl d_M_tell_34 ?_
      refine x_bipush (pc := 37) (v := (nI 120)) X d_M_tell_37 (by decide) ?_
      refine x_iload_n (pc := 39) X d_M_tell_39 3 rfl ?_
      refine x_imul (pc := 40) X d_M_tell_40 ?_
      refine x_iload (pc := 41) X d_M_tell_41 4 rfl ?_
      refine x_iadd (pc := 43) X d_M_tell_43 ?_
      obtain ⟨h5, hw⟩ := hw
      refine x_iald (pc := 44) X 4 (atM_4 _ _ _) h5 d_M_tell_44 ?_
      refine x_if_ne (pc := 45) (tgt := 189) X d_M_tell_45 (by decide) (fun c => ?_) (fun c => ?_)
      · have hw := hw.1 c
        refine x_aload_n (pc := 189) X d_M_tell_189 0 rfl ?_
        refine x_get (pc := 190) X tb_M 0 9 (by decide) mw_79 (atM_0 _ _ _) rfl d_M_tell_190 ?_
        refine x_bipush (pc := 193) (v := (nI 120)) X d_M_tell_193 (by decide) ?_
        refine x_iload (pc := 195) X d_M_tell_195 4 rfl ?_
        refine x_imul (pc := 197) X d_M_tell_197 ?_
        refine x_iload_n (pc := 198) X d_M_tell_198 3 rfl ?_
        refine x_iadd (pc := 199) X d_M_tell_199 ?_
        refine x_aload_n (pc := 200) X d_M_tell_200 0 rfl ?_
        refine x_get (pc := 201) X tb_M 0 9 (by decide) mw_79 (atM_0 _ _ _) rfl d_M_tell_201 ?_
        refine x_bipush (pc := 204) (v := (nI 120)) X d_M_tell_204 (by decide) ?_
        refine x_iload_n (pc := 206) X d_M_tell_206 3 rfl ?_
        refine x_imul (pc := 207) X d_M_tell_207 ?_
        refine x_iload (pc := 208) X d_M_tell_208 4 rfl ?_
        refine x_iadd (pc := 210) X d_M_tell_210 ?_
        obtain ⟨h6, hw⟩ := hw
        refine x_iald (pc := 211) X 4 (atM_4 _ _ _) h6 d_M_tell_211 ?_
        obtain ⟨h7, hw⟩ := hw
        refine x_iast (pc := 212) (ws' := (wM (zI Z) q (ua σ 3 (((nI 120) * x4) + x3).toNatClampNeg (σ.2 3 (((nI 120) * x3) + x4).toNatClampNeg)))) X 4 (atM_4 _ _ _) h7 (stM_4 _ _ _ _) d_M_tell_212 ?_
        refine x_aload_n (pc := 213) X d_M_tell_213 0 rfl ?_
        refine x_get (pc := 214) X tb_M 0 10 (by decide) mw_80 (atM_0 _ _ _) rfl d_M_tell_214 ?_
        refine x_bipush (pc := 217) (v := (nI 120)) X d_M_tell_217 (by decide) ?_
        refine x_iload (pc := 219) X d_M_tell_219 4 rfl ?_
        refine x_imul (pc := 221) X d_M_tell_221 ?_
        refine x_iload_n (pc := 222) X d_M_tell_222 3 rfl ?_
        refine x_iadd (pc := 223) X d_M_tell_223 ?_
        refine x_aload_n (pc := 224) X d_M_tell_224 0 rfl ?_
        refine x_get (pc := 225) X tb_M 0 10 (by decide) mw_80 (atM_0 _ _ _) rfl d_M_tell_225 ?_
        refine x_bipush (pc := 228) (v := (nI 120)) X d_M_tell_228 (by decide) ?_
        refine x_iload_n (pc := 230) X d_M_tell_230 3 rfl ?_
        refine x_imul (pc := 231) X d_M_tell_231 ?_
        refine x_iload (pc := 232) X d_M_tell_232 4 rfl ?_
        refine x_iadd (pc := 234) X d_M_tell_234 ?_
        obtain ⟨h8, hw⟩ := hw
        refine x_iald (pc := 235) X 5 (atM_5 _ _ _) h8 d_M_tell_235 ?_
        obtain ⟨h9, hw⟩ := hw
        refine x_iast (pc := 236) (ws' := (wM (zI Z) q (ua (ua σ 3 (((nI 120) * x4) + x3).toNatClampNeg (σ.2 3 (((nI 120) * x3) + x4).toNatClampNeg)) 4 (((nI 120) * x4) + x3).toNatClampNeg ((ua σ 3 (((nI 120) * x4) + x3).toNatClampNeg (σ.2 3 (((nI 120) * x3) + x4).toNatClampNeg)).2 4 (((nI 120) * x3) + x4).toNatClampNeg)))) X 5 (atM_5 _ _ _) h9 (stM_5 _ _ _ _) d_M_tell_236 ?_
        refine x_iinc (pc := 237) (d := 1) (lv' := [(0, .ref (q 0)), (1, .int x1), (2, .int x2), (3, .int x3), (4, .int (x4 + 1)), (5, .int x5)]) X d_M_tell_237 4 rfl (by decide) (by decide) [1, 2, 3, 4, 0, 5] rfl ?_
        refine x_goto (pc := 240) (tgt := 15) X d_M_tell_240 (by decide) ?_
        refine x_drop [0, 1, 2, 3, 4] rfl ?_
        exact hK x1 x2 x3 (x4 + 1) (ua (ua σ 3 (((nI 120) * x4) + x3).toNatClampNeg (σ.2 3 (((nI 120) * x3) + x4).toNatClampNeg)) 4 (((nI 120) * x4) + x3).toNatClampNeg ((ua σ 3 (((nI 120) * x4) + x3).toNatClampNeg (σ.2 3 (((nI 120) * x3) + x4).toNatClampNeg)).2 4 (((nI 120) * x3) + x4).toNatClampNeg)) hw
      · have hw := hw.2 c
        refine x_aload_n (pc := 48) X d_M_tell_48 0 rfl ?_
        refine x_get (pc := 49) X tb_M 0 8 (by decide) mw_81 (atM_0 _ _ _) rfl d_M_tell_49 ?_
        refine x_bipush (pc := 52) (v := (nI 40)) X d_M_tell_52 (by decide) ?_
        refine x_iload_n (pc := 54) X d_M_tell_54 3 rfl ?_
        refine x_imul (pc := 55) X d_M_tell_55 ?_
        refine x_iload (pc := 56) X d_M_tell_56 5 rfl ?_
        refine x_iadd (pc := 58) X d_M_tell_58 ?_
        obtain ⟨h10, hw⟩ := hw
        refine x_iald (pc := 59) X 3 (atM_3 _ _ _) h10 d_M_tell_59 ?_
        refine x_istore (pc := 60) (lv' := [(0, .ref (q 0)), (1, .int x1), (2, .int x2), (3, .int x3), (4, .int x4), (5, .int x5), (6, .int (σ.2 2 (((nI 40) * x3) + x5).toNatClampNeg))]) X d_M_tell_60 (by decide) [1, 2, 3, 4, 5, 6, 0] rfl ?_
        refine x_aload_n (pc := 62) X d_M_tell_62 0 rfl ?_
        refine x_get (pc := 63) X tb_M 0 8 (by decide) mw_81 (atM_0 _ _ _) rfl d_M_tell_63 ?_
        refine x_bipush (pc := 66) (v := (nI 40)) X d_M_tell_66 (by decide) ?_
        refine x_iload (pc := 68) X d_M_tell_68 4 rfl ?_
        refine x_imul (pc := 70) X d_M_tell_70 ?_
        refine x_iload (pc := 71) X d_M_tell_71 5 rfl ?_
        refine x_iadd (pc := 73) X d_M_tell_73 ?_
        obtain ⟨h11, hw⟩ := hw
        refine x_iald (pc := 74) X 3 (atM_3 _ _ _) h11 d_M_tell_74 ?_
        refine x_istore (pc := 75) (lv' := [(0, .ref (q 0)), (1, .int x1), (2, .int x2), (3, .int x3), (4, .int x4), (5, .int x5), (6, .int (σ.2 2 (((nI 40) * x3) + x5).toNatClampNeg)), (7, .int (σ.2 2 (((nI 40) * x4) + x5).toNatClampNeg))]) X d_M_tell_75 (by decide) [1, 2, 3, 4, 5, 6, 7, 0] rfl ?_
        refine x_iload_n (pc := 77) X d_M_tell_77 1 rfl ?_
        refine x_iconst (pc := 78) (v := 1) X d_M_tell_78 (by decide) ?_
        refine x_icmp_ne (pc := 79) (tgt := 113) X d_M_tell_79 (by decide) (fun c => ?_) (fun c => ?_)
        · have hw := hw.1 c
          refine x_iload (pc := 113) X d_M_tell_113 6 rfl ?_
          refine x_if_lt (pc := 115) (tgt := 146) X d_M_tell_115 (by decide) (fun c => ?_) (fun c => ?_)
          · have hw := hw.1 c
            refine x_iconst (pc := 146) (v := 0) X d_M_tell_146 (by decide) ?_
            refine x_istore (pc := 147) (lv' := [(0, .ref (q 0)), (1, .int x1), (2, .int x2), (3, .int x3), (4, .int x4), (5, .int x5), (6, .int (σ.2 2 (((nI 40) * x3) + x5).toNatClampNeg)), (7, .int (σ.2 2 (((nI 40) * x4) + x5).toNatClampNeg)), (8, .int 0)]) X d_M_tell_147 (by decide) [1, 2, 3, 4, 5, 6, 7, 8, 0] rfl ?_
            refine x_iload (pc := 149) X d_M_tell_149 8 rfl ?_
            refine x_if_eq (pc := 151) (tgt := 183) X d_M_tell_151 (by decide) (fun _ => ?_) (fun c => absurd c (by decide))
            refine x_iinc (pc := 183) (d := 1) (lv' := [(0, .ref (q 0)), (1, .int x1), (2, .int x2), (3, .int x3), (4, .int x4), (5, .int (x5 + 1)), (6, .int (σ.2 2 (((nI 40) * x3) + x5).toNatClampNeg)), (7, .int (σ.2 2 (((nI 40) * x4) + x5).toNatClampNeg)), (8, .int 0)]) X d_M_tell_183 5 rfl (by decide) (by decide) [1, 2, 3, 4, 5, 0, 6, 7, 8] rfl ?_
            refine x_goto (pc := 186) (tgt := 24) X d_M_tell_186 (by decide) ?_
            refine x_drop [0, 1, 2, 3, 4, 5] rfl ?_
            exact ih x1 x2 x3 x4 (x5 + 1) σ hw
          · have hw := hw.2 c
            refine x_iload (pc := 118) X d_M_tell_118 7 rfl ?_
            refine x_if_lt (pc := 120) (tgt := 146) X d_M_tell_120 (by decide) (fun c => ?_) (fun c => ?_)
            · have hw := hw.1 c
              refine x_iconst (pc := 146) (v := 0) X d_M_tell_146 (by decide) ?_
              refine x_istore (pc := 147) (lv' := [(0, .ref (q 0)), (1, .int x1), (2, .int x2), (3, .int x3), (4, .int x4), (5, .int x5), (6, .int (σ.2 2 (((nI 40) * x3) + x5).toNatClampNeg)), (7, .int (σ.2 2 (((nI 40) * x4) + x5).toNatClampNeg)), (8, .int 0)]) X d_M_tell_147 (by decide) [1, 2, 3, 4, 5, 6, 7, 8, 0] rfl ?_
              refine x_iload (pc := 149) X d_M_tell_149 8 rfl ?_
              refine x_if_eq (pc := 151) (tgt := 183) X d_M_tell_151 (by decide) (fun _ => ?_) (fun c => absurd c (by decide))
              refine x_iinc (pc := 183) (d := 1) (lv' := [(0, .ref (q 0)), (1, .int x1), (2, .int x2), (3, .int x3), (4, .int x4), (5, .int (x5 + 1)), (6, .int (σ.2 2 (((nI 40) * x3) + x5).toNatClampNeg)), (7, .int (σ.2 2 (((nI 40) * x4) + x5).toNatClampNeg)), (8, .int 0)]) X d_M_tell_183 5 rfl (by decide) (by decide) [1, 2, 3, 4, 5, 0, 6, 7, 8] rfl ?_
              refine x_goto (pc := 186) (tgt := 24) X d_M_tell_186 (by decide) ?_
              refine x_drop [0, 1, 2, 3, 4, 5] rfl ?_
              exact ih x1 x2 x3 x4 (x5 + 1) σ hw
            · have hw := hw.2 c
              refine x_aload_n (pc := 123) X d_M_tell_123 0 rfl ?_
              refine x_get (pc := 124) X tb_M 0 9 (by decide) mw_79 (atM_0 _ _ _) rfl d_M_tell_124 ?_
              refine x_bipush (pc := 127) (v := (nI 120)) X d_M_tell_127 (by decide) ?_
              refine x_iload (pc := 129) X d_M_tell_129 6 rfl ?_
              refine x_imul (pc := 131) X d_M_tell_131 ?_
              refine x_iload (pc := 132) X d_M_tell_132 7 rfl ?_
              refine x_iadd (pc := 134) X d_M_tell_134 ?_
              obtain ⟨h12, hw⟩ := hw
              refine x_iald (pc := 135) X 4 (atM_4 _ _ _) h12 d_M_tell_135 ?_
              refine x_iload_n (pc := 136) X d_M_tell_136 1 rfl ?_
              refine x_iconst (pc := 137) (v := 1) X d_M_tell_137 (by decide) ?_
              refine x_isub (pc := 138) X d_M_tell_138 ?_
              refine x_icmp_ne (pc := 139) (tgt := 146) X d_M_tell_139 (by decide) (fun c => ?_) (fun c => ?_)
              · have hw := hw.1 c
                refine x_iconst (pc := 146) (v := 0) X d_M_tell_146 (by decide) ?_
                refine x_istore (pc := 147) (lv' := [(0, .ref (q 0)), (1, .int x1), (2, .int x2), (3, .int x3), (4, .int x4), (5, .int x5), (6, .int (σ.2 2 (((nI 40) * x3) + x5).toNatClampNeg)), (7, .int (σ.2 2 (((nI 40) * x4) + x5).toNatClampNeg)), (8, .int 0)]) X d_M_tell_147 (by decide) [1, 2, 3, 4, 5, 6, 7, 8, 0] rfl ?_
                refine x_iload (pc := 149) X d_M_tell_149 8 rfl ?_
                refine x_if_eq (pc := 151) (tgt := 183) X d_M_tell_151 (by decide) (fun _ => ?_) (fun c => absurd c (by decide))
                refine x_iinc (pc := 183) (d := 1) (lv' := [(0, .ref (q 0)), (1, .int x1), (2, .int x2), (3, .int x3), (4, .int x4), (5, .int (x5 + 1)), (6, .int (σ.2 2 (((nI 40) * x3) + x5).toNatClampNeg)), (7, .int (σ.2 2 (((nI 40) * x4) + x5).toNatClampNeg)), (8, .int 0)]) X d_M_tell_183 5 rfl (by decide) (by decide) [1, 2, 3, 4, 5, 0, 6, 7, 8] rfl ?_
                refine x_goto (pc := 186) (tgt := 24) X d_M_tell_186 (by decide) ?_
                refine x_drop [0, 1, 2, 3, 4, 5] rfl ?_
                exact ih x1 x2 x3 x4 (x5 + 1) σ hw
              · have hw := hw.2 c
                refine x_iconst (pc := 142) (v := 1) X d_M_tell_142 (by decide) ?_
                refine x_goto (pc := 143) (tgt := 147) X d_M_tell_143 (by decide) ?_
                refine x_istore (pc := 147) (lv' := [(0, .ref (q 0)), (1, .int x1), (2, .int x2), (3, .int x3), (4, .int x4), (5, .int x5), (6, .int (σ.2 2 (((nI 40) * x3) + x5).toNatClampNeg)), (7, .int (σ.2 2 (((nI 40) * x4) + x5).toNatClampNeg)), (8, .int 1)]) X d_M_tell_147 (by decide) [1, 2, 3, 4, 5, 6, 7, 8, 0] rfl ?_
                refine x_iload (pc := 149) X d_M_tell_149 8 rfl ?_
                refine x_if_eq (pc := 151) (tgt := 183) X d_M_tell_151 (by decide) (fun c => absurd c (by decide)) (fun _ => ?_)
                refine x_aload_n (pc := 154) X d_M_tell_154 0 rfl ?_
                refine x_get (pc := 155) X tb_M 0 9 (by decide) mw_79 (atM_0 _ _ _) rfl d_M_tell_155 ?_
                refine x_bipush (pc := 158) (v := (nI 120)) X d_M_tell_158 (by decide) ?_
                refine x_iload_n (pc := 160) X d_M_tell_160 3 rfl ?_
                refine x_imul (pc := 161) X d_M_tell_161 ?_
                refine x_iload (pc := 162) X d_M_tell_162 4 rfl ?_
                refine x_iadd (pc := 164) X d_M_tell_164 ?_
                refine x_iload_n (pc := 165) X d_M_tell_165 1 rfl ?_
                obtain ⟨h13, hw⟩ := hw
                refine x_iast (pc := 166) (ws' := (wM (zI Z) q (ua σ 3 (((nI 120) * x3) + x4).toNatClampNeg x1))) X 4 (atM_4 _ _ _) h13 (stM_4 _ _ _ _) d_M_tell_166 ?_
                refine x_aload_n (pc := 167) X d_M_tell_167 0 rfl ?_
                refine x_get (pc := 168) X tb_M 0 10 (by decide) mw_80 (atM_0 _ _ _) rfl d_M_tell_168 ?_
                refine x_bipush (pc := 171) (v := (nI 120)) X d_M_tell_171 (by decide) ?_
                refine x_iload_n (pc := 173) X d_M_tell_173 3 rfl ?_
                refine x_imul (pc := 174) X d_M_tell_174 ?_
                refine x_iload (pc := 175) X d_M_tell_175 4 rfl ?_
                refine x_iadd (pc := 177) X d_M_tell_177 ?_
                refine x_iload (pc := 178) X d_M_tell_178 5 rfl ?_
                obtain ⟨h14, hw⟩ := hw
                refine x_iast (pc := 180) (ws' := (wM (zI Z) q (ua (ua σ 3 (((nI 120) * x3) + x4).toNatClampNeg x1) 4 (((nI 120) * x3) + x4).toNatClampNeg x5))) X 5 (atM_5 _ _ _) h14 (stM_5 _ _ _ _) d_M_tell_180 ?_
                refine x_iconst (pc := 181) (v := 1) X d_M_tell_181 (by decide) ?_
                refine x_istore_n (pc := 182) (lv' := [(0, .ref (q 0)), (1, .int x1), (2, .int 1), (3, .int x3), (4, .int x4), (5, .int x5), (6, .int (σ.2 2 (((nI 40) * x3) + x5).toNatClampNeg)), (7, .int (σ.2 2 (((nI 40) * x4) + x5).toNatClampNeg)), (8, .int 1)]) X d_M_tell_182 (by decide) [1, 2, 0, 3, 4, 5, 6, 7, 8] rfl ?_
                refine x_iinc (pc := 183) (d := 1) (lv' := [(0, .ref (q 0)), (1, .int x1), (2, .int 1), (3, .int x3), (4, .int x4), (5, .int (x5 + 1)), (6, .int (σ.2 2 (((nI 40) * x3) + x5).toNatClampNeg)), (7, .int (σ.2 2 (((nI 40) * x4) + x5).toNatClampNeg)), (8, .int 1)]) X d_M_tell_183 5 rfl (by decide) (by decide) [1, 2, 3, 4, 5, 0, 6, 7, 8] rfl ?_
                refine x_goto (pc := 186) (tgt := 24) X d_M_tell_186 (by decide) ?_
                refine x_drop [0, 1, 2, 3, 4, 5] rfl ?_
                exact ih x1 1 x3 x4 (x5 + 1) (ua (ua σ 3 (((nI 120) * x3) + x4).toNatClampNeg x1) 4 (((nI 120) * x3) + x4).toNatClampNeg x5) hw
        · have hw := hw.2 c
          refine x_iload (pc := 82) X d_M_tell_82 6 rfl ?_
          refine x_if_ge (pc := 84) (tgt := 91) X d_M_tell_84 (by decide) (fun c => ?_) (fun c => ?_)
          · have hw := hw.1 c
            refine x_iconst (pc := 91) (v := 0) X d_M_tell_91 (by decide) ?_
            refine x_iload (pc := 92) X d_M_tell_92 7 rfl ?_
            refine x_if_ge (pc := 94) (tgt := 101) X d_M_tell_94 (by decide) (fun c => ?_) (fun c => ?_)
            · have hw := hw.1 c
              refine x_iconst (pc := 101) (v := 0) X d_M_tell_101 (by decide) ?_
              refine x_icmp_eq (pc := 102) (tgt := 109) X d_M_tell_102 (by decide) (fun _ => ?_) (fun c => absurd c (by decide))
              refine x_iconst (pc := 109) (v := 0) X d_M_tell_109 (by decide) ?_
              refine x_goto (pc := 110) (tgt := 147) X d_M_tell_110 (by decide) ?_
              refine x_istore (pc := 147) (lv' := [(0, .ref (q 0)), (1, .int x1), (2, .int x2), (3, .int x3), (4, .int x4), (5, .int x5), (6, .int (σ.2 2 (((nI 40) * x3) + x5).toNatClampNeg)), (7, .int (σ.2 2 (((nI 40) * x4) + x5).toNatClampNeg)), (8, .int 0)]) X d_M_tell_147 (by decide) [1, 2, 3, 4, 5, 6, 7, 8, 0] rfl ?_
              refine x_iload (pc := 149) X d_M_tell_149 8 rfl ?_
              refine x_if_eq (pc := 151) (tgt := 183) X d_M_tell_151 (by decide) (fun _ => ?_) (fun c => absurd c (by decide))
              refine x_iinc (pc := 183) (d := 1) (lv' := [(0, .ref (q 0)), (1, .int x1), (2, .int x2), (3, .int x3), (4, .int x4), (5, .int (x5 + 1)), (6, .int (σ.2 2 (((nI 40) * x3) + x5).toNatClampNeg)), (7, .int (σ.2 2 (((nI 40) * x4) + x5).toNatClampNeg)), (8, .int 0)]) X d_M_tell_183 5 rfl (by decide) (by decide) [1, 2, 3, 4, 5, 0, 6, 7, 8] rfl ?_
              refine x_goto (pc := 186) (tgt := 24) X d_M_tell_186 (by decide) ?_
              refine x_drop [0, 1, 2, 3, 4, 5] rfl ?_
              exact ih x1 x2 x3 x4 (x5 + 1) σ hw
            · have hw := hw.2 c
              refine x_iconst (pc := 97) (v := 1) X d_M_tell_97 (by decide) ?_
              refine x_goto (pc := 98) (tgt := 102) X d_M_tell_98 (by decide) ?_
              refine x_icmp_eq (pc := 102) (tgt := 109) X d_M_tell_102 (by decide) (fun c => absurd c (by decide)) (fun _ => ?_)
              refine x_iconst (pc := 105) (v := 1) X d_M_tell_105 (by decide) ?_
              refine x_goto (pc := 106) (tgt := 147) X d_M_tell_106 (by decide) ?_
              refine x_istore (pc := 147) (lv' := [(0, .ref (q 0)), (1, .int x1), (2, .int x2), (3, .int x3), (4, .int x4), (5, .int x5), (6, .int (σ.2 2 (((nI 40) * x3) + x5).toNatClampNeg)), (7, .int (σ.2 2 (((nI 40) * x4) + x5).toNatClampNeg)), (8, .int 1)]) X d_M_tell_147 (by decide) [1, 2, 3, 4, 5, 6, 7, 8, 0] rfl ?_
              refine x_iload (pc := 149) X d_M_tell_149 8 rfl ?_
              refine x_if_eq (pc := 151) (tgt := 183) X d_M_tell_151 (by decide) (fun c => absurd c (by decide)) (fun _ => ?_)
              refine x_aload_n (pc := 154) X d_M_tell_154 0 rfl ?_
              refine x_get (pc := 155) X tb_M 0 9 (by decide) mw_79 (atM_0 _ _ _) rfl d_M_tell_155 ?_
              refine x_bipush (pc := 158) (v := (nI 120)) X d_M_tell_158 (by decide) ?_
              refine x_iload_n (pc := 160) X d_M_tell_160 3 rfl ?_
              refine x_imul (pc := 161) X d_M_tell_161 ?_
              refine x_iload (pc := 162) X d_M_tell_162 4 rfl ?_
              refine x_iadd (pc := 164) X d_M_tell_164 ?_
              refine x_iload_n (pc := 165) X d_M_tell_165 1 rfl ?_
              obtain ⟨h15, hw⟩ := hw
              refine x_iast (pc := 166) (ws' := (wM (zI Z) q (ua σ 3 (((nI 120) * x3) + x4).toNatClampNeg x1))) X 4 (atM_4 _ _ _) h15 (stM_4 _ _ _ _) d_M_tell_166 ?_
              refine x_aload_n (pc := 167) X d_M_tell_167 0 rfl ?_
              refine x_get (pc := 168) X tb_M 0 10 (by decide) mw_80 (atM_0 _ _ _) rfl d_M_tell_168 ?_
              refine x_bipush (pc := 171) (v := (nI 120)) X d_M_tell_171 (by decide) ?_
              refine x_iload_n (pc := 173) X d_M_tell_173 3 rfl ?_
              refine x_imul (pc := 174) X d_M_tell_174 ?_
              refine x_iload (pc := 175) X d_M_tell_175 4 rfl ?_
              refine x_iadd (pc := 177) X d_M_tell_177 ?_
              refine x_iload (pc := 178) X d_M_tell_178 5 rfl ?_
              obtain ⟨h16, hw⟩ := hw
              refine x_iast (pc := 180) (ws' := (wM (zI Z) q (ua (ua σ 3 (((nI 120) * x3) + x4).toNatClampNeg x1) 4 (((nI 120) * x3) + x4).toNatClampNeg x5))) X 5 (atM_5 _ _ _) h16 (stM_5 _ _ _ _) d_M_tell_180 ?_
              refine x_iconst (pc := 181) (v := 1) X d_M_tell_181 (by decide) ?_
              refine x_istore_n (pc := 182) (lv' := [(0, .ref (q 0)), (1, .int x1), (2, .int 1), (3, .int x3), (4, .int x4), (5, .int x5), (6, .int (σ.2 2 (((nI 40) * x3) + x5).toNatClampNeg)), (7, .int (σ.2 2 (((nI 40) * x4) + x5).toNatClampNeg)), (8, .int 1)]) X d_M_tell_182 (by decide) [1, 2, 0, 3, 4, 5, 6, 7, 8] rfl ?_
              refine x_iinc (pc := 183) (d := 1) (lv' := [(0, .ref (q 0)), (1, .int x1), (2, .int 1), (3, .int x3), (4, .int x4), (5, .int (x5 + 1)), (6, .int (σ.2 2 (((nI 40) * x3) + x5).toNatClampNeg)), (7, .int (σ.2 2 (((nI 40) * x4) + x5).toNatClampNeg)), (8, .int 1)]) X d_M_tell_183 5 rfl (by decide) (by decide) [1, 2, 3, 4, 5, 0, 6, 7, 8] rfl ?_
              refine x_goto (pc := 186) (tgt := 24) X d_M_tell_186 (by decide) ?_
              refine x_drop [0, 1, 2, 3, 4, 5] rfl ?_
              exact ih x1 1 x3 x4 (x5 + 1) (ua (ua σ 3 (((nI 120) * x3) + x4).toNatClampNeg x1) 4 (((nI 120) * x3) + x4).toNatClampNeg x5) hw
          · have hw := hw.2 c
            refine x_iconst (pc := 87) (v := 1) X d_M_tell_87 (by decide) ?_
            refine x_goto (pc := 88) (tgt := 92) X d_M_tell_88 (by decide) ?_
            refine x_iload (pc := 92) X d_M_tell_92 7 rfl ?_
            refine x_if_ge (pc := 94) (tgt := 101) X d_M_tell_94 (by decide) (fun c => ?_) (fun c => ?_)
            · have hw := hw.1 c
              refine x_iconst (pc := 101) (v := 0) X d_M_tell_101 (by decide) ?_
              refine x_icmp_eq (pc := 102) (tgt := 109) X d_M_tell_102 (by decide) (fun c => absurd c (by decide)) (fun _ => ?_)
              refine x_iconst (pc := 105) (v := 1) X d_M_tell_105 (by decide) ?_
              refine x_goto (pc := 106) (tgt := 147) X d_M_tell_106 (by decide) ?_
              refine x_istore (pc := 147) (lv' := [(0, .ref (q 0)), (1, .int x1), (2, .int x2), (3, .int x3), (4, .int x4), (5, .int x5), (6, .int (σ.2 2 (((nI 40) * x3) + x5).toNatClampNeg)), (7, .int (σ.2 2 (((nI 40) * x4) + x5).toNatClampNeg)), (8, .int 1)]) X d_M_tell_147 (by decide) [1, 2, 3, 4, 5, 6, 7, 8, 0] rfl ?_
              refine x_iload (pc := 149) X d_M_tell_149 8 rfl ?_
              refine x_if_eq (pc := 151) (tgt := 183) X d_M_tell_151 (by decide) (fun c => absurd c (by decide)) (fun _ => ?_)
              refine x_aload_n (pc := 154) X d_M_tell_154 0 rfl ?_
              refine x_get (pc := 155) X tb_M 0 9 (by decide) mw_79 (atM_0 _ _ _) rfl d_M_tell_155 ?_
              refine x_bipush (pc := 158) (v := (nI 120)) X d_M_tell_158 (by decide) ?_
              refine x_iload_n (pc := 160) X d_M_tell_160 3 rfl ?_
              refine x_imul (pc := 161) X d_M_tell_161 ?_
              refine x_iload (pc := 162) X d_M_tell_162 4 rfl ?_
              refine x_iadd (pc := 164) X d_M_tell_164 ?_
              refine x_iload_n (pc := 165) X d_M_tell_165 1 rfl ?_
              obtain ⟨h17, hw⟩ := hw
              refine x_iast (pc := 166) (ws' := (wM (zI Z) q (ua σ 3 (((nI 120) * x3) + x4).toNatClampNeg x1))) X 4 (atM_4 _ _ _) h17 (stM_4 _ _ _ _) d_M_tell_166 ?_
              refine x_aload_n (pc := 167) X d_M_tell_167 0 rfl ?_
              refine x_get (pc := 168) X tb_M 0 10 (by decide) mw_80 (atM_0 _ _ _) rfl d_M_tell_168 ?_
              refine x_bipush (pc := 171) (v := (nI 120)) X d_M_tell_171 (by decide) ?_
              refine x_iload_n (pc := 173) X d_M_tell_173 3 rfl ?_
              refine x_imul (pc := 174) X d_M_tell_174 ?_
              refine x_iload (pc := 175) X d_M_tell_175 4 rfl ?_
              refine x_iadd (pc := 177) X d_M_tell_177 ?_
              refine x_iload (pc := 178) X d_M_tell_178 5 rfl ?_
              obtain ⟨h18, hw⟩ := hw
              refine x_iast (pc := 180) (ws' := (wM (zI Z) q (ua (ua σ 3 (((nI 120) * x3) + x4).toNatClampNeg x1) 4 (((nI 120) * x3) + x4).toNatClampNeg x5))) X 5 (atM_5 _ _ _) h18 (stM_5 _ _ _ _) d_M_tell_180 ?_
              refine x_iconst (pc := 181) (v := 1) X d_M_tell_181 (by decide) ?_
              refine x_istore_n (pc := 182) (lv' := [(0, .ref (q 0)), (1, .int x1), (2, .int 1), (3, .int x3), (4, .int x4), (5, .int x5), (6, .int (σ.2 2 (((nI 40) * x3) + x5).toNatClampNeg)), (7, .int (σ.2 2 (((nI 40) * x4) + x5).toNatClampNeg)), (8, .int 1)]) X d_M_tell_182 (by decide) [1, 2, 0, 3, 4, 5, 6, 7, 8] rfl ?_
              refine x_iinc (pc := 183) (d := 1) (lv' := [(0, .ref (q 0)), (1, .int x1), (2, .int 1), (3, .int x3), (4, .int x4), (5, .int (x5 + 1)), (6, .int (σ.2 2 (((nI 40) * x3) + x5).toNatClampNeg)), (7, .int (σ.2 2 (((nI 40) * x4) + x5).toNatClampNeg)), (8, .int 1)]) X d_M_tell_183 5 rfl (by decide) (by decide) [1, 2, 3, 4, 5, 0, 6, 7, 8] rfl ?_
              refine x_goto (pc := 186) (tgt := 24) X d_M_tell_186 (by decide) ?_
              refine x_drop [0, 1, 2, 3, 4, 5] rfl ?_
              exact ih x1 1 x3 x4 (x5 + 1) (ua (ua σ 3 (((nI 120) * x3) + x4).toNatClampNeg x1) 4 (((nI 120) * x3) + x4).toNatClampNeg x5) hw
            · have hw := hw.2 c
              refine x_iconst (pc := 97) (v := 1) X d_M_tell_97 (by decide) ?_
              refine x_goto (pc := 98) (tgt := 102) X d_M_tell_98 (by decide) ?_
              refine x_icmp_eq (pc := 102) (tgt := 109) X d_M_tell_102 (by decide) (fun _ => ?_) (fun c => absurd c (by decide))
              refine x_iconst (pc := 109) (v := 0) X d_M_tell_109 (by decide) ?_
              refine x_goto (pc := 110) (tgt := 147) X d_M_tell_110 (by decide) ?_
              refine x_istore (pc := 147) (lv' := [(0, .ref (q 0)), (1, .int x1), (2, .int x2), (3, .int x3), (4, .int x4), (5, .int x5), (6, .int (σ.2 2 (((nI 40) * x3) + x5).toNatClampNeg)), (7, .int (σ.2 2 (((nI 40) * x4) + x5).toNatClampNeg)), (8, .int 0)]) X d_M_tell_147 (by decide) [1, 2, 3, 4, 5, 6, 7, 8, 0] rfl ?_
              refine x_iload (pc := 149) X d_M_tell_149 8 rfl ?_
              refine x_if_eq (pc := 151) (tgt := 183) X d_M_tell_151 (by decide) (fun _ => ?_) (fun c => absurd c (by decide))
              refine x_iinc (pc := 183) (d := 1) (lv' := [(0, .ref (q 0)), (1, .int x1), (2, .int x2), (3, .int x3), (4, .int x4), (5, .int (x5 + 1)), (6, .int (σ.2 2 (((nI 40) * x3) + x5).toNatClampNeg)), (7, .int (σ.2 2 (((nI 40) * x4) + x5).toNatClampNeg)), (8, .int 0)]) X d_M_tell_183 5 rfl (by decide) (by decide) [1, 2, 3, 4, 5, 0, 6, 7, 8] rfl ?_
              refine x_goto (pc := 186) (tgt := 24) X d_M_tell_186 (by decide) ?_
              refine x_drop [0, 1, 2, 3, 4, 5] rfl ?_
              exact ih x1 x2 x3 x4 (x5 + 1) σ hw
set_option maxHeartbeats 4000000 in
set_option maxRecDepth 100000 in
theorem wL_M_tell_15 {Z : ZT} {q : Nat → Nat} {post : Int32 → St → Prop} {K : Int32 → Int32 → Int32 → St → Prop} (X : Cx Z "WayTableModel" b_M_tell rm_M_tell 9) (hR : RI Z b_M_tell .boolean (wM (zI Z) q) post) (hK : ∀ (x1 x2 x3 : Int32) (σ : St), K x1 x2 x3 σ → VV Z 0 0 (wM (zI Z) q σ) [(0, .ref (q 0)), (1, .int x1), (2, .int x2), (3, .int x3)] 4 []) : ∀ (n : Nat) (x1 x2 x3 x4 : Int32) (σ : St), L_M_tell_15 post K n x1 x2 x3 x4 σ → VV Z 0 0 (wM (zI Z) q σ) [(0, .ref (q 0)), (1, .int x1), (2, .int x2), (3, .int x3), (4, .int x4)] 15 [] := by
  intro n
  induction n with
  | zero => intro x1 x2 x3 x4 σ hw; exact False.elim hw
  | succ n ih =>
    intro x1 x2 x3 x4 σ hw
    unfold L_M_tell_15 at hw
    refine x_iload (pc := 15) X d_M_tell_15 4 rfl ?_
    refine x_iload_n (pc := 17) X d_M_tell_17 3 rfl ?_
    refine x_icmp_ge (pc := 18) (tgt := 243) X d_M_tell_18 (by decide) (fun c => ?_) (fun c => ?_)
    · have hw := hw.1 c
      refine x_iinc (pc := 243) (d := 1) (lv' := [(0, .ref (q 0)), (1, .int x1), (2, .int x2), (3, .int (x3 + 1)), (4, .int x4)]) X d_M_tell_243 3 rfl (by decide) (by decide) [1, 2, 3, 0, 4] rfl ?_
      refine x_goto (pc := 246) (tgt := 4) X d_M_tell_246 (by decide) ?_
      refine x_drop [0, 1, 2, 3] rfl ?_
      exact hK x1 x2 (x3 + 1) σ hw
    · have hw := hw.2 c
      refine x_iconst (pc := 21) (v := 0) X d_M_tell_21 (by decide) ?_
      refine x_istore (pc := 22) (lv' := [(0, .ref (q 0)), (1, .int x1), (2, .int x2), (3, .int x3), (4, .int x4), (5, .int 0)]) X d_M_tell_22 (by decide) [1, 2, 3, 4, 5, 0] rfl ?_
      obtain ⟨n2, hw⟩ := hw
      exact wL_M_tell_24 X hR ih n2 x1 x2 x3 x4 0 σ hw
set_option maxHeartbeats 4000000 in
set_option maxRecDepth 100000 in
theorem wL_M_tell_4 {Z : ZT} {q : Nat → Nat} {post : Int32 → St → Prop} (X : Cx Z "WayTableModel" b_M_tell rm_M_tell 9) (hR : RI Z b_M_tell .boolean (wM (zI Z) q) post) : ∀ (n : Nat) (x1 x2 x3 : Int32) (σ : St), L_M_tell_4 post n x1 x2 x3 σ → VV Z 0 0 (wM (zI Z) q σ) [(0, .ref (q 0)), (1, .int x1), (2, .int x2), (3, .int x3)] 4 [] := by
  intro n
  induction n with
  | zero => intro x1 x2 x3 σ hw; exact False.elim hw
  | succ n ih =>
    intro x1 x2 x3 σ hw
    unfold L_M_tell_4 at hw
    refine x_iload_n (pc := 4) X d_M_tell_4 3 rfl ?_
    refine x_aload_n (pc := 5) X d_M_tell_5 0 rfl ?_
    refine x_get (pc := 6) X tb_M 0 5 (by decide) mw_77 (atM_0 _ _ _) rfl d_M_tell_6 ?_
    refine x_icmp_ge (pc := 9) (tgt := 249) X d_M_tell_9 (by decide) (fun c => ?_) (fun c => ?_)
    · have hw := hw.1 c
      refine x_iload_n (pc := 249) X d_M_tell_249 2 rfl ?_
      exact hR _ _ _ _ d_M_tell_250 hw.1 hw.2
    · have hw := hw.2 c
      refine x_iconst (pc := 12) (v := 0) X d_M_tell_12 (by decide) ?_
      refine x_istore (pc := 13) (lv' := [(0, .ref (q 0)), (1, .int x1), (2, .int x2), (3, .int x3), (4, .int 0)]) X d_M_tell_13 (by decide) [1, 2, 3, 4, 0] rfl ?_
      obtain ⟨n2, hw⟩ := hw
      exact wL_M_tell_15 X hR ih n2 x1 x2 x3 0 σ hw
set_option maxHeartbeats 4000000 in
set_option maxRecDepth 100000 in
theorem c_M_tell (l : Launch) (D : va_G) (cI : ClassId) (q : Nat → Nat) (σ : St) (x1 : Int32) (post : Int32 → St → Prop) (hw : wp_M_tell x1 σ post) : CI l D cI (wM cI q) y_M_tell b_M_tell 9 .boolean rm_M_tell [.ref (q 0), .int x1] σ post := by
  refine CI_of (by decide) (Nat.le_of_ble_eq_true rfl) ?_
  intro Z hZl hZD hZI X hR
  subst hZl; subst hZD; subst hZI
  unfold wp_M_tell at hw
  show VV Z 0 0 (wM (zI Z) q σ) [(0, .ref (q 0)), (1, .int x1)] 0 []
  refine x_iconst (pc := 0) (v := 0) X d_M_tell_0 (by decide) ?_
  refine x_istore_n (pc := 1) (lv' := [(0, .ref (q 0)), (1, .int x1), (2, .int 0)]) X d_M_tell_1 (by decide) [1, 2, 0] rfl ?_
  refine x_iconst (pc := 2) (v := 0) X d_M_tell_2 (by decide) ?_
  refine x_istore_n (pc := 3) (lv' := [(0, .ref (q 0)), (1, .int x1), (2, .int 0), (3, .int 0)]) X d_M_tell_3 (by decide) [1, 2, 3, 0] rfl ?_
  obtain ⟨n2, hw⟩ := hw
  exact wL_M_tell_4 X hR n2 x1 0 0 σ hw
def rm_M_leastLike : Room := { frames := 0, cells := 0, slots := 0, locals := 0 }
set_option maxHeartbeats 4000000 in
set_option maxRecDepth 100000 in
theorem wL_M_leastLike_2 {Z : ZT} {q : Nat → Nat} {post : Int32 → St → Prop} (X : Cx Z "WayTableModel" b_M_leastLike rm_M_leastLike 3) (hR : RI Z b_M_leastLike .int (wM (zI Z) q) post) : ∀ (n : Nat) (x1 x2 : Int32) (σ : St), L_M_leastLike_2 post n x1 x2 σ → VV Z 0 0 (wM (zI Z) q σ) [(0, .ref (q 0)), (1, .int x1), (2, .int x2)] 2 [] := by
  intro n
  induction n with
  | zero => intro x1 x2 σ hw; exact False.elim hw
  | succ n ih =>
    intro x1 x2 σ hw
    unfold L_M_leastLike_2 at hw
    refine x_aload_n (pc := 2) X d_M_leastLike_2 0 rfl ?_
    refine x_get (pc := 3) X tb_M 0 9 (by decide) mw_79 (atM_0 _ _ _) rfl d_M_leastLike_3 ?_
    refine x_bipush (pc := 6) (v := (nI 120)) X d_M_leastLike_6 (by decide) ?_
    refine x_iload_n (pc := 8) X d_M_leastLike_8 1 rfl ?_
    refine x_imul (pc := 9) X d_M_leastLike_9 ?_
    refine x_iload_n (pc := 10) X d_M_leastLike_10 2 rfl ?_
    refine x_iadd (pc := 11) X d_M_leastLike_11 ?_
    obtain ⟨h1, hw⟩ := hw
    refine x_iald (pc := 12) X 4 (atM_4 _ _ _) h1 d_M_leastLike_12 ?_
    refine x_if_le (pc := 13) (tgt := 22) X d_M_leastLike_13 (by decide) (fun c => ?_) (fun c => ?_)
    · have hw := hw.1 c
      refine x_iload_n (pc := 22) X d_M_leastLike_22 2 rfl ?_
      exact hR _ _ _ _ d_M_leastLike_23 (vp_nar_int _) hw
    · have hw := hw.2 c
      refine x_iinc (pc := 16) (d := 1) (lv' := [(0, .ref (q 0)), (1, .int x1), (2, .int (x2 + 1))]) X d_M_leastLike_16 2 rfl (by decide) (by decide) [1, 2, 0] rfl ?_
      refine x_goto (pc := 19) (tgt := 2) X d_M_leastLike_19 (by decide) ?_
      exact ih x1 (x2 + 1) σ hw
set_option maxHeartbeats 4000000 in
set_option maxRecDepth 100000 in
theorem c_M_leastLike (l : Launch) (D : va_G) (cI : ClassId) (q : Nat → Nat) (σ : St) (x1 : Int32) (post : Int32 → St → Prop) (hw : wp_M_leastLike x1 σ post) : CI l D cI (wM cI q) y_M_leastLike b_M_leastLike 3 .int rm_M_leastLike [.ref (q 0), .int x1] σ post := by
  refine CI_of (by decide) (Nat.le_of_ble_eq_true rfl) ?_
  intro Z hZl hZD hZI X hR
  subst hZl; subst hZD; subst hZI
  unfold wp_M_leastLike at hw
  show VV Z 0 0 (wM (zI Z) q σ) [(0, .ref (q 0)), (1, .int x1)] 0 []
  refine x_iconst (pc := 0) (v := 0) X d_M_leastLike_0 (by decide) ?_
  refine x_istore_n (pc := 1) (lv' := [(0, .ref (q 0)), (1, .int x1), (2, .int 0)]) X d_M_leastLike_1 (by decide) [1, 2, 0] rfl ?_
  obtain ⟨n2, hw⟩ := hw
  exact wL_M_leastLike_2 X hR n2 x1 0 σ hw
