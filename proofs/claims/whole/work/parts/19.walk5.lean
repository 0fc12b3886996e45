def rm_M_follow : Room := { frames := 1, cells := 0, slots := 0, locals := 24 }
set_option maxHeartbeats 4000000 in
set_option maxRecDepth 100000 in
theorem wL_M_follow_47 {Z : ZT} {q : Nat → Nat} {post : Int32 → St → Prop} {K : Int32 → Int32 → Int32 → St → Prop} (X : Cx Z "WayTableModel" b_M_follow rm_M_follow 6) (hR : RI Z b_M_follow .int (wM (zI Z) q) post) (hK : ∀ (x1 x2 x3 : Int32) (σ : St), K x1 x2 x3 σ → VV Z 0 0 (wM (zI Z) q σ) [(0, .ref (q 0)), (1, .int x1), (2, .int x2), (3, .int x3)] 23 []) : ∀ (n : Nat) (x1 x2 x3 x4 x5 : Int32) (σ : St), L_M_follow_47 post K n x1 x2 x3 x4 x5 σ → VV Z 0 0 (wM (zI Z) q σ) [(0, .ref (q 0)), (1, .int x1), (2, .int x2), (3, .int x3), (4, .int x4), (5, .int x5)] 47 [] := by
  intro n
  induction n with
  | zero => intro x1 x2 x3 x4 x5 σ hw; exact False.elim hw
  | succ n ih =>
    intro x1 x2 x3 x4 x5 σ hw
    unfold L_M_follow_47 at hw
    refine x_iload (pc := 47) X d_M_follow_47 5 rfl ?_
    refine x_iload_n (pc := 49) X d_M_follow_49 1 rfl ?_
    refine x_icmp_ge (pc := 50) (tgt := 71) X d_M_follow_50 (by decide) (fun c => ?_) (fun c => ?_)
    · have hw := hw.1 c
      refine x_iload (pc := 71) X d_M_follow_71 4 rfl ?_
      refine x_if_eq (pc := 73) (tgt := 101) X d_M_follow_73 (by decide) (fun c => ?_) (fun c => ?_)
      · have hw := hw.1 c
        refine x_aload_n (pc := 101) X d_M_follow_101 0 rfl ?_
        refine x_get (pc := 102) X tb_M 0 16 (by decide) mw_75 (atM_0 _ _ _) rfl d_M_follow_102 ?_
        refine x_bipush (pc := 105) (v := (nI 40)) X d_M_follow_105 (by decide) ?_
        refine x_iload_n (pc := 107) X d_M_follow_107 2 rfl ?_
        refine x_imul (pc := 108) X d_M_follow_108 ?_
        refine x_iload_n (pc := 109) X d_M_follow_109 3 rfl ?_
        refine x_iadd (pc := 110) X d_M_follow_110 ?_
        refine x_iload (pc := 111) X d_M_follow_111 4 rfl ?_
        refine x_if_ne (pc := 113) (tgt := 120) X d_M_follow_113 (by decide) (fun c => ?_) (fun c => ?_)
        · have hw := hw.1 c
          refine x_iload (pc := 120) X d_M_follow_120 5 rfl ?_
          obtain ⟨h4, hw⟩ := hw
          refine x_iast (pc := 122) (ws' := (wM (zI Z) q (ua σ 8 (((nI 40) * x2) + x3).toNatClampNeg x5))) X 9 (atM_9 _ _ _) h4 (stM_9 _ _ _ _) d_M_follow_122 ?_
          refine x_iinc (pc := 123) (d := 1) (lv' := [(0, .ref (q 0)), (1, .int x1), (2, .int x2), (3, .int (x3 + 1)), (4, .int x4), (5, .int x5)]) X d_M_follow_123 3 rfl (by decide) (by decide) [1, 2, 3, 0, 4, 5] rfl ?_
          refine x_goto (pc := 126) (tgt := 23) X d_M_follow_126 (by decide) ?_
          refine x_drop [0, 1, 2, 3] rfl ?_
          exact hK x1 x2 (x3 + 1) (ua σ 8 (((nI 40) * x2) + x3).toNatClampNeg x5) hw
        · have hw := hw.2 c
          refine x_iconst (pc := 116) (v := (-1)) X d_M_follow_116 (by decide) ?_
          refine x_goto (pc := 117) (tgt := 122) X d_M_follow_117 (by decide) ?_
          obtain ⟨h5, hw⟩ := hw
          refine x_iast (pc := 122) (ws' := (wM (zI Z) q (ua σ 8 (((nI 40) * x2) + x3).toNatClampNeg (-1)))) X 9 (atM_9 _ _ _) h5 (stM_9 _ _ _ _) d_M_follow_122 ?_
          refine x_iinc (pc := 123) (d := 1) (lv' := [(0, .ref (q 0)), (1, .int x1), (2, .int x2), (3, .int (x3 + 1)), (4, .int x4), (5, .int x5)]) X d_M_follow_123 3 rfl (by decide) (by decide) [1, 2, 3, 0, 4, 5] rfl ?_
          refine x_goto (pc := 126) (tgt := 23) X d_M_follow_126 (by decide) ?_
          refine x_drop [0, 1, 2, 3] rfl ?_
          exact hK x1 x2 (x3 + 1) (ua σ 8 (((nI 40) * x2) + x3).toNatClampNeg (-1)) hw
      · have hw := hw.2 c
        refine x_iload (pc := 76) X d_M_follow_76 5 rfl ?_
        refine x_iload_n (pc := 78) X d_M_follow_78 1 rfl ?_
        refine x_icmp_ne (pc := 79) (tgt := 101) X d_M_follow_79 (by decide) (fun c => ?_) (fun c => ?_)
        · have hw := hw.1 c
          refine x_aload_n (pc := 101) X d_M_follow_101 0 rfl ?_
          refine x_get (pc := 102) X tb_M 0 16 (by decide) mw_75 (atM_0 _ _ _) rfl d_M_follow_102 ?_
          refine x_bipush (pc := 105) (v := (nI 40)) X d_M_follow_105 (by decide) ?_
          refine x_iload_n (pc := 107) X d_M_follow_107 2 rfl ?_
          refine x_imul (pc := 108) X d_M_follow_108 ?_
          refine x_iload_n (pc := 109) X d_M_follow_109 3 rfl ?_
          refine x_iadd (pc := 110) X d_M_follow_110 ?_
          refine x_iload (pc := 111) X d_M_follow_111 4 rfl ?_
          refine x_if_ne (pc := 113) (tgt := 120) X d_M_follow_113 (by decide) (fun c => ?_) (fun c => ?_)
          · have hw := hw.1 c
            refine x_iload (pc := 120) X d_M_follow_120 5 rfl ?_
            obtain ⟨h6, hw⟩ := hw
            refine x_iast (pc := 122) (ws' := (wM (zI Z) q (ua σ 8 (((nI 40) * x2) + x3).toNatClampNeg x5))) X 9 (atM_9 _ _ _) h6 (stM_9 _ _ _ _) d_M_follow_122 ?_
            refine x_iinc (pc := 123) (d := 1) (lv' := [(0, .ref (q 0)), (1, .int x1), (2, .int x2), (3, .int (x3 + 1)), (4, .int x4), (5, .int x5)]) X d_M_follow_123 3 rfl (by decide) (by decide) [1, 2, 3, 0, 4, 5] rfl ?_
            refine x_goto (pc := 126) (tgt := 23) X d_M_follow_126 (by decide) ?_
            refine x_drop [0, 1, 2, 3] rfl ?_
            exact hK x1 x2 (x3 + 1) (ua σ 8 (((nI 40) * x2) + x3).toNatClampNeg x5) hw
          · have hw := hw.2 c
            refine x_iconst (pc := 116) (v := (-1)) X d_M_follow_116 (by decide) ?_
            refine x_goto (pc := 117) (tgt := 122) X d_M_follow_117 (by decide) ?_
            obtain ⟨h7, hw⟩ := hw
            refine x_iast (pc := 122) (ws' := (wM (zI Z) q (ua σ 8 (((nI 40) * x2) + x3).toNatClampNeg (-1)))) X 9 (atM_9 _ _ _) h7 (stM_9 _ _ _ _) d_M_follow_122 ?_
            refine x_iinc (pc := 123) (d := 1) (lv' := [(0, .ref (q 0)), (1, .int x1), (2, .int x2), (3, .int (x3 + 1)), (4, .int x4), (5, .int x5)]) X d_M_follow_123 3 rfl (by decide) (by decide) [1, 2, 3, 0, 4, 5] rfl ?_
            refine x_goto (pc := 126) (tgt := 23) X d_M_follow_126 (by decide) ?_
            refine x_drop [0, 1, 2, 3] rfl ?_
            exact hK x1 x2 (x3 + 1) (ua σ 8 (((nI 40) * x2) + x3).toNatClampNeg (-1)) hw
        · have hw := hw.2 c
          refine x_iload_n (pc := 82) X d_M_follow_82 1 rfl ?_
          refine x_bipush (pc := 83) (v := (nI 120)) X d_M_follow_83 (by decide) ?_
          refine x_icmp_ne (pc := 85) (tgt := 90) X d_M_follow_85 (by decide) (fun c => ?_) (fun c => ?_)
          · have hw := hw.1 c
            refine x_aload_n (pc := 90) X d_M_follow_90 0 rfl ?_
            refine x_get (pc := 91) X tb_M 0 15 (by decide) mw_73 (atM_0 _ _ _) rfl d_M_follow_91 ?_
            refine x_iload_n (pc := 94) X d_M_follow_94 1 rfl ?_
            refine x_iload (pc := 95) X d_M_follow_95 4 rfl ?_
            obtain ⟨h8, hw⟩ := hw
            refine x_iast (pc := 97) (ws' := (wM (zI Z) q (ua σ 7 x1.toNatClampNeg x4))) X 8 (atM_8 _ _ _) h8 (stM_8 _ _ _ _) d_M_follow_97 ?_
            refine x_iinc (pc := 98) (d := 1) (lv' := [(0, .ref (q 0)), (1, .int (x1 + 1)), (2, .int x2), (3, .int x3), (4, .int x4), (5, .int x5)]) X d_M_follow_98 1 rfl (by decide) (by decide) [1, 0, 2, 3, 4, 5] rfl ?_
            refine x_aload_n (pc := 101) X d_M_follow_101 0 rfl ?_
            refine x_get (pc := 102) X tb_M 0 16 (by decide) mw_75 (atM_0 _ _ _) rfl d_M_follow_102 ?_
            refine x_bipush (pc := 105) (v := (nI 40)) X d_M_follow_105 (by decide) ?_
            refine x_iload_n (pc := 107) X d_M_follow_107 2 rfl ?_
            refine x_imul (pc := 108) X d_M_follow_108 ?_
            refine x_iload_n (pc := 109) X d_M_follow_109 3 rfl ?_
            refine x_iadd (pc := 110) X d_M_follow_110 ?_
            refine x_iload (pc := 111) X d_M_follow_111 4 rfl ?_
            refine x_if_ne (pc := 113) (tgt := 120) X d_M_follow_113 (by decide) (fun c => ?_) (fun c => ?_)
            · have hw := hw.1 c
              refine x_iload (pc := 120) X d_M_follow_120 5 rfl ?_
              obtain ⟨h9, hw⟩ := hw
              refine x_iast (pc := 122) (ws' := (wM (zI Z) q (ua (ua σ 7 x1.toNatClampNeg x4) 8 (((nI 40) * x2) + x3).toNatClampNeg x5))) X 9 (atM_9 _ _ _) h9 (stM_9 _ _ _ _) d_M_follow_122 ?_
              refine x_iinc (pc := 123) (d := 1) (lv' := [(0, .ref (q 0)), (1, .int (x1 + 1)), (2, .int x2), (3, .int (x3 + 1)), (4, .int x4), (5, .int x5)]) X d_M_follow_123 3 rfl (by decide) (by decide) [1, 2, 3, 0, 4, 5] rfl ?_
              refine x_goto (pc := 126) (tgt := 23) X d_M_follow_126 (by decide) ?_
              refine x_drop [0, 1, 2, 3] rfl ?_
              exact hK (x1 + 1) x2 (x3 + 1) (ua (ua σ 7 x1.toNatClampNeg x4) 8 (((nI 40) * x2) + x3).toNatClampNeg x5) hw
            · have hw := hw.2 c
              refine x_iconst (pc := 116) (v := (-1)) X d_M_follow_116 (by decide) ?_
              refine x_goto (pc := 117) (tgt := 122) X d_M_follow_117 (by decide) ?_
              obtain ⟨h10, hw⟩ := hw
              refine x_iast (pc := 122) (ws' := (wM (zI Z) q (ua (ua σ 7 x1.toNatClampNeg x4) 8 (((nI 40) * x2) + x3).toNatClampNeg (-1)))) X 9 (atM_9 _ _ _) h10 (stM_9 _ _ _ _) d_M_follow_122 ?_
              refine x_iinc (pc := 123) (d := 1) (lv' := [(0, .ref (q 0)), (1, .int (x1 + 1)), (2, .int x2), (3, .int (x3 + 1)), (4, .int x4), (5, .int x5)]) X d_M_follow_123 3 rfl (by decide) (by decide) [1, 2, 3, 0, 4, 5] rfl ?_
              refine x_goto (pc := 126) (tgt := 23) X d_M_follow_126 (by decide) ?_
              refine x_drop [0, 1, 2, 3] rfl ?_
              exact hK (x1 + 1) x2 (x3 + 1) (ua (ua σ 7 x1.toNatClampNeg x4) 8 (((nI 40) * x2) + x3).toNatClampNeg (-1)) hw
          · have hw := hw.2 c
            refine x_iconst (pc := 88) (v := (-1)) X d_M_follow_88 (by decide) ?_
            exact hR _ _ _ _ d_M_follow_89 (vp_nar_int _) hw
    · have hw := hw.2 c
      refine x_aload_n (pc := 53) X d_M_follow_53 0 rfl ?_
      refine x_get (pc := 54) X tb_M 0 15 (by decide) mw_73 (atM_0 _ _ _) rfl d_M_follow_54 ?_
      refine x_iload (pc := 57) X d_M_follow_57 5 rfl ?_
      obtain ⟨h11, hw⟩ := hw
      refine x_iald (pc := 59) X 8 (atM_8 _ _ _) h11 d_M_follow_59 ?_
      refine x_iload (pc := 60) X d_M_follow_60 4 rfl ?_
      refine x_icmp_eq (pc := 62) (tgt := 71) X d_M_follow_62 (by decide) (fun c => ?_) (fun c => ?_)
      · have hw := hw.1 c
        refine x_iload (pc := 71) X d_M_follow_71 4 rfl ?_
        refine x_if_eq (pc := 73) (tgt := 101) X d_M_follow_73 (by decide) (fun c => ?_) (fun c => ?_)
        · have hw := hw.1 c
          refine x_aload_n (pc := 101) X d_M_follow_101 0 rfl ?_
          refine x_get (pc := 102) X tb_M 0 16 (by decide) mw_75 (atM_0 _ _ _) rfl d_M_follow_102 ?_
          refine x_bipush (pc := 105) (v := (nI 40)) X d_M_follow_105 (by decide) ?_
          refine x_iload_n (pc := 107) X d_M_follow_107 2 rfl ?_
          refine x_imul (pc := 108) X d_M_follow_108 ?_
          refine x_iload_n (pc := 109) X d_M_follow_109 3 rfl ?_
          refine x_iadd (pc := 110) X d_M_follow_110 ?_
          refine x_iload (pc := 111) X d_M_follow_111 4 rfl ?_
          refine x_if_ne (pc := 113) (tgt := 120) X d_M_follow_113 (by decide) (fun c => ?_) (fun c => ?_)
          · have hw := hw.1 c
            refine x_iload (pc := 120) X d_M_follow_120 5 rfl ?_
            obtain ⟨h12, hw⟩ := hw
            refine x_iast (pc := 122) (ws' := (wM (zI Z) q (ua σ 8 (((nI 40) * x2) + x3).toNatClampNeg x5))) X 9 (atM_9 _ _ _) h12 (stM_9 _ _ _ _) d_M_follow_122 ?_
            refine x_iinc (pc := 123) (d := 1) (lv' := [(0, .ref (q 0)), (1, .int x1), (2, .int x2), (3, .int (x3 + 1)), (4, .int x4), (5, .int x5)]) X d_M_follow_123 3 rfl (by decide) (by decide) [1, 2, 3, 0, 4, 5] rfl ?_
            refine x_goto (pc := 126) (tgt := 23) X d_M_follow_126 (by decide) ?_
            refine x_drop [0, 1, 2, 3] rfl ?_
            exact hK x1 x2 (x3 + 1) (ua σ 8 (((nI 40) * x2) + x3).toNatClampNeg x5) hw
          · have hw := hw.2 c
            refine x_iconst (pc := 116) (v := (-1)) X d_M_follow_116 (by decide) ?_
            refine x_goto (pc := 117) (tgt := 122) X d_M_follow_117 (by decide) ?_
            obtain ⟨h13, hw⟩ := hw
            refine x_iast (pc := 122) (ws' := (wM (zI Z) q (ua σ 8 (((nI 40) * x2) + x3).toNatClampNeg (-1)))) X 9 (atM_9 _ _ _) h13 (stM_9 _ _ _ _) d_M_follow_122 ?_
            refine x_iinc (pc := 123) (d := 1) (lv' := [(0, .ref (q 0)), (1, .int x1), (2, .int x2), (3, .int (x3 + 1)), (4, .int x4), (5, .int x5)]) X d_M_follow_123 3 rfl (by decide) (by decide) [1, 2, 3, 0, 4, 5] rfl ?_
            refine x_goto (pc := 126) (tgt := 23) X d_M_follow_126 (by decide) ?_
            refine x_drop [0, 1, 2, 3] rfl ?_
            exact hK x1 x2 (x3 + 1) (ua σ 8 (((nI 40) * x2) + x3).toNatClampNeg (-1)) hw
        · have hw := hw.2 c
          refine x_iload (pc := 76) X d_M_follow_76 5 rfl ?_
          refine x_iload_n (pc := 78) X d_M_follow_78 1 rfl ?_
          refine x_icmp_ne (pc := 79) (tgt := 101) X d_M_follow_79 (by decide) (fun c => ?_) (fun c => ?_)
          · have hw := hw.1 c
            refine x_aload_n (pc := 101) X d_M_follow_101 0 rfl ?_
            refine x_get (pc := 102) X tb_M 0 16 (by decide) mw_75 (atM_0 _ _ _) rfl d_M_follow_102 ?_
            refine x_bipush (pc := 105) (v := (nI 40)) X d_M_follow_105 (by decide) ?_
            refine x_iload_n (pc := 107) X d_M_follow_107 2 rfl ?_
            refine x_imul (pc := 108) X d_M_follow_108 ?_
            refine x_iload_n (pc := 109) X d_M_follow_109 3 rfl ?_
            refine x_iadd (pc := 110) X d_M_follow_110 ?_
            refine x_iload (pc := 111) X d_M_follow_111 4 rfl ?_
            refine x_if_ne (pc := 113) (tgt := 120) X d_M_follow_113 (by decide) (fun c => ?_) (fun c => ?_)
            · have hw := hw.1 c
              refine x_iload (pc := 120) X d_M_follow_120 5 rfl ?_
              obtain ⟨h14, hw⟩ := hw
              refine x_iast (pc := 122) (ws' := (wM (zI Z) q (ua σ 8 (((nI 40) * x2) + x3).toNatClampNeg x5))) X 9 (atM_9 _ _ _) h14 (stM_9 _ _ _ _) d_M_follow_122 ?_
              refine x_iinc (pc := 123) (d := 1) (lv' := [(0, .ref (q 0)), (1, .int x1), (2, .int x2), (3, .int (x3 + 1)), (4, .int x4), (5, .int x5)]) X d_M_follow_123 3 rfl (by decide) (by decide) [1, 2, 3, 0, 4, 5] rfl ?_
              refine x_goto (pc := 126) (tgt := 23) X d_M_follow_126 (by decide) ?_
              refine x_drop [0, 1, 2, 3] rfl ?_
              exact hK x1 x2 (x3 + 1) (ua σ 8 (((nI 40) * x2) + x3).toNatClampNeg x5) hw
            · have hw := hw.2 c
              refine x_iconst (pc := 116) (v := (-1)) X d_M_follow_116 (by decide) ?_
              refine x_goto (pc := 117) (tgt := 122) X d_M_follow_117 (by decide) ?_
              obtain ⟨h15, hw⟩ := hw
              refine x_iast (pc := 122) (ws' := (wM (zI Z) q (ua σ 8 (((nI 40) * x2) + x3).toNatClampNeg (-1)))) X 9 (atM_9 _ _ _) h15 (stM_9 _ _ _ _) d_M_follow_122 ?_
              refine x_iinc (pc := 123) (d := 1) (lv' := [(0, .ref (q 0)), (1, .int x1), (2, .int x2), (3, .int (x3 + 1)), (4, .int x4), (5, .int x5)]) X d_M_follow_123 3 rfl (by decide) (by decide) [1, 2, 3, 0, 4, 5] rfl ?_
              refine x_goto (pc := 126) (tgt := 23) X d_M_follow_126 (by decide) ?_
              refine x_drop [0, 1, 2, 3] rfl ?_
              exact hK x1 x2 (x3 + 1) (ua σ 8 (((nI 40) * x2) + x3).toNatClampNeg (-1)) hw
          · have hw := hw.2 c
            refine x_iload_n (pc := 82) X d_M_follow_82 1 rfl ?_
            refine x_bipush (pc := 83) (v := (nI 120)) X d_M_follow_83 (by decide) ?_
            refine x_icmp_ne (pc := 85) (tgt := 90) X d_M_follow_85 (by decide) (fun c => ?_) (fun c => ?_)
            · have hw := hw.1 c
              refine x_aload_n (pc := 90) X d_M_follow_90 0 rfl ?_
              refine x_get (pc := 91) X tb_M 0 15 (by decide) mw_73 (atM_0 _ _ _) rfl d_M_follow_91 ?_
              refine x_iload_n (pc := 94) X d_M_follow_94 1 rfl ?_
              refine x_iload (pc := 95) X d_M_follow_95 4 rfl ?_
              obtain ⟨h16, hw⟩ := hw
              refine x_iast (pc := 97) (ws' := (wM (zI Z) q (ua σ 7 x1.toNatClampNeg x4))) X 8 (atM_8 _ _ _) h16 (stM_8 _ _ _ _) d_M_follow_97 ?_
              refine x_iinc (pc := 98) (d := 1) (lv' := [(0, .ref (q 0)), (1, .int (x1 + 1)), (2, .int x2), (3, .int x3), (4, .int x4), (5, .int x5)]) X d_M_follow_98 1 rfl (by decide) (by decide) [1, 0, 2, 3, 4, 5] rfl ?_
              refine x_aload_n (pc := 101) X d_M_follow_101 0 rfl ?_
              refine x_get (pc := 102) X tb_M 0 16 (by decide) mw_75 (atM_0 _ _ _) rfl d_M_follow_102 ?_
              refine x_bipush (pc := 105) (v := (nI 40)) X d_M_follow_105 (by decide) ?_
              refine x_iload_n (pc := 107) X d_M_follow_107 2 rfl ?_
              refine x_imul (pc := 108) X d_M_follow_108 ?_
              refine x_iload_n (pc := 109) X d_M_follow_109 3 rfl ?_
              refine x_iadd (pc := 110) X d_M_follow_110 ?_
              refine x_iload (pc := 111) X d_M_follow_111 4 rfl ?_
              refine x_if_ne (pc := 113) (tgt := 120) X d_M_follow_113 (by decide) (fun c => ?_) (fun c => ?_)
              · have hw := hw.1 c
                refine x_iload (pc := 120) X d_M_follow_120 5 rfl ?_
                obtain ⟨h17, hw⟩ := hw
                refine x_iast (pc := 122) (ws' := (wM (zI Z) q (ua (ua σ 7 x1.toNatClampNeg x4) 8 (((nI 40) * x2) + x3).toNatClampNeg x5))) X 9 (atM_9 _ _ _) h17 (stM_9 _ _ _ _) d_M_follow_122 ?_
                refine x_iinc (pc := 123) (d := 1) (lv' := [(0, .ref (q 0)), (1, .int (x1 + 1)), (2, .int x2), (3, .int (x3 + 1)), (4, .int x4), (5, .int x5)]) X d_M_follow_123 3 rfl (by decide) (by decide) [1, 2, 3, 0, 4, 5] rfl ?_
                refine x_goto (pc := 126) (tgt := 23) X d_M_follow_126 (by decide) ?_
                refine x_drop [0, 1, 2, 3] rfl ?_
                exact hK (x1 + 1) x2 (x3 + 1) (ua (ua σ 7 x1.toNatClampNeg x4) 8 (((nI 40) * x2) + x3).toNatClampNeg x5) hw
              · have hw := hw.2 c
                refine x_iconst (pc := 116) (v := (-1)) X d_M_follow_116 (by decide) ?_
                refine x_goto (pc := 117) (tgt := 122) X d_M_follow_117 (by decide) ?_
                obtain ⟨h18, hw⟩ := hw
                refine x_iast (pc := 122) (ws' := (wM (zI Z) q (ua (ua σ 7 x1.toNatClampNeg x4) 8 (((nI 40) * x2) + x3).toNatClampNeg (-1)))) X 9 (atM_9 _ _ _) h18 (stM_9 _ _ _ _) d_M_follow_122 ?_
                refine x_iinc (pc := 123) (d := 1) (lv' := [(0, .ref (q 0)), (1, .int (x1 + 1)), (2, .int x2), (3, .int (x3 + 1)), (4, .int x4), (5, .int x5)]) X d_M_follow_123 3 rfl (by decide) (by decide) [1, 2, 3, 0, 4, 5] rfl ?_
                refine x_goto (pc := 126) (tgt := 23) X d_M_follow_126 (by decide) ?_
                refine x_drop [0, 1, 2, 3] rfl ?_
                exact hK (x1 + 1) x2 (x3 + 1) (ua (ua σ 7 x1.toNatClampNeg x4) 8 (((nI 40) * x2) + x3).toNatClampNeg (-1)) hw
            · have hw := hw.2 c
              refine x_iconst (pc := 88) (v := (-1)) X d_M_follow_88 (by decide) ?_
              exact hR _ _ _ _ d_M_follow_89 (vp_nar_int _) hw
      · have hw := hw.2 c
        refine x_iinc (pc := 65) (d := 1) (lv' := [(0, .ref (q 0)), (1, .int x1), (2, .int x2), (3, .int x3), (4, .int x4), (5, .int (x5 + 1))]) X d_M_follow_65 5 rfl (by decide) (by decide) [1, 2, 3, 4, 5, 0] rfl ?_
        refine x_goto (pc := 68) (tgt := 47) X d_M_follow_68 (by decide) ?_
        exact ih x1 x2 x3 x4 (x5 + 1) σ hw
set_option maxHeartbeats 4000000 in
set_option maxRecDepth 100000 in
theorem wL_M_follow_23 {Z : ZT} {q : Nat → Nat} {post : Int32 → St → Prop} {K : Int32 → Int32 → St → Prop} (X : Cx Z "WayTableModel" b_M_follow rm_M_follow 6) (hR : RI Z b_M_follow .int (wM (zI Z) q) post) (hK : ∀ (x1 x2 : Int32) (σ : St), K x1 x2 σ → VV Z 0 0 (wM (zI Z) q σ) [(0, .ref (q 0)), (1, .int x1), (2, .int x2)] 16 []) : ∀ (n : Nat) (x1 x2 x3 : Int32) (σ : St), L_M_follow_23 post K n x1 x2 x3 σ → VV Z 0 0 (wM (zI Z) q σ) [(0, .ref (q 0)), (1, .int x1), (2, .int x2), (3, .int x3)] 23 [] := by
  intro n
  induction n with
  | zero => intro x1 x2 x3 σ hw; exact False.elim hw
  | succ n ih =>
    intro x1 x2 x3 σ hw
    unfold L_M_follow_23 at hw
    refine x_iload_n (pc := 23) X d_M_follow_23 3 rfl ?_
    refine x_aload_n (pc := 24) X d_M_follow_24 0 rfl ?_
    refine x_get (pc := 25) X tb_M 0 2 (by decide) mw_9 (atM_0 _ _ _) rfl d_M_follow_25 ?_
    refine x_icmp_ge (pc := 28) (tgt := 129) X d_M_follow_28 (by decide) (fun c => ?_) (fun c => ?_)
    · have hw := hw.1 c
      refine x_iinc (pc := 129) (d := 1) (lv' := [(0, .ref (q 0)), (1, .int x1), (2, .int (x2 + 1)), (3, .int x3)]) X d_M_follow_129 2 rfl (by decide) (by decide) [1, 2, 0, 3] rfl ?_
      refine x_goto (pc := 132) (tgt := 16) X d_M_follow_132 (by decide) ?_
      refine x_drop [0, 1, 2] rfl ?_
      exact hK x1 (x2 + 1) σ hw
    · have hw := hw.2 c
      refine x_aload_n (pc := 31) X d_M_follow_31 0 rfl ?_
      refine x_aload_n (pc := 32) X d_M_follow_32 0 rfl ?_
      refine x_get (pc := 33) X tb_M 0 15 (by decide) mw_73 (atM_0 _ _ _) rfl d_M_follow_33 ?_
      refine x_iload_n (pc := 36) X d_M_follow_36 2 rfl ?_
      obtain ⟨h2, hw⟩ := hw
      refine x_iald (pc := 37) X 8 (atM_8 _ _ _) h2 d_M_follow_37 ?_
      refine x_iload_n (pc := 38) X d_M_follow_38 3 rfl ?_
      refine x_cvi (pc := 39) X [.int (σ.2 7 x2.toNatClampNeg), .int x3] (c_M_led (zl Z) (zD Z) (zI Z) q σ (σ.2 7 x2.toNatClampNeg) x3 _ hw) mv_M_led tb_M 0 (atM_0 _ _ _) mw_74 d_M_follow_39 rfl (Nat.le_of_ble_eq_true rfl) ⟨Nat.le_of_ble_eq_true rfl, Nat.le_of_ble_eq_true rfl⟩ ⟨rfl, rfl⟩ ⟨Nat.zero_le _, Nat.zero_le _⟩ ?_
      intro r3 σ3 hw
      refine x_istore (pc := 42) (lv' := [(0, .ref (q 0)), (1, .int x1), (2, .int x2), (3, .int x3), (4, .int r3)]) X d_M_follow_42 (by decide) [1, 2, 3, 4, 0] rfl ?_
      refine x_iconst (pc := 44) (v := 0) X d_M_follow_44 (by decide) ?_
      refine x_istore (pc := 45) (lv' := [(0, .ref (q 0)), (1, .int x1), (2, .int x2), (3, .int x3), (4, .int r3), (5, .int 0)]) X d_M_follow_45 (by decide) [1, 2, 3, 4, 5, 0] rfl ?_
      obtain ⟨n2, hw⟩ := hw
      exact wL_M_follow_47 X hR ih n2 x1 x2 x3 r3 0 σ3 hw
set_option maxHeartbeats 4000000 in
set_option maxRecDepth 100000 in
theorem wL_M_follow_16 {Z : ZT} {q : Nat → Nat} {post : Int32 → St → Prop} (X : Cx Z "WayTableModel" b_M_follow rm_M_follow 6) (hR : RI Z b_M_follow .int (wM (zI Z) q) post) : ∀ (n : Nat) (x1 x2 : Int32) (σ : St), L_M_follow_16 post n x1 x2 σ → VV Z 0 0 (wM (zI Z) q σ) [(0, .ref (q 0)), (1, .int x1), (2, .int x2)] 16 [] := by
  intro n
  induction n with
  | zero => intro x1 x2 σ hw; exact False.elim hw
  | succ n ih =>
    intro x1 x2 σ hw
    unfold L_M_follow_16 at hw
    refine x_iload_n (pc := 16) X d_M_follow_16 2 rfl ?_
    refine x_iload_n (pc := 17) X d_M_follow_17 1 rfl ?_
    refine x_icmp_ge (pc := 18) (tgt := 135) X d_M_follow_18 (by decide) (fun c => ?_) (fun c => ?_)
    · have hw := hw.1 c
      refine x_iload_n (pc := 135) X d_M_follow_135 1 rfl ?_
      exact hR _ _ _ _ d_M_follow_136 (vp_nar_int _) hw
    · have hw := hw.2 c
      refine x_iconst (pc := 21) (v := 0) X d_M_follow_21 (by decide) ?_
      refine x_istore_n (pc := 22) (lv' := [(0, .ref (q 0)), (1, .int x1), (2, .int x2), (3, .int 0)]) X d_M_follow_22 (by decide) [1, 2, 3, 0] rfl ?_
      obtain ⟨n2, hw⟩ := hw
      exact wL_M_follow_23 X hR ih n2 x1 x2 0 σ hw
set_option maxHeartbeats 4000000 in
set_option maxRecDepth 100000 in
theorem c_M_follow (l : Launch) (D : va_G) (cI : ClassId) (q : Nat → Nat) (σ : St) (post : Int32 → St → Prop) (hw : wp_M_follow σ post) : CI l D cI (wM cI q) y_M_follow b_M_follow 6 .int rm_M_follow [.ref (q 0)] σ post := by
  refine CI_of (by decide) (Nat.le_of_ble_eq_true rfl) ?_
  intro Z hZl hZD hZI X hR
  subst hZl; subst hZD; subst hZI
  unfold wp_M_follow at hw
  show VV Z 0 0 (wM (zI Z) q σ) [(0, .ref (q 0))] 0 []
  refine x_iconst (pc := 0) (v := 1) X d_M_follow_0 (by decide) ?_
  refine x_istore_n (pc := 1) (lv' := [(0, .ref (q 0)), (1, .int 1)]) X d_M_follow_1 (by decide) [1, 0] rfl ?_
  refine x_aload_n (pc := 2) X d_M_follow_2 0 rfl ?_
  refine x_get (pc := 3) X tb_M 0 15 (by decide) mw_73 (atM_0 _ _ _) rfl d_M_follow_3 ?_
  refine x_iconst (pc := 6) (v := 0) X d_M_follow_6 (by decide) ?_
  refine x_iconst (pc := 7) (v := 1) X d_M_follow_7 (by decide) ?_
  refine x_aload_n (pc := 8) X d_M_follow_8 0 rfl ?_
  refine x_get (pc := 9) X tb_M 0 3 (by decide) mw_10 (atM_0 _ _ _) rfl d_M_follow_9 ?_
  refine x_ishl (pc := 12) X d_M_follow_12 ?_
  obtain ⟨h1, hw⟩ := hw
  refine x_iast (pc := 13) (ws' := (wM (zI Z) q (ua σ 7 ((0 : Int32).toNatClampNeg) (1 <<< ((σ.1 3) &&& 31))))) X 8 (atM_8 _ _ _) h1 (stM_8 _ _ _ _) d_M_follow_13 ?_
  refine x_iconst (pc := 14) (v := 0) X d_M_follow_14 (by decide) ?_
  refine x_istore_n (pc := 15) (lv' := [(0, .ref (q 0)), (1, .int 1), (2, .int 0)]) X d_M_follow_15 (by decide) [1, 2, 0] rfl ?_
  obtain ⟨n2, hw⟩ := hw
  exact wL_M_follow_16 X hR n2 1 0 (ua σ 7 ((0 : Int32).toNatClampNeg) (1 <<< ((σ.1 3) &&& 31))) hw
