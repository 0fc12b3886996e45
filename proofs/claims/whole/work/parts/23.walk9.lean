def rm_T_rowLetter : Room := { frames := 4, cells := 0, slots := 0, locals := 91 }
set_option maxHeartbeats 4000000 in
set_option maxRecDepth 100000 in
theorem wL_T_rowLetter_41 {Z : ZT} {q : Nat → Nat} {post : Int32 → St → Prop} (X : Cx Z "WayTable$Table" b_T_rowLetter rm_T_rowLetter 9) (hR : RI Z b_T_rowLetter .int (wC (zI Z) q) post) : ∀ (n : Nat) (x1 x2 x3 x4 x5 x6 x7 x8 : Int32) (σ : St), L_T_rowLetter_41 post n x1 x2 x3 x4 x5 x6 x7 x8 σ → VV Z 0 0 (wC (zI Z) q σ) [(0, .ref (q 3)), (1, .int x1), (2, .int x2), (3, .int x3), (4, .int x4), (5, .int x5), (6, .int x6), (7, .int x7), (8, .int x8)] 41 [] := by
  intro n
  induction n with
  | zero => intro x1 x2 x3 x4 x5 x6 x7 x8 σ hw; exact False.elim hw
  | succ n ih =>
    intro x1 x2 x3 x4 x5 x6 x7 x8 σ hw
    unfold L_T_rowLetter_41 at hw
    refine x_iload (pc := 41) X d_T_rowLetter_41 8 rfl ?_
    refine x_iload_n (pc := 43) X d_T_rowLetter_43 3 rfl ?_
    refine x_icmp_ge (pc := 44) (tgt := 116) X d_T_rowLetter_44 (by decide) (fun c => ?_) (fun c => ?_)
    · have hw := hw.1 c
      refine x_iload (pc := 116) X d_T_rowLetter_116 7 rfl ?_
      exact hR _ _ _ _ d_T_rowLetter_118 (vp_nar_int _) hw
    · have hw := hw.2 c
      refine x_iload (pc := 47) X d_T_rowLetter_47 7 rfl ?_
      refine x_iconst (pc := 49) (v := (-1)) X d_T_rowLetter_49 (by decide) ?_
      refine x_icmp_eq (pc := 50) (tgt := 116) X d_T_rowLetter_50 (by decide) (fun c => ?_) (fun c => ?_)
      · have hw := hw.1 c
        refine x_iload (pc := 116) X d_T_rowLetter_116 7 rfl ?_
        exact hR _ _ _ _ d_T_rowLetter_118 (vp_nar_int _) hw
      · have hw := hw.2 c
        refine x_aload_n (pc := 53) X d_T_rowLetter_53 0 rfl ?_
        refine x_aload_n (pc := 54) X d_T_rowLetter_54 0 rfl ?_
        refine x_get (pc := 55) X tb_T 3 7 (by decide) mw_46 (atC_3 _ _ _) rfl d_T_rowLetter_55 ?_
        refine x_iload (pc := 58) X d_T_rowLetter_58 4 rfl ?_
        refine x_iload (pc := 60) X d_T_rowLetter_60 7 rfl ?_
        refine x_cvi (pc := 62) X [.ref (q 7), .int x4, .int x7] (c_T_leaderAfter_7 (zl Z) (zD Z) (zI Z) q σ x4 x7 _ hw) mv_T_leaderAfter tb_T 3 (atC_3 _ _ _) mw_51 d_T_rowLetter_62 rfl (Nat.le_of_ble_eq_true rfl) ⟨Nat.le_of_ble_eq_true rfl, Nat.le_of_ble_eq_true rfl⟩ ⟨rfl, rfl⟩ ⟨Nat.zero_le _, Nat.zero_le _⟩ ?_
        intro r5 σ5 hw
        refine x_istore (pc := 65) (lv' := [(0, .ref (q 3)), (1, .int x1), (2, .int x2), (3, .int x3), (4, .int r5), (5, .int x5), (6, .int x6), (7, .int x7), (8, .int x8)]) X d_T_rowLetter_65 (by decide) [1, 2, 3, 4, 0, 5, 6, 7, 8] rfl ?_
        refine x_aload_n (pc := 67) X d_T_rowLetter_67 0 rfl ?_
        refine x_aload_n (pc := 68) X d_T_rowLetter_68 0 rfl ?_
        refine x_get (pc := 69) X tb_T 3 7 (by decide) mw_46 (atC_3 _ _ _) rfl d_T_rowLetter_69 ?_
        refine x_iload (pc := 72) X d_T_rowLetter_72 5 rfl ?_
        refine x_iload (pc := 74) X d_T_rowLetter_74 7 rfl ?_
        refine x_cvi (pc := 76) X [.ref (q 7), .int x5, .int x7] (c_T_leaderAfter_7 (zl Z) (zD Z) (zI Z) q σ5 x5 x7 _ hw) mv_T_leaderAfter tb_T 3 (atC_3 _ _ _) mw_51 d_T_rowLetter_76 rfl (Nat.le_of_ble_eq_true rfl) ⟨Nat.le_of_ble_eq_true rfl, Nat.le_of_ble_eq_true rfl⟩ ⟨rfl, rfl⟩ ⟨Nat.zero_le _, Nat.zero_le _⟩ ?_
        intro r6 σ6 hw
        refine x_istore (pc := 79) (lv' := [(0, .ref (q 3)), (1, .int x1), (2, .int x2), (3, .int x3), (4, .int r5), (5, .int r6), (6, .int x6), (7, .int x7), (8, .int x8)]) X d_T_rowLetter_79 (by decide) [1, 2, 3, 4, 5, 0, 6, 7, 8] rfl ?_
        refine x_iload (pc := 81) X d_T_rowLetter_81 4 rfl ?_
        refine x_iconst (pc := 83) (v := (-1)) X d_T_rowLetter_83 (by decide) ?_
        refine x_icmp_eq (pc := 84) (tgt := 93) X d_T_rowLetter_84 (by decide) (fun c => ?_) (fun c => ?_)
        · have hw := hw.1 c
          refine x_iconst (pc := 93) (v := (-1)) X d_T_rowLetter_93 (by decide) ?_
          exact hR _ _ _ _ d_T_rowLetter_94 (vp_nar_int _) hw
        · have hw := hw.2 c
          refine x_iload (pc := 87) X d_T_rowLetter_87 5 rfl ?_
          refine x_iconst (pc := 89) (v := (-1)) X d_T_rowLetter_89 (by decide) ?_
          refine x_icmp_ne (pc := 90) (tgt := 95) X d_T_rowLetter_90 (by decide) (fun c => ?_) (fun c => ?_)
          · have hw := hw.1 c
            refine x_iinc (pc := 95) (d := (-1)) (lv' := [(0, .ref (q 3)), (1, .int x1), (2, .int x2), (3, .int x3), (4, .int r5), (5, .int r6), (6, .int (x6 + (-1))), (7, .int x7), (8, .int x8)]) X d_T_rowLetter_95 6 rfl (by decide) (by decide) [1, 2, 3, 4, 5, 6, 0, 7, 8] rfl ?_
            refine x_aload_n (pc := 98) X d_T_rowLetter_98 0 rfl ?_
            refine x_iload (pc := 99) X d_T_rowLetter_99 4 rfl ?_
            refine x_iload (pc := 101) X d_T_rowLetter_101 5 rfl ?_
            refine x_iload (pc := 103) X d_T_rowLetter_103 6 rfl ?_
            refine x_cvi (pc := 105) X [.int r5, .int r6, .int (x6 + (-1))] (c_T_leastLetter (zl Z) (zD Z) (zI Z) q σ6 r5 r6 (x6 + (-1)) _ hw) mv_T_leastLetter tb_T 3 (atC_3 _ _ _) mw_102 d_T_rowLetter_105 rfl (Nat.le_of_ble_eq_true rfl) ⟨Nat.le_of_ble_eq_true rfl, Nat.le_of_ble_eq_true rfl⟩ ⟨rfl, rfl⟩ ⟨Nat.zero_le _, Nat.zero_le _⟩ ?_
            intro r7 σ7 hw
            refine x_istore (pc := 108) (lv' := [(0, .ref (q 3)), (1, .int x1), (2, .int x2), (3, .int x3), (4, .int r5), (5, .int r6), (6, .int (x6 + (-1))), (7, .int r7), (8, .int x8)]) X d_T_rowLetter_108 (by decide) [1, 2, 3, 4, 5, 6, 7, 0, 8] rfl ?_
            refine x_iinc (pc := 110) (d := 1) (lv' := [(0, .ref (q 3)), (1, .int x1), (2, .int x2), (3, .int x3), (4, .int r5), (5, .int r6), (6, .int (x6 + (-1))), (7, .int r7), (8, .int (x8 + 1))]) X d_T_rowLetter_110 8 rfl (by decide) (by decide) [1, 2, 3, 4, 5, 6, 7, 8, 0] rfl ?_
            refine x_goto (pc := 113) (tgt := 41) X d_T_rowLetter_113 (by decide) ?_
            exact ih x1 x2 x3 r5 r6 (x6 + (-1)) r7 (x8 + 1) σ7 hw
          · have hw := hw.2 c
            refine x_iconst (pc := 93) (v := (-1)) X d_T_rowLetter_93 (by decide) ?_
            exact hR _ _ _ _ d_T_rowLetter_94 (vp_nar_int _) hw
set_option maxHeartbeats 4000000 in
set_option maxRecDepth 100000 in
theorem c_T_rowLetter (l : Launch) (D : va_G) (cI : ClassId) (q : Nat → Nat) (σ : St) (x1 x2 x3 : Int32) (post : Int32 → St → Prop) (hw : wp_T_rowLetter x1 x2 x3 σ post) : CI l D cI (wC cI q) y_T_rowLetter b_T_rowLetter 9 .int rm_T_rowLetter [.ref (q 3), .int x1, .int x2, .int x3] σ post := by
  refine CI_of (by decide) (Nat.le_of_ble_eq_true rfl) ?_
  intro Z hZl hZD hZI X hR
  subst hZl; subst hZD; subst hZI
  unfold wp_T_rowLetter at hw
  show VV Z 0 0 (wC (zI Z) q σ) [(0, .ref (q 3)), (1, .int x1), (2, .int x2), (3, .int x3)] 0 []
  refine x_aload_n (pc := 0) X d_T_rowLetter_0 0 rfl ?_
  refine x_get (pc := 1) X tb_T 3 10 (by decide) mw_68 (atC_3 _ _ _) rfl d_T_rowLetter_1 ?_
  refine x_iload_n (pc := 4) X d_T_rowLetter_4 1 rfl ?_
  obtain ⟨h1, hw⟩ := hw
  refine x_iald (pc := 5) X 10 (atC_10 _ _ _) h1 d_T_rowLetter_5 ?_
  refine x_istore (pc := 6) (lv' := [(0, .ref (q 3)), (1, .int x1), (2, .int x2), (3, .int x3), (4, .int (σ.2 7 x1.toNatClampNeg))]) X d_T_rowLetter_6 (by decide) [1, 2, 3, 4, 0] rfl ?_
  refine x_aload_n (pc := 8) X d_T_rowLetter_8 0 rfl ?_
  refine x_get (pc := 9) X tb_T 3 10 (by decide) mw_68 (atC_3 _ _ _) rfl d_T_rowLetter_9 ?_
  refine x_iload_n (pc := 12) X d_T_rowLetter_12 2 rfl ?_
  obtain ⟨h2, hw⟩ := hw
  refine x_iald (pc := 13) X 10 (atC_10 _ _ _) h2 d_T_rowLetter_13 ?_
  refine x_istore (pc := 14) (lv' := [(0, .ref (q 3)), (1, .int x1), (2, .int x2), (3, .int x3), (4, .int (σ.2 7 x1.toNatClampNeg)), (5, .int (σ.2 7 x2.toNatClampNeg))]) X d_T_rowLetter_14 (by decide) [1, 2, 3, 4, 5, 0] rfl ?_
  refine x_aload_n (pc := 16) X d_T_rowLetter_16 0 rfl ?_
  refine x_iload_n (pc := 17) X d_T_rowLetter_17 1 rfl ?_
  refine x_iload_n (pc := 18) X d_T_rowLetter_18 2 rfl ?_
  refine x_cvi (pc := 19) X [.int x1, .int x2] (c_T_rowLength (zl Z) (zD Z) (zI Z) q σ x1 x2 _ hw) mv_T_rowLength tb_T 3 (atC_3 _ _ _) mw_100 d_T_rowLetter_19 rfl (Nat.le_of_ble_eq_true rfl) ⟨Nat.le_of_ble_eq_true rfl, Nat.le_of_ble_eq_true rfl⟩ ⟨rfl, rfl⟩ ⟨Nat.zero_le _, Nat.zero_le _⟩ ?_
  intro r3 σ3 hw
  refine x_iconst (pc := 22) (v := 1) X d_T_rowLetter_22 (by decide) ?_
  refine x_isub (pc := 23) X d_T_rowLetter_23 ?_
  refine x_istore (pc := 24) (lv' := [(0, .ref (q 3)), (1, .int x1), (2, .int x2), (3, .int x3), (4, .int (σ.2 7 x1.toNatClampNeg)), (5, .int (σ.2 7 x2.toNatClampNeg)), (6, .int (r3 - 1))]) X d_T_rowLetter_24 (by decide) [1, 2, 3, 4, 5, 6, 0] rfl ?_
  refine x_aload_n (pc := 26) X d_T_rowLetter_26 0 rfl ?_
  refine x_iload (pc := 27) X d_T_rowLetter_27 4 rfl ?_
  refine x_iload (pc := 29) X d_T_rowLetter_29 5 rfl ?_
  refine x_iload (pc := 31) X d_T_rowLetter_31 6 rfl ?_
  refine x_cvi (pc := 33) X [.int (σ.2 7 x1.toNatClampNeg), .int (σ.2 7 x2.toNatClampNeg), .int (r3 - 1)] (c_T_leastLetter (zl Z) (zD Z) (zI Z) q σ3 (σ.2 7 x1.toNatClampNeg) (σ.2 7 x2.toNatClampNeg) (r3 - 1) _ hw) mv_T_leastLetter tb_T 3 (atC_3 _ _ _) mw_102 d_T_rowLetter_33 rfl (Nat.le_of_ble_eq_true rfl) ⟨Nat.le_of_ble_eq_true rfl, Nat.le_of_ble_eq_true rfl⟩ ⟨rfl, rfl⟩ ⟨Nat.zero_le _, Nat.zero_le _⟩ ?_
  intro r4 σ4 hw
  refine x_istore (pc := 36) (lv' := [(0, .ref (q 3)), (1, .int x1), (2, .int x2), (3, .int x3), (4, .int (σ.2 7 x1.toNatClampNeg)), (5, .int (σ.2 7 x2.toNatClampNeg)), (6, .int (r3 - 1)), (7, .int r4)]) X d_T_rowLetter_36 (by decide) [1, 2, 3, 4, 5, 6, 7, 0] rfl ?_
  refine x_iconst (pc := 38) (v := 0) X d_T_rowLetter_38 (by decide) ?_
  refine x_istore (pc := 39) (lv' := [(0, .ref (q 3)), (1, .int x1), (2, .int x2), (3, .int x3), (4, .int (σ.2 7 x1.toNatClampNeg)), (5, .int (σ.2 7 x2.toNatClampNeg)), (6, .int (r3 - 1)), (7, .int r4), (8, .int 0)]) X d_T_rowLetter_39 (by decide) [1, 2, 3, 4, 5, 6, 7, 8, 0] rfl ?_
  obtain ⟨n2, hw⟩ := hw
  exact wL_T_rowLetter_41 X hR n2 x1 x2 x3 (σ.2 7 x1.toNatClampNeg) (σ.2 7 x2.toNatClampNeg) (r3 - 1) r4 0 σ4 hw
def rm_W_apartBy : Room := { frames := 5, cells := 0, slots := 0, locals := 119 }
set_option maxHeartbeats 4000000 in
set_option maxRecDepth 100000 in
theorem c_W_apartBy (l : Launch) (D : va_G) (cI : ClassId) (q : Nat → Nat) (σ : St) (x1 x2 x3 : Int32) (post : Int32 → St → Prop) (hw : wp_W_apartBy x1 x2 x3 σ post) : CI l D cI (wC cI q) y_W_apartBy b_W_apartBy 4 .int rm_W_apartBy [.ref (q 0), .int x1, .int x2, .int x3] σ post := by
  refine CI_of (by decide) (Nat.le_of_ble_eq_true rfl) ?_
  intro Z hZl hZD hZI X hR
  subst hZl; subst hZD; subst hZI
  unfold wp_W_apartBy at hw
  show VV Z 0 0 (wC (zI Z) q σ) [(0, .ref (q 0)), (1, .int x1), (2, .int x2), (3, .int x3)] 0 []
  refine x_iload_n (pc := 0) X d_W_apartBy_0 3 rfl ?_
  refine x_if_lt (pc := 1) (tgt := 14) X d_W_apartBy_1 (by decide) (fun c => ?_) (fun c => ?_)
  · have hw := hw.1 c
    refine x_iconst (pc := 14) (v := (-1)) X d_W_apartBy_14 (by decide) ?_
    exact hR _ _ _ _ d_W_apartBy_15 (vp_nar_int _) hw
  · have hw := hw.2 c
    refine x_iload_n (pc := 4) X d_W_apartBy_4 3 rfl ?_
    refine x_aload_n (pc := 5) X d_W_apartBy_5 0 rfl ?_
    refine x_iload_n (pc := 6) X d_W_apartBy_6 1 rfl ?_
    refine x_iload_n (pc := 7) X d_W_apartBy_7 2 rfl ?_
    refine x_cvi (pc := 8) X [.int x1, .int x2] (c_W_apart (zl Z) (zD Z) (zI Z) q σ x1 x2 _ hw) mv_W_apart tb_W 0 (atC_0 _ _ _) mw_99 d_W_apartBy_8 rfl (Nat.le_of_ble_eq_true rfl) ⟨Nat.le_of_ble_eq_true rfl, Nat.le_of_ble_eq_true rfl⟩ ⟨rfl, rfl⟩ ⟨Nat.zero_le _, Nat.zero_le _⟩ ?_
    intro r1 σ1 hw
    refine x_icmp_lt (pc := 11) (tgt := 16) X d_W_apartBy_11 (by decide) (fun c => ?_) (fun c => ?_)
    · have hw := hw.1 c
      refine x_aload_n (pc := 16) X d_W_apartBy_16 0 rfl ?_
      refine x_get (pc := 17) X tb_W 0 1 (by decide) mw_30 (atC_0 _ _ _) rfl d_W_apartBy_17 ?_
      refine x_iload_n (pc := 20) X d_W_apartBy_20 1 rfl ?_
      refine x_iload_n (pc := 21) X d_W_apartBy_21 2 rfl ?_
      refine x_iload_n (pc := 22) X d_W_apartBy_22 3 rfl ?_
      refine x_cni (pc := 23) X [.int x1, .int x2, .int x3] (c_T_rowLetter (zl Z) (zD Z) (zI Z) q σ1 x1 x2 x3 _ hw) mv_T_rowLetter tb_T 3 (atC_3 _ _ _) nw_103 d_W_apartBy_23 rfl (Nat.le_of_ble_eq_true rfl) ⟨Nat.le_of_ble_eq_true rfl, Nat.le_of_ble_eq_true rfl⟩ ⟨rfl, rfl⟩ ⟨Nat.zero_le _, Nat.zero_le _⟩ ?_
      intro r2 σ2 hw
      exact hR _ _ _ _ d_W_apartBy_26 (vp_nar_int _) hw
    · have hw := hw.2 c
      refine x_iconst (pc := 14) (v := (-1)) X d_W_apartBy_14 (by decide) ?_
      exact hR _ _ _ _ d_W_apartBy_15 (vp_nar_int _) hw
def rm_M_apartBy : Room := { frames := 1, cells := 0, slots := 0, locals := 21 }
set_option maxHeartbeats 4000000 in
set_option maxRecDepth 100000 in
theorem wL_M_apartBy_71 {Z : ZT} {q : Nat → Nat} {post : Int32 → St → Prop} (X : Cx Z "WayTableModel" b_M_apartBy rm_M_apartBy 8) (hR : RI Z b_M_apartBy .int (wM (zI Z) q) post) : ∀ (n : Nat) (x1 x2 x3 x4 x5 x6 : Int32) (σ : St), L_M_apartBy_71 post n x1 x2 x3 x4 x5 x6 σ → VV Z 0 0 (wM (zI Z) q σ) [(0, .ref (q 0)), (1, .int x1), (2, .int x2), (3, .int x3), (4, .int x4), (5, .int x5), (6, .int x6)] 71 [] := by
  intro n
  induction n with
  | zero => intro x1 x2 x3 x4 x5 x6 σ hw; exact False.elim hw
  | succ n ih =>
    intro x1 x2 x3 x4 x5 x6 σ hw
    unfold L_M_apartBy_71 at hw
    refine x_iload (pc := 71) X d_M_apartBy_71 6 rfl ?_
    refine x_iload_n (pc := 73) X d_M_apartBy_73 3 rfl ?_
    refine x_icmp_ge (pc := 74) (tgt := 128) X d_M_apartBy_74 (by decide) (fun c => ?_) (fun c => ?_)
    · have hw := hw.1 c
      refine x_aload_n (pc := 128) X d_M_apartBy_128 0 rfl ?_
      refine x_get (pc := 129) X tb_M 0 10 (by decide) mw_80 (atM_0 _ _ _) rfl d_M_apartBy_129 ?_
      refine x_bipush (pc := 132) (v := (nI 120)) X d_M_apartBy_132 (by decide) ?_
      refine x_iload (pc := 134) X d_M_apartBy_134 4 rfl ?_
      refine x_imul (pc := 136) X d_M_apartBy_136 ?_
      refine x_iload (pc := 137) X d_M_apartBy_137 5 rfl ?_
      refine x_iadd (pc := 139) X d_M_apartBy_139 ?_
      obtain ⟨h8, hw⟩ := hw
      refine x_iald (pc := 140) X 5 (atM_5 _ _ _) h8 d_M_apartBy_140 ?_
      exact hR _ _ _ _ d_M_apartBy_141 (vp_nar_int _) hw
    · have hw := hw.2 c
      refine x_aload_n (pc := 77) X d_M_apartBy_77 0 rfl ?_
      refine x_get (pc := 78) X tb_M 0 10 (by decide) mw_80 (atM_0 _ _ _) rfl d_M_apartBy_78 ?_
      refine x_bipush (pc := 81) (v := (nI 120)) X d_M_apartBy_81 (by decide) ?_
      refine x_iload (pc := 83) X d_M_apartBy_83 4 rfl ?_
      refine x_imul (pc := 85) X d_M_apartBy_85 ?_
      refine x_iload (pc := 86) X d_M_apartBy_86 5 rfl ?_
      refine x_iadd (pc := 88) X d_M_apartBy_88 ?_
      obtain ⟨h9, hw⟩ := hw
      refine x_iald (pc := 89) X 5 (atM_5 _ _ _) h9 d_M_apartBy_89 ?_
      refine x_istore (pc := 90) (lv' := [(0, .ref (q 0)), (1, .int x1), (2, .int x2), (3, .int x3), (4, .int x4), (5, .int x5), (6, .int x6), (7, .int (σ.2 4 (((nI 120) * x4) + x5).toNatClampNeg))]) X d_M_apartBy_90 (by decide) [1, 2, 3, 4, 5, 6, 7, 0] rfl ?_
      refine x_aload_n (pc := 92) X d_M_apartBy_92 0 rfl ?_
      refine x_get (pc := 93) X tb_M 0 8 (by decide) mw_81 (atM_0 _ _ _) rfl d_M_apartBy_93 ?_
      refine x_bipush (pc := 96) (v := (nI 40)) X d_M_apartBy_96 (by decide) ?_
      refine x_iload (pc := 98) X d_M_apartBy_98 4 rfl ?_
      refine x_imul (pc := 100) X d_M_apartBy_100 ?_
      refine x_iload (pc := 101) X d_M_apartBy_101 7 rfl ?_
      refine x_iadd (pc := 103) X d_M_apartBy_103 ?_
      obtain ⟨h10, hw⟩ := hw
      refine x_iald (pc := 104) X 3 (atM_3 _ _ _) h10 d_M_apartBy_104 ?_
      refine x_istore (pc := 105) (lv' := [(0, .ref (q 0)), (1, .int x1), (2, .int x2), (3, .int x3), (4, .int (σ.2 2 (((nI 40) * x4) + (σ.2 4 (((nI 120) * x4) + x5).toNatClampNeg)).toNatClampNeg)), (5, .int x5), (6, .int x6), (7, .int (σ.2 4 (((nI 120) * x4) + x5).toNatClampNeg))]) X d_M_apartBy_105 (by decide) [1, 2, 3, 4, 0, 5, 6, 7] rfl ?_
      refine x_aload_n (pc := 107) X d_M_apartBy_107 0 rfl ?_
      refine x_get (pc := 108) X tb_M 0 8 (by decide) mw_81 (atM_0 _ _ _) rfl d_M_apartBy_108 ?_
      refine x_bipush (pc := 111) (v := (nI 40)) X d_M_apartBy_111 (by decide) ?_
      refine x_iload (pc := 113) X d_M_apartBy_113 5 rfl ?_
      refine x_imul (pc := 115) X d_M_apartBy_115 ?_
      refine x_iload (pc := 116) X d_M_apartBy_116 7 rfl ?_
      refine x_iadd (pc := 118) X d_M_apartBy_118 ?_
      obtain ⟨h11, hw⟩ := hw
      refine x_iald (pc := 119) X 3 (atM_3 _ _ _) h11 d_M_apartBy_119 ?_
      refine x_istore (pc := 120) (lv' := [(0, .ref (q 0)), (1, .int x1), (2, .int x2), (3, .int x3), (4, .int (σ.2 2 (((nI 40) * x4) + (σ.2 4 (((nI 120) * x4) + x5).toNatClampNeg)).toNatClampNeg)), (5, .int (σ.2 2 (((nI 40) * x5) + (σ.2 4 (((nI 120) * x4) + x5).toNatClampNeg)).toNatClampNeg)), (6, .int x6), (7, .int (σ.2 4 (((nI 120) * x4) + x5).toNatClampNeg))]) X d_M_apartBy_120 (by decide) [1, 2, 3, 4, 5, 0, 6, 7] rfl ?_
      refine x_iinc (pc := 122) (d := 1) (lv' := [(0, .ref (q 0)), (1, .int x1), (2, .int x2), (3, .int x3), (4, .int (σ.2 2 (((nI 40) * x4) + (σ.2 4 (((nI 120) * x4) + x5).toNatClampNeg)).toNatClampNeg)), (5, .int (σ.2 2 (((nI 40) * x5) + (σ.2 4 (((nI 120) * x4) + x5).toNatClampNeg)).toNatClampNeg)), (6, .int (x6 + 1)), (7, .int (σ.2 4 (((nI 120) * x4) + x5).toNatClampNeg))]) X d_M_apartBy_122 6 rfl (by decide) (by decide) [1, 2, 3, 4, 5, 6, 0, 7] rfl ?_
      refine x_goto (pc := 125) (tgt := 71) X d_M_apartBy_125 (by decide) ?_
      refine x_drop [0, 1, 2, 3, 4, 5, 6] rfl ?_
      exact ih x1 x2 x3 (σ.2 2 (((nI 40) * x4) + (σ.2 4 (((nI 120) * x4) + x5).toNatClampNeg)).toNatClampNeg) (σ.2 2 (((nI 40) * x5) + (σ.2 4 (((nI 120) * x4) + x5).toNatClampNeg)).toNatClampNeg) (x6 + 1) σ hw
set_option maxHeartbeats 4000000 in
set_option maxRecDepth 100000 in
theorem c_M_apartBy (l : Launch) (D : va_G) (cI : ClassId) (q : Nat → Nat) (σ : St) (x1 x2 x3 : Int32) (post : Int32 → St → Prop) (hw : wp_M_apartBy x1 x2 x3 σ post) : CI l D cI (wM cI q) y_M_apartBy b_M_apartBy 8 .int rm_M_apartBy [.ref (q 0), .int x1, .int x2, .int x3] σ post := by
  refine CI_of (by decide) (Nat.le_of_ble_eq_true rfl) ?_
  intro Z hZl hZD hZI X hR
  subst hZl; subst hZD; subst hZI
  unfold wp_M_apartBy at hw
  show VV Z 0 0 (wM (zI Z) q σ) [(0, .ref (q 0)), (1, .int x1), (2, .int x2), (3, .int x3)] 0 []
  refine x_aload_n (pc := 0) X d_M_apartBy_0 0 rfl ?_
  refine x_iconst (pc := 1) (v := 0) X d_M_apartBy_1 (by decide) ?_
  refine x_put (pc := 2) (ws' := (wM (zI Z) q (us σ 0 0))) X tb_M 0 0 (by decide) mw_7 (atM_0 _ _ _) rfl pI (Nat.le_of_ble_eq_true rfl) (ptM_0 _ _ _ _) d_M_apartBy_2 ?_
  refine x_aload_n (pc := 5) X d_M_apartBy_5 0 rfl ?_
  refine x_iload_n (pc := 6) X d_M_apartBy_6 1 rfl ?_
  refine x_cvi (pc := 7) X [.int x1] (c_M_isState (zl Z) (zD Z) (zI Z) q (us σ 0 0) x1 _ hw) mv_M_isState tb_M 0 (atM_0 _ _ _) mw_94 d_M_apartBy_7 rfl (Nat.le_of_ble_eq_true rfl) ⟨Nat.le_of_ble_eq_true rfl, Nat.le_of_ble_eq_true rfl⟩ ⟨rfl, rfl⟩ ⟨Nat.zero_le _, Nat.zero_le _⟩ ?_
  intro r1 σ1 hw
  refine x_if_eq (pc := 10) (tgt := 50) X d_M_apartBy_10 (by decide) (fun c => ?_) (fun c => ?_)
  · have hw := hw.1 c
    refine x_iconst (pc := 50) (v := (-1)) X d_M_apartBy_50 (by decide) ?_
    exact hR _ _ _ _ d_M_apartBy_51 (vp_nar_int _) hw
  · have hw := hw.2 c
    refine x_aload_n (pc := 13) X d_M_apartBy_13 0 rfl ?_
    refine x_iload_n (pc := 14) X d_M_apartBy_14 2 rfl ?_
    refine x_cvi (pc := 15) X [.int x2] (c_M_isState (zl Z) (zD Z) (zI Z) q σ1 x2 _ hw) mv_M_isState tb_M 0 (atM_0 _ _ _) mw_94 d_M_apartBy_15 rfl (Nat.le_of_ble_eq_true rfl) ⟨Nat.le_of_ble_eq_true rfl, Nat.le_of_ble_eq_true rfl⟩ ⟨rfl, rfl⟩ ⟨Nat.zero_le _, Nat.zero_le _⟩ ?_
    intro r2 σ2 hw
    refine x_if_eq (pc := 18) (tgt := 50) X d_M_apartBy_18 (by decide) (fun c => ?_) (fun c => ?_)
    · have hw := hw.1 c
      refine x_iconst (pc := 50) (v := (-1)) X d_M_apartBy_50 (by decide) ?_
      exact hR _ _ _ _ d_M_apartBy_51 (vp_nar_int _) hw
    · have hw := hw.2 c
      refine x_iload_n (pc := 21) X d_M_apartBy_21 3 rfl ?_
      refine x_if_lt (pc := 22) (tgt := 50) X d_M_apartBy_22 (by decide) (fun c => ?_) (fun c => ?_)
      · have hw := hw.1 c
        refine x_iconst (pc := 50) (v := (-1)) X d_M_apartBy_50 (by decide) ?_
        exact hR _ _ _ _ d_M_apartBy_51 (vp_nar_int _) hw
      · have hw := hw.2 c
        refine x_iload_n (pc := 25) X d_M_apartBy_25 3 rfl ?_
        refine x_aload_n (pc := 26) X d_M_apartBy_26 0 rfl ?_
        refine x_get (pc := 27) X tb_M 0 9 (by decide) mw_79 (atM_0 _ _ _) rfl d_M_apartBy_27 ?_
        refine x_bipush (pc := 30) (v := (nI 120)) X d_M_apartBy_30 (by decide) ?_
        refine x_aload_n (pc := 32) X d_M_apartBy_32 0 rfl ?_
        refine x_get (pc := 33) X tb_M 0 12 (by decide) mw_84 (atM_0 _ _ _) rfl d_M_apartBy_33 ?_
        refine x_iload_n (pc := 36) X d_M_apartBy_36 1 rfl ?_
        obtain ⟨h3, hw⟩ := hw
        refine x_iald (pc := 37) X 7 (atM_7 _ _ _) h3 d_M_apartBy_37 ?_
        refine x_imul (pc := 38) X d_M_apartBy_38 ?_
        refine x_aload_n (pc := 39) X d_M_apartBy_39 0 rfl ?_
        refine x_get (pc := 40) X tb_M 0 12 (by decide) mw_84 (atM_0 _ _ _) rfl d_M_apartBy_40 ?_
        refine x_iload_n (pc := 43) X d_M_apartBy_43 2 rfl ?_
        obtain ⟨h4, hw⟩ := hw
        refine x_iald (pc := 44) X 7 (atM_7 _ _ _) h4 d_M_apartBy_44 ?_
        refine x_iadd (pc := 45) X d_M_apartBy_45 ?_
        obtain ⟨h5, hw⟩ := hw
        refine x_iald (pc := 46) X 4 (atM_4 _ _ _) h5 d_M_apartBy_46 ?_
        refine x_icmp_lt (pc := 47) (tgt := 52) X d_M_apartBy_47 (by decide) (fun c => ?_) (fun c => ?_)
        · have hw := hw.1 c
          refine x_aload_n (pc := 52) X d_M_apartBy_52 0 rfl ?_
          refine x_get (pc := 53) X tb_M 0 12 (by decide) mw_84 (atM_0 _ _ _) rfl d_M_apartBy_53 ?_
          refine x_iload_n (pc := 56) X d_M_apartBy_56 1 rfl ?_
          obtain ⟨h6, hw⟩ := hw
          refine x_iald (pc := 57) X 7 (atM_7 _ _ _) h6 d_M_apartBy_57 ?_
          refine x_istore (pc := 58) (lv' := [(0, .ref (q 0)), (1, .int x1), (2, .int x2), (3, .int x3), (4, .int (σ2.2 6 x1.toNatClampNeg))]) X d_M_apartBy_58 (by decide) [1, 2, 3, 4, 0] rfl ?_
          refine x_aload_n (pc := 60) X d_M_apartBy_60 0 rfl ?_
          refine x_get (pc := 61) X tb_M 0 12 (by decide) mw_84 (atM_0 _ _ _) rfl d_M_apartBy_61 ?_
          refine x_iload_n (pc := 64) X d_M_apartBy_64 2 rfl ?_
          obtain ⟨h7, hw⟩ := hw
          refine x_iald (pc := 65) X 7 (atM_7 _ _ _) h7 d_M_apartBy_65 ?_
          refine x_istore (pc := 66) (lv' := [(0, .ref (q 0)), (1, .int x1), (2, .int x2), (3, .int x3), (4, .int (σ2.2 6 x1.toNatClampNeg)), (5, .int (σ2.2 6 x2.toNatClampNeg))]) X d_M_apartBy_66 (by decide) [1, 2, 3, 4, 5, 0] rfl ?_
          refine x_iconst (pc := 68) (v := 0) X d_M_apartBy_68 (by decide) ?_
          refine x_istore (pc := 69) (lv' := [(0, .ref (q 0)), (1, .int x1), (2, .int x2), (3, .int x3), (4, .int (σ2.2 6 x1.toNatClampNeg)), (5, .int (σ2.2 6 x2.toNatClampNeg)), (6, .int 0)]) X d_M_apartBy_69 (by decide) [1, 2, 3, 4, 5, 6, 0] rfl ?_
          obtain ⟨n2, hw⟩ := hw
          exact wL_M_apartBy_71 X hR n2 x1 x2 x3 (σ2.2 6 x1.toNatClampNeg) (σ2.2 6 x2.toNatClampNeg) 0 σ2 hw
        · have hw := hw.2 c
          refine x_iconst (pc := 50) (v := (-1)) X d_M_apartBy_50 (by decide) ?_
          exact hR _ _ _ _ d_M_apartBy_51 (vp_nar_int _) hw
def rm_W_is : Room := { frames := 2, cells := 0, slots := 0, locals := 44 }
set_option maxHeartbeats 4000000 in
set_option maxRecDepth 100000 in
theorem c_W_is (l : Launch) (D : va_G) (cI : ClassId) (q : Nat → Nat) (σ : St) (x1 x2 x3 : Int32) (post : Int32 → St → Prop) (hw : wp_W_is x1 x2 x3 σ post) : CI l D cI (wC cI q) y_W_is b_W_is 4 .boolean rm_W_is [.ref (q 0), .int x1, .int x2, .int x3] σ post := by
  refine CI_of (by decide) (Nat.le_of_ble_eq_true rfl) ?_
  intro Z hZl hZD hZI X hR
  subst hZl; subst hZD; subst hZI
  unfold wp_W_is at hw
  show VV Z 0 0 (wC (zI Z) q σ) [(0, .ref (q 0)), (1, .int x1), (2, .int x2), (3, .int x3)] 0 []
  refine x_aload_n (pc := 0) X d_W_is_0 0 rfl ?_
  refine x_get (pc := 1) X tb_W 0 0 (by decide) mw_0 (atC_0 _ _ _) rfl d_W_is_1 ?_
  refine x_iload_n (pc := 4) X d_W_is_4 1 rfl ?_
  refine x_iload_n (pc := 5) X d_W_is_5 2 rfl ?_
  refine x_iload_n (pc := 6) X d_W_is_6 3 rfl ?_
  refine x_cni (pc := 7) X [.int x1, .int x2, .int x3] (c_G_canHold (zl Z) (zD Z) (zI Z) q σ x1 x2 x3 _ hw) mv_G_canHold tb_G 1 (atC_1 _ _ _) nw_14 d_W_is_7 rfl (Nat.le_of_ble_eq_true rfl) ⟨Nat.le_of_ble_eq_true rfl, Nat.le_of_ble_eq_true rfl⟩ ⟨rfl, rfl⟩ ⟨Nat.zero_le _, Nat.zero_le _⟩ ?_
  intro r1 σ1 hw
  refine x_if_eq (pc := 10) (tgt := 30) X d_W_is_10 (by decide) (fun c => ?_) (fun c => ?_)
  · have hw := hw.1 c
    refine x_iconst (pc := 30) (v := 0) X d_W_is_30 (by decide) ?_
    exact hR _ _ _ _ d_W_is_31 rfl hw
  · have hw := hw.2 c
    refine x_aload_n (pc := 13) X d_W_is_13 0 rfl ?_
    refine x_get (pc := 14) X tb_W 0 0 (by decide) mw_0 (atC_0 _ _ _) rfl d_W_is_14 ?_
    refine x_iload_n (pc := 17) X d_W_is_17 1 rfl ?_
    refine x_iload_n (pc := 18) X d_W_is_18 2 rfl ?_
    refine x_iload_n (pc := 19) X d_W_is_19 3 rfl ?_
    refine x_cni (pc := 20) X [.int x1, .int x2, .int x3] (c_G_holds (zl Z) (zD Z) (zI Z) q σ1 x1 x2 x3 _ hw) mv_G_holds tb_G 1 (atC_1 _ _ _) nw_16 d_W_is_20 rfl (Nat.le_of_ble_eq_true rfl) ⟨Nat.le_of_ble_eq_true rfl, Nat.le_of_ble_eq_true rfl⟩ ⟨rfl, rfl⟩ ⟨Nat.zero_le _, Nat.zero_le _⟩ ?_
    intro r2 σ2 hw
    refine x_if_eq (pc := 23) (tgt := 30) X d_W_is_23 (by decide) (fun c => ?_) (fun c => ?_)
    · have hw := hw.1 c
      refine x_iconst (pc := 30) (v := 0) X d_W_is_30 (by decide) ?_
      exact hR _ _ _ _ d_W_is_31 rfl hw
    · have hw := hw.2 c
      refine x_iconst (pc := 26) (v := 1) X d_W_is_26 (by decide) ?_
      refine x_goto (pc := 27) (tgt := 31) X d_W_is_27 (by decide) ?_
      exact hR _ _ _ _ d_W_is_31 rfl hw
def rm_I_bitCount1 : Room := { frames := 0, cells := 0, slots := 0, locals := 0 }
set_option maxHeartbeats 4000000 in
set_option maxRecDepth 100000 in
theorem c_I_bitCount1 (l : Launch) (D : va_G) (cI : ClassId) (q : Nat → Nat) (σ : St) (x0 : Int32) (post : Int32 → St → Prop) (hw : wp_I_bitCount1 x0 σ post) : CI l D cI (wC cI q) y_I_bitCount1 b_I_bitCount1 1 .int rm_I_bitCount1 [.int x0] σ post := by
  refine CI_of (by decide) (Nat.le_of_ble_eq_true rfl) ?_
  intro Z hZl hZD hZI X hR
  subst hZl; subst hZD; subst hZI
  unfold wp_I_bitCount1 at hw
  show VV Z 0 0 (wC (zI Z) q σ) [(0, .int x0)] 0 []
  refine x_iload_n (pc := 0) X d_I_bitCount1_0 0 rfl ?_
  refine x_iload_n (pc := 1) X d_I_bitCount1_1 0 rfl ?_
  refine x_iconst (pc := 2) (v := 1) X d_I_bitCount1_2 (by decide) ?_
  refine x_iushr (pc := 3) X d_I_bitCount1_3 ?_
  refine x_ldcw (pc := 4) (v := (1431655765 : Int32)) X mw_104 d_I_bitCount1_4 ?_
  refine x_iand (pc := 7) X d_I_bitCount1_7 ?_
  refine x_isub (pc := 8) X d_I_bitCount1_8 ?_
  refine x_istore_n (pc := 9) (lv' := [(0, .int (x0 - ((ush x0 1) &&& (1431655765 : Int32))))]) X d_I_bitCount1_9 (by decide) [0] rfl ?_
  refine x_iload_n (pc := 10) X d_I_bitCount1_10 0 rfl ?_
  refine x_ldcw (pc := 11) (v := (858993459 : Int32)) X mw_105 d_I_bitCount1_11 ?_
  refine x_iand (pc := 14) X d_I_bitCount1_14 ?_
  refine x_iload_n (pc := 15) X d_I_bitCount1_15 0 rfl ?_
  refine x_iconst (pc := 16) (v := (nI 2)) X d_I_bitCount1_16 (by decide) ?_
  refine x_iushr (pc := 17) X d_I_bitCount1_17 ?_
  refine x_ldcw (pc := 18) (v := (858993459 : Int32)) X mw_105 d_I_bitCount1_18 ?_
  refine x_iand (pc := 21) X d_I_bitCount1_21 ?_
  refine x_iadd (pc := 22) X d_I_bitCount1_22 ?_
  refine x_topi (fun y1 e1 => ?_)
  have hw := hw y1 e1
  refine x_istore_n (pc := 23) (lv' := [(0, .int y1)]) X d_I_bitCount1_23 (by decide) [0] rfl ?_
  refine x_iload_n (pc := 24) X d_I_bitCount1_24 0 rfl ?_
  refine x_iload_n (pc := 25) X d_I_bitCount1_25 0 rfl ?_
  refine x_iconst (pc := 26) (v := (nI 4)) X d_I_bitCount1_26 (by decide) ?_
  refine x_iushr (pc := 27) X d_I_bitCount1_27 ?_
  refine x_iadd (pc := 28) X d_I_bitCount1_28 ?_
  refine x_ldcw (pc := 29) (v := (252645135 : Int32)) X mw_106 d_I_bitCount1_29 ?_
  refine x_iand (pc := 32) X d_I_bitCount1_32 ?_
  refine x_istore_n (pc := 33) (lv' := [(0, .int ((y1 + (ush y1 (nI 4))) &&& (252645135 : Int32)))]) X d_I_bitCount1_33 (by decide) [0] rfl ?_
  refine x_iload_n (pc := 34) X d_I_bitCount1_34 0 rfl ?_
  refine x_iload_n (pc := 35) X d_I_bitCount1_35 0 rfl ?_
  refine x_bipush (pc := 36) (v := (nI 8)) X d_I_bitCount1_36 (by decide) ?_
  refine x_iushr (pc := 38) X d_I_bitCount1_38 ?_
  refine x_iadd (pc := 39) X d_I_bitCount1_39 ?_
  refine x_topi (fun y2 e2 => ?_)
  have hw := hw y2 e2
  refine x_istore_n (pc := 40) (lv' := [(0, .int y2)]) X d_I_bitCount1_40 (by decide) [0] rfl ?_
  refine x_iload_n (pc := 41) X d_I_bitCount1_41 0 rfl ?_
  refine x_iload_n (pc := 42) X d_I_bitCount1_42 0 rfl ?_
  refine x_bipush (pc := 43) (v := (nI 16)) X d_I_bitCount1_43 (by decide) ?_
  refine x_iushr (pc := 45) X d_I_bitCount1_45 ?_
  refine x_iadd (pc := 46) X d_I_bitCount1_46 ?_
  refine x_istore_n (pc := 47) (lv' := [(0, .int (y2 + (ush y2 (nI 16))))]) X d_I_bitCount1_47 (by decide) [0] rfl ?_
  refine x_iload_n (pc := 48) X d_I_bitCount1_48 0 rfl ?_
  refine x_bipush (pc := 49) (v := (nI 63)) X d_I_bitCount1_49 (by decide) ?_
  refine x_iand (pc := 51) X d_I_bitCount1_51 ?_
  exact hR _ _ _ _ d_I_bitCount1_52 (vp_nar_int _) hw
def rm_G_countWays : Room := { frames := 1, cells := 0, slots := 0, locals := 20 }
set_option maxHeartbeats 4000000 in
set_option maxRecDepth 100000 in
theorem wL_G_countWays_4 {Z : ZT} {q : Nat → Nat} {post : Int32 → St → Prop} (X : Cx Z "WayTable$Graph" b_G_countWays rm_G_countWays 3) (hR : RI Z b_G_countWays .int (wC (zI Z) q) post) : ∀ (n : Nat) (x1 x2 : Int32) (σ : St), L_G_countWays_4 post n x1 x2 σ → VV Z 0 0 (wC (zI Z) q σ) [(0, .ref (q 1)), (1, .int x1), (2, .int x2)] 4 [] := by
  intro n
  induction n with
  | zero => intro x1 x2 σ hw; exact False.elim hw
  | succ n ih =>
    intro x1 x2 σ hw
    unfold L_G_countWays_4 at hw
    refine x_iload_n (pc := 4) X d_G_countWays_4 2 rfl ?_
    refine x_aload_n (pc := 5) X d_G_countWays_5 0 rfl ?_
    refine x_get (pc := 6) X tb_G 1 3 (by decide) mw_4 (atC_1 _ _ _) rfl d_G_countWays_6 ?_
    refine x_alen (pc := 9) X 2 (atC_2 _ _ _) d_G_countWays_9 ?_
    refine x_icmp_ge (pc := 10) (tgt := 31) X d_G_countWays_10 (by decide) (fun c => ?_) (fun c => ?_)
    · have hw := hw.1 c
      refine x_iload_n (pc := 31) X d_G_countWays_31 1 rfl ?_
      exact hR _ _ _ _ d_G_countWays_32 (vp_nar_int _) hw
    · have hw := hw.2 c
      refine x_iload_n (pc := 13) X d_G_countWays_13 1 rfl ?_
      refine x_aload_n (pc := 14) X d_G_countWays_14 0 rfl ?_
      refine x_get (pc := 15) X tb_G 1 3 (by decide) mw_4 (atC_1 _ _ _) rfl d_G_countWays_15 ?_
      refine x_iload_n (pc := 18) X d_G_countWays_18 2 rfl ?_
      obtain ⟨h1, hw⟩ := hw
      refine x_iald (pc := 19) X 2 (atC_2 _ _ _) h1 d_G_countWays_19 ?_
      refine x_csi (pc := 20) X [.int (σ.2 0 x2.toNatClampNeg)] (c_I_bitCount1 (zl Z) (zD Z) (zI Z) q σ (σ.2 0 x2.toNatClampNeg) _ hw) ms_I_bitCount1 mw_107 d_G_countWays_20 rfl (Nat.le_of_ble_eq_true rfl) ⟨Nat.le_of_ble_eq_true rfl, Nat.le_of_ble_eq_true rfl⟩ ⟨rfl, rfl⟩ ⟨Nat.zero_le _, Nat.zero_le _⟩ ?_
      intro r2 σ2 hw
      refine x_iadd (pc := 23) X d_G_countWays_23 ?_
      refine x_istore_n (pc := 24) (lv' := [(0, .ref (q 1)), (1, .int (x1 + r2)), (2, .int x2)]) X d_G_countWays_24 (by decide) [1, 0, 2] rfl ?_
      refine x_iinc (pc := 25) (d := 1) (lv' := [(0, .ref (q 1)), (1, .int (x1 + r2)), (2, .int (x2 + 1))]) X d_G_countWays_25 2 rfl (by decide) (by decide) [1, 2, 0] rfl ?_
      refine x_goto (pc := 28) (tgt := 4) X d_G_countWays_28 (by decide) ?_
      exact ih (x1 + r2) (x2 + 1) σ2 hw
set_option maxHeartbeats 4000000 in
set_option maxRecDepth 100000 in
theorem c_G_countWays (l : Launch) (D : va_G) (cI : ClassId) (q : Nat → Nat) (σ : St) (post : Int32 → St → Prop) (hw : wp_G_countWays σ post) : CI l D cI (wC cI q) y_G_countWays b_G_countWays 3 .int rm_G_countWays [.ref (q 1)] σ post := by
  refine CI_of (by decide) (Nat.le_of_ble_eq_true rfl) ?_
  intro Z hZl hZD hZI X hR
  subst hZl; subst hZD; subst hZI
  unfold wp_G_countWays at hw
  show VV Z 0 0 (wC (zI Z) q σ) [(0, .ref (q 1))] 0 []
  refine x_iconst (pc := 0) (v := 0) X d_G_countWays_0 (by decide) ?_
  refine x_istore_n (pc := 1) (lv' := [(0, .ref (q 1)), (1, .int 0)]) X d_G_countWays_1 (by decide) [1, 0] rfl ?_
  refine x_iconst (pc := 2) (v := 0) X d_G_countWays_2 (by decide) ?_
  refine x_istore_n (pc := 3) (lv' := [(0, .ref (q 1)), (1, .int 0), (2, .int 0)]) X d_G_countWays_3 (by decide) [1, 2, 0] rfl ?_
  obtain ⟨n2, hw⟩ := hw
  exact wL_G_countWays_4 X hR n2 0 0 σ hw
def rm_T_countGoing : Room := { frames := 1, cells := 0, slots := 0, locals := 23 }
set_option maxHeartbeats 4000000 in
set_option maxRecDepth 100000 in
theorem wL_T_countGoing_14 {Z : ZT} {q : Nat → Nat} {post : Int32 → St → Prop} {K : Int32 → Int32 → St → Prop} (X : Cx Z "WayTable$Table" b_T_countGoing rm_T_countGoing 4) (hR : RI Z b_T_countGoing .int (wC (zI Z) q) post) (hK : ∀ (x1 x2 : Int32) (σ : St), K x1 x2 σ → VV Z 0 0 (wC (zI Z) q σ) [(0, .ref (q 3)), (1, .int x1), (2, .int x2)] 4 []) : ∀ (n : Nat) (x1 x2 x3 : Int32) (σ : St), L_T_countGoing_14 post K n x1 x2 x3 σ → VV Z 0 0 (wC (zI Z) q σ) [(0, .ref (q 3)), (1, .int x1), (2, .int x2), (3, .int x3)] 14 [] := by
  intro n
  induction n with
  | zero => intro x1 x2 x3 σ hw; exact False.elim hw
  | succ n ih =>
    intro x1 x2 x3 σ hw
    unfold L_T_countGoing_14 at hw
    refine x_iload_n (pc := 14) X d_T_countGoing_14 3 rfl ?_
    refine x_aload_n (pc := 15) X d_T_countGoing_15 0 rfl ?_
    refine x_get (pc := 16) X tb_T 3 0 (by decide) mw_37 (atC_3 _ _ _) rfl d_T_countGoing_16 ?_
    refine x_icmp_ge (pc := 19) (tgt := 41) X d_T_countGoing_19 (by decide) (fun c => ?_) (fun c => ?_)
    · have hw := hw.1 c
      refine x_iinc (pc := 41) (d := 1) (lv' := [(0, .ref (q 3)), (1, .int x1), (2, .int (x2 + 1)), (3, .int x3)]) X d_T_countGoing_41 2 rfl (by decide) (by decide) [1, 2, 0, 3] rfl ?_
      refine x_goto (pc := 44) (tgt := 4) X d_T_countGoing_44 (by decide) ?_
      refine x_drop [0, 1, 2] rfl ?_
      exact hK x1 (x2 + 1) σ hw
    · have hw := hw.2 c
      refine x_aload_n (pc := 22) X d_T_countGoing_22 0 rfl ?_
      refine x_iload_n (pc := 23) X d_T_countGoing_23 2 rfl ?_
      refine x_iload_n (pc := 24) X d_T_countGoing_24 3 rfl ?_
      refine x_cvi (pc := 25) X [.int x2, .int x3] (c_T_stateAfter (zl Z) (zD Z) (zI Z) q σ x2 x3 _ hw) mv_T_stateAfter tb_T 3 (atC_3 _ _ _) mw_111 d_T_countGoing_25 rfl (Nat.le_of_ble_eq_true rfl) ⟨Nat.le_of_ble_eq_true rfl, Nat.le_of_ble_eq_true rfl⟩ ⟨rfl, rfl⟩ ⟨Nat.zero_le _, Nat.zero_le _⟩ ?_
      intro r1 σ1 hw
      refine x_iconst (pc := 28) (v := (-1)) X d_T_countGoing_28 (by decide) ?_
      refine x_icmp_eq (pc := 29) (tgt := 35) X d_T_countGoing_29 (by decide) (fun c => ?_) (fun c => ?_)
      · have hw := hw.1 c
        refine x_iinc (pc := 35) (d := 1) (lv' := [(0, .ref (q 3)), (1, .int x1), (2, .int x2), (3, .int (x3 + 1))]) X d_T_countGoing_35 3 rfl (by decide) (by decide) [1, 2, 3, 0] rfl ?_
        refine x_goto (pc := 38) (tgt := 14) X d_T_countGoing_38 (by decide) ?_
        exact ih x1 x2 (x3 + 1) σ1 hw
      · have hw := hw.2 c
        refine x_iinc (pc := 32) (d := 1) (lv' := [(0, .ref (q 3)), (1, .int (x1 + 1)), (2, .int x2), (3, .int x3)]) X d_T_countGoing_32 1 rfl (by decide) (by decide) [1, 0, 2, 3] rfl ?_
        refine x_iinc (pc := 35) (d := 1) (lv' := [(0, .ref (q 3)), (1, .int (x1 + 1)), (2, .int x2), (3, .int (x3 + 1))]) X d_T_countGoing_35 3 rfl (by decide) (by decide) [1, 2, 3, 0] rfl ?_
        refine x_goto (pc := 38) (tgt := 14) X d_T_countGoing_38 (by decide) ?_
        exact ih (x1 + 1) x2 (x3 + 1) σ1 hw
set_option maxHeartbeats 4000000 in
set_option maxRecDepth 100000 in
theorem wL_T_countGoing_4 {Z : ZT} {q : Nat → Nat} {post : Int32 → St → Prop} (X : Cx Z "WayTable$Table" b_T_countGoing rm_T_countGoing 4) (hR : RI Z b_T_countGoing .int (wC (zI Z) q) post) : ∀ (n : Nat) (x1 x2 : Int32) (σ : St), L_T_countGoing_4 post n x1 x2 σ → VV Z 0 0 (wC (zI Z) q σ) [(0, .ref (q 3)), (1, .int x1), (2, .int x2)] 4 [] := by
  intro n
  induction n with
  | zero => intro x1 x2 σ hw; exact False.elim hw
  | succ n ih =>
    intro x1 x2 σ hw
    unfold L_T_countGoing_4 at hw
    refine x_iload_n (pc := 4) X d_T_countGoing_4 2 rfl ?_
    refine x_aload_n (pc := 5) X d_T_countGoing_5 0 rfl ?_
    refine x_get (pc := 6) X tb_T 3 2 (by decide) mw_66 (atC_3 _ _ _) rfl d_T_countGoing_6 ?_
    refine x_icmp_ge (pc := 9) (tgt := 47) X d_T_countGoing_9 (by decide) (fun c => ?_) (fun c => ?_)
    · have hw := hw.1 c
      refine x_iload_n (pc := 47) X d_T_countGoing_47 1 rfl ?_
      exact hR _ _ _ _ d_T_countGoing_48 (vp_nar_int _) hw
    · have hw := hw.2 c
      refine x_iconst (pc := 12) (v := 0) X d_T_countGoing_12 (by decide) ?_
      refine x_istore_n (pc := 13) (lv' := [(0, .ref (q 3)), (1, .int x1), (2, .int x2), (3, .int 0)]) X d_T_countGoing_13 (by decide) [1, 2, 3, 0] rfl ?_
      obtain ⟨n2, hw⟩ := hw
      exact wL_T_countGoing_14 X hR ih n2 x1 x2 0 σ hw
set_option maxHeartbeats 4000000 in
set_option maxRecDepth 100000 in
theorem c_T_countGoing (l : Launch) (D : va_G) (cI : ClassId) (q : Nat → Nat) (σ : St) (post : Int32 → St → Prop) (hw : wp_T_countGoing σ post) : CI l D cI (wC cI q) y_T_countGoing b_T_countGoing 4 .int rm_T_countGoing [.ref (q 3)] σ post := by
  refine CI_of (by decide) (Nat.le_of_ble_eq_true rfl) ?_
  intro Z hZl hZD hZI X hR
  subst hZl; subst hZD; subst hZI
  unfold wp_T_countGoing at hw
  show VV Z 0 0 (wC (zI Z) q σ) [(0, .ref (q 3))] 0 []
  refine x_iconst (pc := 0) (v := 0) X d_T_countGoing_0 (by decide) ?_
  refine x_istore_n (pc := 1) (lv' := [(0, .ref (q 3)), (1, .int 0)]) X d_T_countGoing_1 (by decide) [1, 0] rfl ?_
  refine x_iconst (pc := 2) (v := 0) X d_T_countGoing_2 (by decide) ?_
  refine x_istore_n (pc := 3) (lv' := [(0, .ref (q 3)), (1, .int 0), (2, .int 0)]) X d_T_countGoing_3 (by decide) [1, 2, 0] rfl ?_
  obtain ⟨n2, hw⟩ := hw
  exact wL_T_countGoing_4 X hR n2 0 0 σ hw
def rm_W_look : Room := { frames := 2, cells := 0, slots := 0, locals := 46 }
set_option maxHeartbeats 4000000 in
set_option maxRecDepth 100000 in
theorem c_W_look (l : Launch) (D : va_G) (cI : ClassId) (q : Nat → Nat) (σ : St) (x1 : Int32) (post : Int32 → St → Prop) (hw : wp_W_look x1 σ post) : CI l D cI (wC cI q) y_W_look b_W_look 2 .int rm_W_look [.ref (q 0), .int x1] σ post := by
  refine CI_of (by decide) (Nat.le_of_ble_eq_true rfl) ?_
  intro Z hZl hZD hZI X hR
  subst hZl; subst hZD; subst hZI
  unfold wp_W_look at hw
  show VV Z 0 0 (wC (zI Z) q σ) [(0, .ref (q 0)), (1, .int x1)] 0 []
  refine x_iload_n (pc := 0) X d_W_look_0 1 rfl ?_
  refine x_table (pc := 1) (N := 10) (dt := 133) X (fun j => [56, 64, 72, 80, 88, 96, 104, 112, 120, 128].getD j 0) d_W_look_1 (by decide) (by decide) (by decide) (by decide) (fun j hj hx => ?_) (fun hx => ?_)
  · rcases (show j = 0 ∨ j = 1 ∨ j = 2 ∨ j = 3 ∨ j = 4 ∨ j = 5 ∨ j = 6 ∨ j = 7 ∨ j = 8 ∨ j = 9 by omega) with rfl | rfl | rfl | rfl | rfl | rfl | rfl | rfl | rfl | rfl
    · have hw := hw.1 hx
      show VV Z 0 0 (wC (zI Z) q σ) [(0, .ref (q 0)), (1, .int x1)] 56 []
      refine x_aload_n (pc := 56) X d_W_look_56 0 rfl ?_
      refine x_get (pc := 57) X tb_W 0 0 (by decide) mw_0 (atC_0 _ _ _) rfl d_W_look_57 ?_
      refine x_getN (pc := 60) X tb_G 1 0 (by decide) nw_23 (atC_1 _ _ _) rfl d_W_look_60 ?_
      exact hR _ _ _ _ d_W_look_63 (vp_nar_int _) hw
    · have hw := hw.2.1 hx
      show VV Z 0 0 (wC (zI Z) q σ) [(0, .ref (q 0)), (1, .int x1)] 64 []
      refine x_aload_n (pc := 64) X d_W_look_64 0 rfl ?_
      refine x_get (pc := 65) X tb_W 0 0 (by decide) mw_0 (atC_0 _ _ _) rfl d_W_look_65 ?_
      refine x_getN (pc := 68) X tb_G 1 1 (by decide) nw_25 (atC_1 _ _ _) rfl d_W_look_68 ?_
      exact hR _ _ _ _ d_W_look_71 (vp_nar_int _) hw
    · have hw := hw.2.2.1 hx
      show VV Z 0 0 (wC (zI Z) q σ) [(0, .ref (q 0)), (1, .int x1)] 72 []
      refine x_aload_n (pc := 72) X d_W_look_72 0 rfl ?_
      refine x_get (pc := 73) X tb_W 0 0 (by decide) mw_0 (atC_0 _ _ _) rfl d_W_look_73 ?_
      refine x_cni (pc := 76) X [] (c_G_countWays (zl Z) (zD Z) (zI Z) q σ _ hw) mv_G_countWays tb_G 1 (atC_1 _ _ _) nw_108 d_W_look_76 rfl (Nat.le_of_ble_eq_true rfl) ⟨Nat.le_of_ble_eq_true rfl, Nat.le_of_ble_eq_true rfl⟩ ⟨rfl, rfl⟩ ⟨Nat.zero_le _, Nat.zero_le _⟩ ?_
      intro r1 σ1 hw
      exact hR _ _ _ _ d_W_look_79 (vp_nar_int _) hw
    · have hw := hw.2.2.2.1 hx
      show VV Z 0 0 (wC (zI Z) q σ) [(0, .ref (q 0)), (1, .int x1)] 80 []
      refine x_aload_n (pc := 80) X d_W_look_80 0 rfl ?_
      refine x_get (pc := 81) X tb_W 0 0 (by decide) mw_0 (atC_0 _ _ _) rfl d_W_look_81 ?_
      refine x_getN (pc := 84) X tb_G 1 2 (by decide) nw_29 (atC_1 _ _ _) rfl d_W_look_84 ?_
      exact hR _ _ _ _ d_W_look_87 (vp_nar_int _) hw
    · have hw := hw.2.2.2.2.1 hx
      show VV Z 0 0 (wC (zI Z) q σ) [(0, .ref (q 0)), (1, .int x1)] 88 []
      refine x_aload_n (pc := 88) X d_W_look_88 0 rfl ?_
      refine x_get (pc := 89) X tb_W 0 1 (by decide) mw_30 (atC_0 _ _ _) rfl d_W_look_89 ?_
      refine x_getN (pc := 92) X tb_T 3 1 (by decide) nw_109 (atC_3 _ _ _) rfl d_W_look_92 ?_
      exact hR _ _ _ _ d_W_look_95 (vp_nar_int _) hw
    · have hw := hw.2.2.2.2.2.1 hx
      show VV Z 0 0 (wC (zI Z) q σ) [(0, .ref (q 0)), (1, .int x1)] 96 []
      refine x_aload_n (pc := 96) X d_W_look_96 0 rfl ?_
      refine x_get (pc := 97) X tb_W 0 1 (by decide) mw_30 (atC_0 _ _ _) rfl d_W_look_97 ?_
      refine x_getN (pc := 100) X tb_T 3 2 (by decide) nw_72 (atC_3 _ _ _) rfl d_W_look_100 ?_
      exact hR _ _ _ _ d_W_look_103 (vp_nar_int _) hw
    · have hw := hw.2.2.2.2.2.2.1 hx
      show VV Z 0 0 (wC (zI Z) q σ) [(0, .ref (q 0)), (1, .int x1)] 104 []
      refine x_aload_n (pc := 104) X d_W_look_104 0 rfl ?_
      refine x_get (pc := 105) X tb_W 0 1 (by decide) mw_30 (atC_0 _ _ _) rfl d_W_look_105 ?_
      refine x_getN (pc := 108) X tb_T 3 0 (by decide) nw_110 (atC_3 _ _ _) rfl d_W_look_108 ?_
      exact hR _ _ _ _ d_W_look_111 (vp_nar_int _) hw
    · have hw := hw.2.2.2.2.2.2.2.1 hx
      show VV Z 0 0 (wC (zI Z) q σ) [(0, .ref (q 0)), (1, .int x1)] 112 []
      refine x_aload_n (pc := 112) X d_W_look_112 0 rfl ?_
      refine x_get (pc := 113) X tb_W 0 1 (by decide) mw_30 (atC_0 _ _ _) rfl d_W_look_113 ?_
      refine x_cni (pc := 116) X [] (c_T_countGoing (zl Z) (zD Z) (zI Z) q σ _ hw) mv_T_countGoing tb_T 3 (atC_3 _ _ _) nw_112 d_W_look_116 rfl (Nat.le_of_ble_eq_true rfl) ⟨Nat.le_of_ble_eq_true rfl, Nat.le_of_ble_eq_true rfl⟩ ⟨rfl, rfl⟩ ⟨Nat.zero_le _, Nat.zero_le _⟩ ?_
      intro r2 σ2 hw
      exact hR _ _ _ _ d_W_look_119 (vp_nar_int _) hw
    · have hw := hw.2.2.2.2.2.2.2.2.1 hx
      show VV Z 0 0 (wC (zI Z) q σ) [(0, .ref (q 0)), (1, .int x1)] 120 []
      refine x_aload_n (pc := 120) X d_W_look_120 0 rfl ?_
      refine x_get (pc := 121) X tb_W 0 1 (by decide) mw_30 (atC_0 _ _ _) rfl d_W_look_121 ?_
      refine x_getN (pc := 124) X tb_T 3 3 (by decide) nw_113 (atC_3 _ _ _) rfl d_W_look_124 ?_
      exact hR _ _ _ _ d_W_look_127 (vp_nar_int _) hw
    · have hw := hw.2.2.2.2.2.2.2.2.2.1 hx
      show VV Z 0 0 (wC (zI Z) q σ) [(0, .ref (q 0)), (1, .int x1)] 128 []
      refine x_aload_n (pc := 128) X d_W_look_128 0 rfl ?_
      refine x_get (pc := 129) X tb_W 0 2 (by decide) mw_71 (atC_0 _ _ _) rfl d_W_look_129 ?_
      exact hR _ _ _ _ d_W_look_132 (vp_nar_int _) hw
  · have hw := hw.2.2.2.2.2.2.2.2.2.2 hx
    refine x_iconst (pc := 133) (v := (-1)) X d_W_look_133 (by decide) ?_
    exact hR _ _ _ _ d_W_look_134 (vp_nar_int _) hw
