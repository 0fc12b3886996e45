def rm_M_turn : Room := { frames := 0, cells := 0, slots := 0, locals := 0 }
set_option maxHeartbeats 4000000 in
set_option maxRecDepth 100000 in
theorem wL_M_turn_27 {Z : ZT} {q : Nat → Nat} {post : St → Prop} {K : Int32 → Int32 → St → Prop} (X : Cx Z "WayTableModel" b_M_turn rm_M_turn 6) (hR : RV Z b_M_turn (wM (zI Z) q) post) (hK : ∀ (x1 x2 : Int32) (σ : St), K x1 x2 σ → VV Z 0 0 (wM (zI Z) q σ) [(0, .ref (q 0)), (1, .int x1), (2, .int x2)] 17 []) : ∀ (n : Nat) (x1 x2 x3 : Int32) (σ : St), L_M_turn_27 post K n x1 x2 x3 σ → VV Z 0 0 (wM (zI Z) q σ) [(0, .ref (q 0)), (1, .int x1), (2, .int x2), (3, .int x3)] 27 [] := by
  intro n
  induction n with
  | zero => intro x1 x2 x3 σ hw; exact False.elim hw
  | succ n ih =>
    intro x1 x2 x3 σ hw
    unfold L_M_turn_27 at hw
    refine x_iload_n (pc := 27) X d_M_turn_27 3 rfl ?_
    refine x_iload_n (pc := 28) X d_M_turn_28 2 rfl ?_
    refine x_icmp_ge (pc := 29) (tgt := 113) X d_M_turn_29 (by decide) (fun c => ?_) (fun c => ?_)
    · have hw := hw.1 c
      refine x_iinc (pc := 113) (d := 1) (lv' := [(0, .ref (q 0)), (1, .int x1), (2, .int (x2 + 1)), (3, .int x3)]) X d_M_turn_113 2 rfl (by decide) (by decide) [1, 2, 0, 3] rfl ?_
      refine x_goto (pc := 116) (tgt := 17) X d_M_turn_116 (by decide) ?_
      refine x_drop [0, 1, 2] rfl ?_
      exact hK x1 (x2 + 1) σ hw
    · have hw := hw.2 c
      refine x_aload_n (pc := 32) X d_M_turn_32 0 rfl ?_
      refine x_get (pc := 33) X tb_M 0 4 (by decide) mw_11 (atM_0 _ _ _) rfl d_M_turn_33 ?_
      refine x_bipush (pc := 36) (v := (nI 24)) X d_M_turn_36 (by decide) ?_
      refine x_iload_n (pc := 38) X d_M_turn_38 1 rfl ?_
      refine x_imul (pc := 39) X d_M_turn_39 ?_
      refine x_iload_n (pc := 40) X d_M_turn_40 2 rfl ?_
      refine x_iadd (pc := 41) X d_M_turn_41 ?_
      obtain ⟨h1, hw⟩ := hw
      refine x_iald (pc := 42) X 1 (atM_1 _ _ _) h1 d_M_turn_42 ?_
      refine x_iload_n (pc := 43) X d_M_turn_43 3 rfl ?_
      refine x_ishr (pc := 44) X d_M_turn_44 ?_
      refine x_iconst (pc := 45) (v := 1) X d_M_turn_45 (by decide) ?_
      refine x_iand (pc := 46) X d_M_turn_46 ?_
      refine x_istore (pc := 47) (lv' := [(0, .ref (q 0)), (1, .int x1), (2, .int x2), (3, .int x3), (4, .int (((σ.2 0 (((nI 24) * x1) + x2).toNatClampNeg) >>> (x3 &&& 31)) &&& 1))]) X d_M_turn_47 (by decide) [1, 2, 3, 4, 0] rfl ?_
      refine x_aload_n (pc := 49) X d_M_turn_49 0 rfl ?_
      refine x_get (pc := 50) X tb_M 0 4 (by decide) mw_11 (atM_0 _ _ _) rfl d_M_turn_50 ?_
      refine x_bipush (pc := 53) (v := (nI 24)) X d_M_turn_53 (by decide) ?_
      refine x_iload_n (pc := 55) X d_M_turn_55 1 rfl ?_
      refine x_imul (pc := 56) X d_M_turn_56 ?_
      refine x_iload_n (pc := 57) X d_M_turn_57 3 rfl ?_
      refine x_iadd (pc := 58) X d_M_turn_58 ?_
      obtain ⟨h2, hw⟩ := hw
      refine x_iald (pc := 59) X 1 (atM_1 _ _ _) h2 d_M_turn_59 ?_
      refine x_iload_n (pc := 60) X d_M_turn_60 2 rfl ?_
      refine x_ishr (pc := 61) X d_M_turn_61 ?_
      refine x_iconst (pc := 62) (v := 1) X d_M_turn_62 (by decide) ?_
      refine x_iand (pc := 63) X d_M_turn_63 ?_
      refine x_istore (pc := 64) (lv' := [(0, .ref (q 0)), (1, .int x1), (2, .int x2), (3, .int x3), (4, .int (((σ.2 0 (((nI 24) * x1) + x2).toNatClampNeg) >>> (x3 &&& 31)) &&& 1)), (5, .int (((σ.2 0 (((nI 24) * x1) + x3).toNatClampNeg) >>> (x2 &&& 31)) &&& 1))]) X d_M_turn_64 (by decide) [1, 2, 3, 4, 5, 0] rfl ?_
      refine x_iload (pc := 66) X d_M_turn_66 4 rfl ?_
      refine x_iload (pc := 68) X d_M_turn_68 5 rfl ?_
      refine x_icmp_eq (pc := 70) (tgt := 107) X d_M_turn_70 (by decide) (fun c => ?_) (fun c => ?_)
      · have hw := hw.1 c
        refine x_iinc (pc := 107) (d := 1) (lv' := [(0, .ref (q 0)), (1, .int x1), (2, .int x2), (3, .int (x3 + 1)), (4, .int (((σ.2 0 (((nI 24) * x1) + x2).toNatClampNeg) >>> (x3 &&& 31)) &&& 1)), (5, .int (((σ.2 0 (((nI 24) * x1) + x3).toNatClampNeg) >>> (x2 &&& 31)) &&& 1))]) X d_M_turn_107 3 rfl (by decide) (by decide) [1, 2, 3, 0, 4, 5] rfl ?_
        refine x_goto (pc := 110) (tgt := 27) X d_M_turn_110 (by decide) ?_
        refine x_drop [0, 1, 2, 3] rfl ?_
        exact ih x1 x2 (x3 + 1) σ hw
      · have hw := hw.2 c
        refine x_aload_n (pc := 73) X d_M_turn_73 0 rfl ?_
        refine x_get (pc := 74) X tb_M 0 4 (by decide) mw_11 (atM_0 _ _ _) rfl d_M_turn_74 ?_
        refine x_bipush (pc := 77) (v := (nI 24)) X d_M_turn_77 (by decide) ?_
        refine x_iload_n (pc := 79) X d_M_turn_79 1 rfl ?_
        refine x_imul (pc := 80) X d_M_turn_80 ?_
        refine x_iload_n (pc := 81) X d_M_turn_81 2 rfl ?_
        refine x_iadd (pc := 82) X d_M_turn_82 ?_
        refine x_dup2 (pc := 83) X d_M_turn_83 rfl rfl ?_
        obtain ⟨h3, hw⟩ := hw
        refine x_iald (pc := 84) X 1 (atM_1 _ _ _) h3 d_M_turn_84 ?_
        refine x_iconst (pc := 85) (v := 1) X d_M_turn_85 (by decide) ?_
        refine x_iload_n (pc := 86) X d_M_turn_86 3 rfl ?_
        refine x_ishl (pc := 87) X d_M_turn_87 ?_
        refine x_ixor (pc := 88) X d_M_turn_88 ?_
        obtain ⟨h4, hw⟩ := hw
        refine x_iast (pc := 89) (ws' := (wM (zI Z) q (ua σ 0 (((nI 24) * x1) + x2).toNatClampNeg ((σ.2 0 (((nI 24) * x1) + x2).toNatClampNeg) ^^^ (1 <<< (x3 &&& 31)))))) X 1 (atM_1 _ _ _) h4 (stM_1 _ _ _ _) d_M_turn_89 ?_
        refine x_aload_n (pc := 90) X d_M_turn_90 0 rfl ?_
        refine x_get (pc := 91) X tb_M 0 4 (by decide) mw_11 (atM_0 _ _ _) rfl d_M_turn_91 ?_
        refine x_bipush (pc := 94) (v := (nI 24)) X d_M_turn_94 (by decide) ?_
        refine x_iload_n (pc := 96) X d_M_turn_96 1 rfl ?_
        refine x_imul (pc := 97) X d_M_turn_97 ?_
        refine x_iload_n (pc := 98) X d_M_turn_98 3 rfl ?_
        refine x_iadd (pc := 99) X d_M_turn_99 ?_
        refine x_dup2 (pc := 100) X d_M_turn_100 rfl rfl ?_
        obtain ⟨h5, hw⟩ := hw
        refine x_iald (pc := 101) X 1 (atM_1 _ _ _) h5 d_M_turn_101 ?_
        refine x_iconst (pc := 102) (v := 1) X d_M_turn_102 (by decide) ?_
        refine x_iload_n (pc := 103) X d_M_turn_103 2 rfl ?_
        refine x_ishl (pc := 104) X d_M_turn_104 ?_
        refine x_ixor (pc := 105) X d_M_turn_105 ?_
        obtain ⟨h6, hw⟩ := hw
        refine x_iast (pc := 106) (ws' := (wM (zI Z) q (ua (ua σ 0 (((nI 24) * x1) + x2).toNatClampNeg ((σ.2 0 (((nI 24) * x1) + x2).toNatClampNeg) ^^^ (1 <<< (x3 &&& 31)))) 0 (((nI 24) * x1) + x3).toNatClampNeg (((ua σ 0 (((nI 24) * x1) + x2).toNatClampNeg ((σ.2 0 (((nI 24) * x1) + x2).toNatClampNeg) ^^^ (1 <<< (x3 &&& 31)))).2 0 (((nI 24) * x1) + x3).toNatClampNeg) ^^^ (1 <<< (x2 &&& 31)))))) X 1 (atM_1 _ _ _) h6 (stM_1 _ _ _ _) d_M_turn_106 ?_
        refine x_iinc (pc := 107) (d := 1) (lv' := [(0, .ref (q 0)), (1, .int x1), (2, .int x2), (3, .int (x3 + 1)), (4, .int (((σ.2 0 (((nI 24) * x1) + x2).toNatClampNeg) >>> (x3 &&& 31)) &&& 1)), (5, .int (((σ.2 0 (((nI 24) * x1) + x3).toNatClampNeg) >>> (x2 &&& 31)) &&& 1))]) X d_M_turn_107 3 rfl (by decide) (by decide) [1, 2, 3, 0, 4, 5] rfl ?_
        refine x_goto (pc := 110) (tgt := 27) X d_M_turn_110 (by decide) ?_
        refine x_drop [0, 1, 2, 3] rfl ?_
        exact ih x1 x2 (x3 + 1) (ua (ua σ 0 (((nI 24) * x1) + x2).toNatClampNeg ((σ.2 0 (((nI 24) * x1) + x2).toNatClampNeg) ^^^ (1 <<< (x3 &&& 31)))) 0 (((nI 24) * x1) + x3).toNatClampNeg (((ua σ 0 (((nI 24) * x1) + x2).toNatClampNeg ((σ.2 0 (((nI 24) * x1) + x2).toNatClampNeg) ^^^ (1 <<< (x3 &&& 31)))).2 0 (((nI 24) * x1) + x3).toNatClampNeg) ^^^ (1 <<< (x2 &&& 31)))) hw
set_option maxHeartbeats 4000000 in
set_option maxRecDepth 100000 in
theorem wL_M_turn_17 {Z : ZT} {q : Nat → Nat} {post : St → Prop} {K : Int32 → St → Prop} (X : Cx Z "WayTableModel" b_M_turn rm_M_turn 6) (hR : RV Z b_M_turn (wM (zI Z) q) post) (hK : ∀ (x1 : Int32) (σ : St), K x1 σ → VV Z 0 0 (wM (zI Z) q σ) [(0, .ref (q 0)), (1, .int x1)] 7 []) : ∀ (n : Nat) (x1 x2 : Int32) (σ : St), L_M_turn_17 post K n x1 x2 σ → VV Z 0 0 (wM (zI Z) q σ) [(0, .ref (q 0)), (1, .int x1), (2, .int x2)] 17 [] := by
  intro n
  induction n with
  | zero => intro x1 x2 σ hw; exact False.elim hw
  | succ n ih =>
    intro x1 x2 σ hw
    unfold L_M_turn_17 at hw
    refine x_iload_n (pc := 17) X d_M_turn_17 2 rfl ?_
    refine x_aload_n (pc := 18) X d_M_turn_18 0 rfl ?_
    refine x_get (pc := 19) X tb_M 0 1 (by decide) mw_8 (atM_0 _ _ _) rfl d_M_turn_19 ?_
    refine x_icmp_ge (pc := 22) (tgt := 119) X d_M_turn_22 (by decide) (fun c => ?_) (fun c => ?_)
    · have hw := hw.1 c
      refine x_iinc (pc := 119) (d := 1) (lv' := [(0, .ref (q 0)), (1, .int (x1 + 1)), (2, .int x2)]) X d_M_turn_119 1 rfl (by decide) (by decide) [1, 0, 2] rfl ?_
      refine x_goto (pc := 122) (tgt := 7) X d_M_turn_122 (by decide) ?_
      refine x_drop [0, 1] rfl ?_
      exact hK (x1 + 1) σ hw
    · have hw := hw.2 c
      refine x_iconst (pc := 25) (v := 0) X d_M_turn_25 (by decide) ?_
      refine x_istore_n (pc := 26) (lv' := [(0, .ref (q 0)), (1, .int x1), (2, .int x2), (3, .int 0)]) X d_M_turn_26 (by decide) [1, 2, 3, 0] rfl ?_
      obtain ⟨n2, hw⟩ := hw
      exact wL_M_turn_27 X hR ih n2 x1 x2 0 σ hw
set_option maxHeartbeats 4000000 in
set_option maxRecDepth 100000 in
theorem wL_M_turn_7 {Z : ZT} {q : Nat → Nat} {post : St → Prop} (X : Cx Z "WayTableModel" b_M_turn rm_M_turn 6) (hR : RV Z b_M_turn (wM (zI Z) q) post) : ∀ (n : Nat) (x1 : Int32) (σ : St), L_M_turn_7 post n x1 σ → VV Z 0 0 (wM (zI Z) q σ) [(0, .ref (q 0)), (1, .int x1)] 7 [] := by
  intro n
  induction n with
  | zero => intro x1 σ hw; exact False.elim hw
  | succ n ih =>
    intro x1 σ hw
    unfold L_M_turn_7 at hw
    refine x_iload_n (pc := 7) X d_M_turn_7 1 rfl ?_
    refine x_aload_n (pc := 8) X d_M_turn_8 0 rfl ?_
    refine x_get (pc := 9) X tb_M 0 2 (by decide) mw_9 (atM_0 _ _ _) rfl d_M_turn_9 ?_
    refine x_icmp_ge (pc := 12) (tgt := 125) X d_M_turn_12 (by decide) (fun c => ?_) (fun c => ?_)
    · have hw := hw.1 c
      exact hR _ _ _ d_M_turn_125 hw
    · have hw := hw.2 c
      refine x_iconst (pc := 15) (v := 0) X d_M_turn_15 (by decide) ?_
      refine x_istore_n (pc := 16) (lv' := [(0, .ref (q 0)), (1, .int x1), (2, .int 0)]) X d_M_turn_16 (by decide) [1, 2, 0] rfl ?_
      obtain ⟨n2, hw⟩ := hw
      exact wL_M_turn_17 X hR ih n2 x1 0 σ hw
set_option maxHeartbeats 4000000 in
set_option maxRecDepth 100000 in
theorem c_M_turn (l : Launch) (D : va_G) (cI : ClassId) (q : Nat → Nat) (σ : St) (post : St → Prop) (hw : wp_M_turn σ post) : CV l D cI (wM cI q) y_M_turn b_M_turn 6 rm_M_turn [.ref (q 0)] σ post := by
  refine CV_of (by decide) (Nat.le_of_ble_eq_true rfl) ?_
  intro Z hZl hZD hZI X hR
  subst hZl; subst hZD; subst hZI
  unfold wp_M_turn at hw
  show VV Z 0 0 (wM (zI Z) q σ) [(0, .ref (q 0))] 0 []
  refine x_aload_n (pc := 0) X d_M_turn_0 0 rfl ?_
  refine x_iconst (pc := 1) (v := 0) X d_M_turn_1 (by decide) ?_
  refine x_put (pc := 2) (ws' := (wM (zI Z) q (us σ 0 0))) X tb_M 0 0 (by decide) mw_7 (atM_0 _ _ _) rfl pI (Nat.le_of_ble_eq_true rfl) (ptM_0 _ _ _ _) d_M_turn_2 ?_
  refine x_iconst (pc := 5) (v := 0) X d_M_turn_5 (by decide) ?_
  refine x_istore_n (pc := 6) (lv' := [(0, .ref (q 0)), (1, .int 0)]) X d_M_turn_6 (by decide) [1, 0] rfl ?_
  obtain ⟨n2, hw⟩ := hw
  exact wL_M_turn_7 X hR n2 0 (us σ 0 0) hw
