def rm_T_findSets_1 : Room := { frames := 2, cells := 0, slots := 0, locals := 45 }
set_option maxHeartbeats 4000000 in
set_option maxRecDepth 100000 in
theorem wL_T_findSets_1_24 {Z : ZT} {q : Nat → Nat} {post : Int32 → St → Prop} {K : Int32 → Int32 → St → Prop} (X : Cx Z "WayTable$Table" b_T_findSets rm_T_findSets_1 6) (hR : RI Z b_T_findSets .int (wC (zI Z) q) post) (hK : ∀ (x2 x3 : Int32) (σ : St), K x2 x3 σ → VV Z 0 0 (wC (zI Z) q σ) [(0, .ref (q 3)), (1, .ref (q 1)), (2, .int x2), (3, .int x3)] 16 []) : ∀ (n : Nat) (x2 x3 x4 : Int32) (σ : St), L_T_findSets_1_24 post K n x2 x3 x4 σ → VV Z 0 0 (wC (zI Z) q σ) [(0, .ref (q 3)), (1, .ref (q 1)), (2, .int x2), (3, .int x3), (4, .int x4)] 24 [] := by
  intro n
  induction n with
  | zero => intro x2 x3 x4 σ hw; exact False.elim hw
  | succ n ih =>
    intro x2 x3 x4 σ hw
    unfold L_T_findSets_1_24 at hw
    refine x_iload (pc := 24) X d_T_findSets_24 4 rfl ?_
    refine x_aload_n (pc := 26) X d_T_findSets_26 1 rfl ?_
    refine x_getN (pc := 27) X tb_G 1 1 (by decide) nw_33 (atC_1 _ _ _) rfl d_T_findSets_27 ?_
    refine x_icmp_ge (pc := 30) (tgt := 91) X d_T_findSets_30 (by decide) (fun c => ?_) (fun c => ?_)
    · have hw := hw.1 c
      refine x_iinc (pc := 91) (d := 1) (lv' := [(0, .ref (q 3)), (1, .ref (q 1)), (2, .int x2), (3, .int (x3 + 1)), (4, .int x4)]) X d_T_findSets_91 3 rfl (by decide) (by decide) [1, 2, 3, 0, 4] rfl ?_
      refine x_goto (pc := 94) (tgt := 16) X d_T_findSets_94 (by decide) ?_
      refine x_drop [0, 1, 2, 3] rfl ?_
      exact hK x2 (x3 + 1) σ hw
    · have hw := hw.2 c
      refine x_aload_n (pc := 33) X d_T_findSets_33 1 rfl ?_
      refine x_aload_n (pc := 34) X d_T_findSets_34 0 rfl ?_
      refine x_get (pc := 35) X tb_T 3 5 (by decide) mw_31 (atC_3 _ _ _) rfl d_T_findSets_35 ?_
      refine x_iload_n (pc := 38) X d_T_findSets_38 3 rfl ?_
      obtain ⟨h2, hw⟩ := hw
      refine x_iald (pc := 39) X 5 (atC_5 _ _ _) h2 d_T_findSets_39 ?_
      refine x_iload (pc := 40) X d_T_findSets_40 4 rfl ?_
      refine x_cni (pc := 42) X [.int (σ.2 2 x3.toNatClampNeg), .int x4] (c_G_reach (zl Z) (zD Z) (zI Z) q σ (σ.2 2 x3.toNatClampNeg) x4 _ hw) mv_G_reach tb_G 1 (atC_1 _ _ _) nw_34 d_T_findSets_42 rfl (Nat.le_of_ble_eq_true rfl) ⟨Nat.le_of_ble_eq_true rfl, Nat.le_of_ble_eq_true rfl⟩ ⟨rfl, rfl⟩ ⟨Nat.zero_le _, Nat.zero_le _⟩ ?_
      intro r3 σ3 hw
      refine x_istore (pc := 45) (lv' := [(0, .ref (q 3)), (1, .ref (q 1)), (2, .int x2), (3, .int x3), (4, .int x4), (5, .int r3)]) X d_T_findSets_45 (by decide) [1, 2, 3, 4, 5, 0] rfl ?_
      refine x_iload (pc := 47) X d_T_findSets_47 5 rfl ?_
      refine x_if_eq (pc := 49) (tgt := 85) X d_T_findSets_49 (by decide) (fun c => ?_) (fun c => ?_)
      · have hw := hw.1 c
        refine x_iinc (pc := 85) (d := 1) (lv' := [(0, .ref (q 3)), (1, .ref (q 1)), (2, .int x2), (3, .int x3), (4, .int (x4 + 1)), (5, .int r3)]) X d_T_findSets_85 4 rfl (by decide) (by decide) [1, 2, 3, 4, 0, 5] rfl ?_
        refine x_goto (pc := 88) (tgt := 24) X d_T_findSets_88 (by decide) ?_
        refine x_drop [0, 1, 2, 3, 4] rfl ?_
        exact ih x2 x3 (x4 + 1) σ3 hw
      · have hw := hw.2 c
        refine x_aload_n (pc := 52) X d_T_findSets_52 0 rfl ?_
        refine x_get (pc := 53) X tb_T 3 5 (by decide) mw_31 (atC_3 _ _ _) rfl d_T_findSets_53 ?_
        refine x_iload_n (pc := 56) X d_T_findSets_56 2 rfl ?_
        refine x_iload (pc := 57) X d_T_findSets_57 5 rfl ?_
        refine x_csi (pc := 59) X [.ref (q 5), .int x2, .int r3] (c_T_indexOf_5 (zl Z) (zD Z) (zI Z) q σ3 x2 r3 _ hw) ms_T_indexOf mw_35 d_T_findSets_59 rfl (Nat.le_of_ble_eq_true rfl) ⟨Nat.le_of_ble_eq_true rfl, Nat.le_of_ble_eq_true rfl⟩ ⟨rfl, rfl⟩ ⟨Nat.zero_le _, Nat.zero_le _⟩ ?_
        intro r4 σ4 hw
        refine x_iconst (pc := 62) (v := (-1)) X d_T_findSets_62 (by decide) ?_
        refine x_icmp_ne (pc := 63) (tgt := 85) X d_T_findSets_63 (by decide) (fun c => ?_) (fun c => ?_)
        · have hw := hw.1 c
          refine x_iinc (pc := 85) (d := 1) (lv' := [(0, .ref (q 3)), (1, .ref (q 1)), (2, .int x2), (3, .int x3), (4, .int (x4 + 1)), (5, .int r3)]) X d_T_findSets_85 4 rfl (by decide) (by decide) [1, 2, 3, 4, 0, 5] rfl ?_
          refine x_goto (pc := 88) (tgt := 24) X d_T_findSets_88 (by decide) ?_
          refine x_drop [0, 1, 2, 3, 4] rfl ?_
          exact ih x2 x3 (x4 + 1) σ4 hw
        · have hw := hw.2 c
          refine x_iload_n (pc := 66) X d_T_findSets_66 2 rfl ?_
          refine x_bipush (pc := 67) (v := (nI 120)) X d_T_findSets_67 (by decide) ?_
          refine x_icmp_lt (pc := 69) (tgt := 74) X d_T_findSets_69 (by decide) (fun c => ?_) (fun c => ?_)
          · have hw := hw.1 c
            refine x_aload_n (pc := 74) X d_T_findSets_74 0 rfl ?_
            refine x_get (pc := 75) X tb_T 3 5 (by decide) mw_31 (atC_3 _ _ _) rfl d_T_findSets_75 ?_
            refine x_iload_n (pc := 78) X d_T_findSets_78 2 rfl ?_
            refine x_iload (pc := 79) X d_T_findSets_79 5 rfl ?_
            obtain ⟨h5, hw⟩ := hw
            refine x_iast (pc := 81) (ws' := (wC (zI Z) q (ua σ4 2 x2.toNatClampNeg r3))) X 5 (atC_5 _ _ _) h5 (stC_5 _ _ _ _) d_T_findSets_81 ?_
            refine x_iinc (pc := 82) (d := 1) (lv' := [(0, .ref (q 3)), (1, .ref (q 1)), (2, .int (x2 + 1)), (3, .int x3), (4, .int x4), (5, .int r3)]) X d_T_findSets_82 2 rfl (by decide) (by decide) [1, 2, 0, 3, 4, 5] rfl ?_
            refine x_iinc (pc := 85) (d := 1) (lv' := [(0, .ref (q 3)), (1, .ref (q 1)), (2, .int (x2 + 1)), (3, .int x3), (4, .int (x4 + 1)), (5, .int r3)]) X d_T_findSets_85 4 rfl (by decide) (by decide) [1, 2, 3, 4, 0, 5] rfl ?_
            refine x_goto (pc := 88) (tgt := 24) X d_T_findSets_88 (by decide) ?_
            refine x_drop [0, 1, 2, 3, 4] rfl ?_
            exact ih (x2 + 1) x3 (x4 + 1) (ua σ4 2 x2.toNatClampNeg r3) hw
          · have hw := hw.2 c
            refine x_iconst (pc := 72) (v := (-1)) X d_T_findSets_72 (by decide) ?_
            exact hR _ _ _ _ d_T_findSets_73 (vp_nar_int _) hw
set_option maxHeartbeats 4000000 in
set_option maxRecDepth 100000 in
theorem wL_T_findSets_1_16 {Z : ZT} {q : Nat → Nat} {post : Int32 → St → Prop} (X : Cx Z "WayTable$Table" b_T_findSets rm_T_findSets_1 6) (hR : RI Z b_T_findSets .int (wC (zI Z) q) post) : ∀ (n : Nat) (x2 x3 : Int32) (σ : St), L_T_findSets_1_16 post n x2 x3 σ → VV Z 0 0 (wC (zI Z) q σ) [(0, .ref (q 3)), (1, .ref (q 1)), (2, .int x2), (3, .int x3)] 16 [] := by
  intro n
  induction n with
  | zero => intro x2 x3 σ hw; exact False.elim hw
  | succ n ih =>
    intro x2 x3 σ hw
    unfold L_T_findSets_1_16 at hw
    refine x_iload_n (pc := 16) X d_T_findSets_16 3 rfl ?_
    refine x_iload_n (pc := 17) X d_T_findSets_17 2 rfl ?_
    refine x_icmp_ge (pc := 18) (tgt := 97) X d_T_findSets_18 (by decide) (fun c => ?_) (fun c => ?_)
    · have hw := hw.1 c
      refine x_iload_n (pc := 97) X d_T_findSets_97 2 rfl ?_
      exact hR _ _ _ _ d_T_findSets_98 (vp_nar_int _) hw
    · have hw := hw.2 c
      refine x_iconst (pc := 21) (v := 0) X d_T_findSets_21 (by decide) ?_
      refine x_istore (pc := 22) (lv' := [(0, .ref (q 3)), (1, .ref (q 1)), (2, .int x2), (3, .int x3), (4, .int 0)]) X d_T_findSets_22 (by decide) [1, 2, 3, 4, 0] rfl ?_
      obtain ⟨n2, hw⟩ := hw
      exact wL_T_findSets_1_24 X hR ih n2 x2 x3 0 σ hw
set_option maxHeartbeats 4000000 in
set_option maxRecDepth 100000 in
theorem c_T_findSets_1 (l : Launch) (D : va_G) (cI : ClassId) (q : Nat → Nat) (σ : St) (post : Int32 → St → Prop) (hw : wp_T_findSets_1 σ post) : CI l D cI (wC cI q) y_T_findSets b_T_findSets 6 .int rm_T_findSets_1 [.ref (q 3), .ref (q 1)] σ post := by
  refine CI_of (by decide) (Nat.le_of_ble_eq_true rfl) ?_
  intro Z hZl hZD hZI X hR
  subst hZl; subst hZD; subst hZI
  unfold wp_T_findSets_1 at hw
  show VV Z 0 0 (wC (zI Z) q σ) [(0, .ref (q 3)), (1, .ref (q 1))] 0 []
  refine x_aload_n (pc := 0) X d_T_findSets_0 0 rfl ?_
  refine x_get (pc := 1) X tb_T 3 5 (by decide) mw_31 (atC_3 _ _ _) rfl d_T_findSets_1 ?_
  refine x_iconst (pc := 4) (v := 0) X d_T_findSets_4 (by decide) ?_
  refine x_iconst (pc := 5) (v := 1) X d_T_findSets_5 (by decide) ?_
  refine x_aload_n (pc := 6) X d_T_findSets_6 1 rfl ?_
  refine x_getN (pc := 7) X tb_G 1 2 (by decide) nw_32 (atC_1 _ _ _) rfl d_T_findSets_7 ?_
  refine x_ishl (pc := 10) X d_T_findSets_10 ?_
  obtain ⟨h1, hw⟩ := hw
  refine x_iast (pc := 11) (ws' := (wC (zI Z) q (ua σ 2 ((0 : Int32).toNatClampNeg) (1 <<< ((σ.1 3) &&& 31))))) X 5 (atC_5 _ _ _) h1 (stC_5 _ _ _ _) d_T_findSets_11 ?_
  refine x_iconst (pc := 12) (v := 1) X d_T_findSets_12 (by decide) ?_
  refine x_istore_n (pc := 13) (lv' := [(0, .ref (q 3)), (1, .ref (q 1)), (2, .int 1)]) X d_T_findSets_13 (by decide) [1, 2, 0] rfl ?_
  refine x_iconst (pc := 14) (v := 0) X d_T_findSets_14 (by decide) ?_
  refine x_istore_n (pc := 15) (lv' := [(0, .ref (q 3)), (1, .ref (q 1)), (2, .int 1), (3, .int 0)]) X d_T_findSets_15 (by decide) [1, 2, 3, 0] rfl ?_
  obtain ⟨n2, hw⟩ := hw
  exact wL_T_findSets_1_16 X hR n2 1 0 (ua σ 2 ((0 : Int32).toNatClampNeg) (1 <<< ((σ.1 3) &&& 31))) hw
def rm_T_indexOf_4 : Room := { frames := 0, cells := 0, slots := 0, locals := 0 }
set_option maxHeartbeats 4000000 in
set_option maxRecDepth 100000 in
theorem wL_T_indexOf_4_2 {Z : ZT} {q : Nat → Nat} {post : Int32 → St → Prop} (X : Cx Z "WayTable$Table" b_T_indexOf rm_T_indexOf_4 4) (hR : RI Z b_T_indexOf .int (wC (zI Z) q) post) : ∀ (n : Nat) (x1 x2 x3 : Int32) (σ : St), L_T_indexOf_4_2 post n x1 x2 x3 σ → VV Z 0 0 (wC (zI Z) q σ) [(0, .ref (q 4)), (1, .int x1), (2, .int x2), (3, .int x3)] 2 [] := by
  intro n
  induction n with
  | zero => intro x1 x2 x3 σ hw; exact False.elim hw
  | succ n ih =>
    intro x1 x2 x3 σ hw
    unfold L_T_indexOf_4_2 at hw
    refine x_iload_n (pc := 2) X d_T_indexOf_2 3 rfl ?_
    refine x_iload_n (pc := 3) X d_T_indexOf_3 1 rfl ?_
    refine x_icmp_ge (pc := 4) (tgt := 22) X d_T_indexOf_4 (by decide) (fun c => ?_) (fun c => ?_)
    · have hw := hw.1 c
      refine x_iconst (pc := 22) (v := (-1)) X d_T_indexOf_22 (by decide) ?_
      exact hR _ _ _ _ d_T_indexOf_23 (vp_nar_int _) hw
    · have hw := hw.2 c
      refine x_aload_n (pc := 7) X d_T_indexOf_7 0 rfl ?_
      refine x_iload_n (pc := 8) X d_T_indexOf_8 3 rfl ?_
      obtain ⟨h1, hw⟩ := hw
      refine x_iald (pc := 9) X 4 (atC_4 _ _ _) h1 d_T_indexOf_9 ?_
      refine x_iload_n (pc := 10) X d_T_indexOf_10 2 rfl ?_
      refine x_icmp_ne (pc := 11) (tgt := 16) X d_T_indexOf_11 (by decide) (fun c => ?_) (fun c => ?_)
      · have hw := hw.1 c
        refine x_iinc (pc := 16) (d := 1) (lv' := [(0, .ref (q 4)), (1, .int x1), (2, .int x2), (3, .int (x3 + 1))]) X d_T_indexOf_16 3 rfl (by decide) (by decide) [1, 2, 3, 0] rfl ?_
        refine x_goto (pc := 19) (tgt := 2) X d_T_indexOf_19 (by decide) ?_
        exact ih x1 x2 (x3 + 1) σ hw
      · have hw := hw.2 c
        refine x_iload_n (pc := 14) X d_T_indexOf_14 3 rfl ?_
        exact hR _ _ _ _ d_T_indexOf_15 (vp_nar_int _) hw
set_option maxHeartbeats 4000000 in
set_option maxRecDepth 100000 in
theorem c_T_indexOf_4 (l : Launch) (D : va_G) (cI : ClassId) (q : Nat → Nat) (σ : St) (x1 x2 : Int32) (post : Int32 → St → Prop) (hw : wp_T_indexOf_4 x1 x2 σ post) : CI l D cI (wC cI q) y_T_indexOf b_T_indexOf 4 .int rm_T_indexOf_4 [.ref (q 4), .int x1, .int x2] σ post := by
  refine CI_of (by decide) (Nat.le_of_ble_eq_true rfl) ?_
  intro Z hZl hZD hZI X hR
  subst hZl; subst hZD; subst hZI
  unfold wp_T_indexOf_4 at hw
  show VV Z 0 0 (wC (zI Z) q σ) [(0, .ref (q 4)), (1, .int x1), (2, .int x2)] 0 []
  refine x_iconst (pc := 0) (v := 0) X d_T_indexOf_0 (by decide) ?_
  refine x_istore_n (pc := 1) (lv' := [(0, .ref (q 4)), (1, .int x1), (2, .int x2), (3, .int 0)]) X d_T_indexOf_1 (by decide) [1, 2, 3, 0] rfl ?_
  obtain ⟨n2, hw⟩ := hw
  exact wL_T_indexOf_4_2 X hR n2 x1 x2 0 σ hw
def rm_T_laySteps_1 : Room := { frames := 2, cells := 0, slots := 0, locals := 45 }
set_option maxHeartbeats 4000000 in
set_option maxRecDepth 100000 in
theorem wL_T_laySteps_1_12 {Z : ZT} {q : Nat → Nat} {post : St → Prop} {K : Int32 → St → Prop} (X : Cx Z "WayTable$Table" b_T_laySteps rm_T_laySteps_1 5) (hR : RV Z b_T_laySteps (wC (zI Z) q) post) (hK : ∀ (x2 : Int32) (σ : St), K x2 σ → VV Z 0 0 (wC (zI Z) q σ) [(0, .ref (q 3)), (1, .ref (q 1)), (2, .int x2)] 2 []) : ∀ (n : Nat) (x2 x3 : Int32) (σ : St), L_T_laySteps_1_12 post K n x2 x3 σ → VV Z 0 0 (wC (zI Z) q σ) [(0, .ref (q 3)), (1, .ref (q 1)), (2, .int x2), (3, .int x3)] 12 [] := by
  intro n
  induction n with
  | zero => intro x2 x3 σ hw; exact False.elim hw
  | succ n ih =>
    intro x2 x3 σ hw
    unfold L_T_laySteps_1_12 at hw
    refine x_iload_n (pc := 12) X d_T_laySteps_12 3 rfl ?_
    refine x_aload_n (pc := 13) X d_T_laySteps_13 0 rfl ?_
    refine x_get (pc := 14) X tb_T 3 0 (by decide) mw_37 (atC_3 _ _ _) rfl d_T_laySteps_14 ?_
    refine x_icmp_ge (pc := 17) (tgt := 72) X d_T_laySteps_17 (by decide) (fun c => ?_) (fun c => ?_)
    · have hw := hw.1 c
      refine x_iinc (pc := 72) (d := 1) (lv' := [(0, .ref (q 3)), (1, .ref (q 1)), (2, .int (x2 + 1)), (3, .int x3)]) X d_T_laySteps_72 2 rfl (by decide) (by decide) [1, 2, 0, 3] rfl ?_
      refine x_goto (pc := 75) (tgt := 2) X d_T_laySteps_75 (by decide) ?_
      refine x_drop [0, 1, 2] rfl ?_
      exact hK (x2 + 1) σ hw
    · have hw := hw.2 c
      refine x_aload_n (pc := 20) X d_T_laySteps_20 1 rfl ?_
      refine x_aload_n (pc := 21) X d_T_laySteps_21 0 rfl ?_
      refine x_get (pc := 22) X tb_T 3 4 (by decide) mw_39 (atC_3 _ _ _) rfl d_T_laySteps_22 ?_
      refine x_iload_n (pc := 25) X d_T_laySteps_25 2 rfl ?_
      obtain ⟨h1, hw⟩ := hw
      refine x_iald (pc := 26) X 4 (atC_4 _ _ _) h1 d_T_laySteps_26 ?_
      refine x_iload_n (pc := 27) X d_T_laySteps_27 3 rfl ?_
      refine x_cni (pc := 28) X [.int (σ.2 1 x2.toNatClampNeg), .int x3] (c_G_reach (zl Z) (zD Z) (zI Z) q σ (σ.2 1 x2.toNatClampNeg) x3 _ hw) mv_G_reach tb_G 1 (atC_1 _ _ _) nw_34 d_T_laySteps_28 rfl (Nat.le_of_ble_eq_true rfl) ⟨Nat.le_of_ble_eq_true rfl, Nat.le_of_ble_eq_true rfl⟩ ⟨rfl, rfl⟩ ⟨Nat.zero_le _, Nat.zero_le _⟩ ?_
      intro r2 σ2 hw
      refine x_istore (pc := 31) (lv' := [(0, .ref (q 3)), (1, .ref (q 1)), (2, .int x2), (3, .int x3), (4, .int r2)]) X d_T_laySteps_31 (by decide) [1, 2, 3, 4, 0] rfl ?_
      refine x_aload_n (pc := 33) X d_T_laySteps_33 0 rfl ?_
      refine x_get (pc := 34) X tb_T 3 6 (by decide) mw_44 (atC_3 _ _ _) rfl d_T_laySteps_34 ?_
      refine x_iload_n (pc := 37) X d_T_laySteps_37 2 rfl ?_
      refine x_bipush (pc := 38) (v := (nI 40)) X d_T_laySteps_38 (by decide) ?_
      refine x_imul (pc := 40) X d_T_laySteps_40 ?_
      refine x_iload_n (pc := 41) X d_T_laySteps_41 3 rfl ?_
      refine x_iadd (pc := 42) X d_T_laySteps_42 ?_
      refine x_iload (pc := 43) X d_T_laySteps_43 4 rfl ?_
      refine x_if_ne (pc := 45) (tgt := 52) X d_T_laySteps_45 (by decide) (fun c => ?_) (fun c => ?_)
      · have hw := hw.1 c
        refine x_aload_n (pc := 52) X d_T_laySteps_52 0 rfl ?_
        refine x_get (pc := 53) X tb_T 3 4 (by decide) mw_39 (atC_3 _ _ _) rfl d_T_laySteps_53 ?_
        refine x_aload_n (pc := 56) X d_T_laySteps_56 0 rfl ?_
        refine x_get (pc := 57) X tb_T 3 1 (by decide) mw_38 (atC_3 _ _ _) rfl d_T_laySteps_57 ?_
        refine x_iload (pc := 60) X d_T_laySteps_60 4 rfl ?_
        refine x_csi (pc := 62) X [.ref (q 4), .int (σ2.1 5), .int r2] (c_T_indexOf_4 (zl Z) (zD Z) (zI Z) q σ2 (σ2.1 5) r2 _ hw) ms_T_indexOf mw_35 d_T_laySteps_62 rfl (Nat.le_of_ble_eq_true rfl) ⟨Nat.le_of_ble_eq_true rfl, Nat.le_of_ble_eq_true rfl⟩ ⟨rfl, rfl⟩ ⟨Nat.zero_le _, Nat.zero_le _⟩ ?_
        intro r3 σ3 hw
        obtain ⟨h4, hw⟩ := hw
        refine x_iast (pc := 65) (ws' := (wC (zI Z) q (ua σ3 3 ((x2 * (nI 40)) + x3).toNatClampNeg r3))) X 6 (atC_6 _ _ _) h4 (stC_6 _ _ _ _) d_T_laySteps_65 ?_
        refine x_iinc (pc := 66) (d := 1) (lv' := [(0, .ref (q 3)), (1, .ref (q 1)), (2, .int x2), (3, .int (x3 + 1)), (4, .int r2)]) X d_T_laySteps_66 3 rfl (by decide) (by decide) [1, 2, 3, 0, 4] rfl ?_
        refine x_goto (pc := 69) (tgt := 12) X d_T_laySteps_69 (by decide) ?_
        refine x_drop [0, 1, 2, 3] rfl ?_
        exact ih x2 (x3 + 1) (ua σ3 3 ((x2 * (nI 40)) + x3).toNatClampNeg r3) hw
      · have hw := hw.2 c
        refine x_iconst (pc := 48) (v := (-1)) X d_T_laySteps_48 (by decide) ?_
        refine x_goto (pc := 49) (tgt := 65) X d_T_laySteps_49 (by decide) ?_
        obtain ⟨h5, hw⟩ := hw
        refine x_iast (pc := 65) (ws' := (wC (zI Z) q (ua σ2 3 ((x2 * (nI 40)) + x3).toNatClampNeg (-1)))) X 6 (atC_6 _ _ _) h5 (stC_6 _ _ _ _) d_T_laySteps_65 ?_
        refine x_iinc (pc := 66) (d := 1) (lv' := [(0, .ref (q 3)), (1, .ref (q 1)), (2, .int x2), (3, .int (x3 + 1)), (4, .int r2)]) X d_T_laySteps_66 3 rfl (by decide) (by decide) [1, 2, 3, 0, 4] rfl ?_
        refine x_goto (pc := 69) (tgt := 12) X d_T_laySteps_69 (by decide) ?_
        refine x_drop [0, 1, 2, 3] rfl ?_
        exact ih x2 (x3 + 1) (ua σ2 3 ((x2 * (nI 40)) + x3).toNatClampNeg (-1)) hw
set_option maxHeartbeats 4000000 in
set_option maxRecDepth 100000 in
theorem wL_T_laySteps_1_2 {Z : ZT} {q : Nat → Nat} {post : St → Prop} (X : Cx Z "WayTable$Table" b_T_laySteps rm_T_laySteps_1 5) (hR : RV Z b_T_laySteps (wC (zI Z) q) post) : ∀ (n : Nat) (x2 : Int32) (σ : St), L_T_laySteps_1_2 post n x2 σ → VV Z 0 0 (wC (zI Z) q σ) [(0, .ref (q 3)), (1, .ref (q 1)), (2, .int x2)] 2 [] := by
  intro n
  induction n with
  | zero => intro x2 σ hw; exact False.elim hw
  | succ n ih =>
    intro x2 σ hw
    unfold L_T_laySteps_1_2 at hw
    refine x_iload_n (pc := 2) X d_T_laySteps_2 2 rfl ?_
    refine x_aload_n (pc := 3) X d_T_laySteps_3 0 rfl ?_
    refine x_get (pc := 4) X tb_T 3 1 (by decide) mw_38 (atC_3 _ _ _) rfl d_T_laySteps_4 ?_
    refine x_icmp_ge (pc := 7) (tgt := 78) X d_T_laySteps_7 (by decide) (fun c => ?_) (fun c => ?_)
    · have hw := hw.1 c
      exact hR _ _ _ d_T_laySteps_78 hw
    · have hw := hw.2 c
      refine x_iconst (pc := 10) (v := 0) X d_T_laySteps_10 (by decide) ?_
      refine x_istore_n (pc := 11) (lv' := [(0, .ref (q 3)), (1, .ref (q 1)), (2, .int x2), (3, .int 0)]) X d_T_laySteps_11 (by decide) [1, 2, 3, 0] rfl ?_
      obtain ⟨n2, hw⟩ := hw
      exact wL_T_laySteps_1_12 X hR ih n2 x2 0 σ hw
set_option maxHeartbeats 4000000 in
set_option maxRecDepth 100000 in
theorem c_T_laySteps_1 (l : Launch) (D : va_G) (cI : ClassId) (q : Nat → Nat) (σ : St) (post : St → Prop) (hw : wp_T_laySteps_1 σ post) : CV l D cI (wC cI q) y_T_laySteps b_T_laySteps 5 rm_T_laySteps_1 [.ref (q 3), .ref (q 1)] σ post := by
  refine CV_of (by decide) (Nat.le_of_ble_eq_true rfl) ?_
  intro Z hZl hZD hZI X hR
  subst hZl; subst hZD; subst hZI
  unfold wp_T_laySteps_1 at hw
  show VV Z 0 0 (wC (zI Z) q σ) [(0, .ref (q 3)), (1, .ref (q 1))] 0 []
  refine x_iconst (pc := 0) (v := 0) X d_T_laySteps_0 (by decide) ?_
  refine x_istore_n (pc := 1) (lv' := [(0, .ref (q 3)), (1, .ref (q 1)), (2, .int 0)]) X d_T_laySteps_1 (by decide) [1, 2, 0] rfl ?_
  obtain ⟨n2, hw⟩ := hw
  exact wL_T_laySteps_1_2 X hR n2 0 σ hw
def rm_A_rangeCheck3 : Room := { frames := 0, cells := 0, slots := 0, locals := 0 }
set_option maxHeartbeats 4000000 in
set_option maxRecDepth 100000 in
theorem c_A_rangeCheck3 (l : Launch) (D : va_G) (cI : ClassId) (q : Nat → Nat) (σ : St) (x0 x1 x2 : Int32) (post : St → Prop) (hw : wp_A_rangeCheck3 x0 x1 x2 σ post) : CV l D cI (wC cI q) y_A_rangeCheck3 b_A_rangeCheck3 3 rm_A_rangeCheck3 [.int x0, .int x1, .int x2] σ post := by
  refine CV_of (by decide) (Nat.le_of_ble_eq_true rfl) ?_
  intro Z hZl hZD hZI X hR
  subst hZl; subst hZD; subst hZI
  unfold wp_A_rangeCheck3 at hw
  show VV Z 0 0 (wC (zI Z) q σ) [(0, .int x0), (1, .int x1), (2, .int x2)] 0 []
  refine x_iload_n (pc := 0) X d_A_rangeCheck3_0 1 rfl ?_
  refine x_iload_n (pc := 1) X d_A_rangeCheck3_1 2 rfl ?_
  refine x_icmp_le (pc := 2) (tgt := 46) X d_A_rangeCheck3_2 (by decide) (fun c => ?_) (fun c => ?_)
  · have hw := hw.1 c
    refine x_iload_n (pc := 46) X d_A_rangeCheck3_46 1 rfl ?_
    refine x_if_ge (pc := 47) (tgt := 59) X d_A_rangeCheck3_47 (by decide) (fun c => ?_) (fun c => ?_)
    · have hw := hw.1 c
      refine x_iload_n (pc := 59) X d_A_rangeCheck3_59 2 rfl ?_
      refine x_iload_n (pc := 60) X d_A_rangeCheck3_60 0 rfl ?_
      refine x_icmp_le (pc := 61) (tgt := 73) X d_A_rangeCheck3_61 (by decide) (fun c => ?_) (fun c => ?_)
      · have hw := hw.1 c
        exact hR _ _ _ d_A_rangeCheck3_73 hw
      · have hw := hw.2 c
        exact False.elim hw
    · have hw := hw.2 c
      exact False.elim hw
  · have hw := hw.2 c
    exact False.elim hw
def rm_A_fill4_7 : Room := { frames := 1, cells := 0, slots := 0, locals := 22 }
set_option maxHeartbeats 4000000 in
set_option maxRecDepth 100000 in
theorem wL_A_fill4_7_10 {Z : ZT} {q : Nat → Nat} {post : St → Prop} (X : Cx Z "java/util/Arrays" b_A_fill4 rm_A_fill4_7 5) (hR : RV Z b_A_fill4 (wC (zI Z) q) post) : ∀ (n : Nat) (x1 x2 x3 x4 : Int32) (σ : St), L_A_fill4_7_10 post n x1 x2 x3 x4 σ → VV Z 0 0 (wC (zI Z) q σ) [(0, .ref (q 7)), (1, .int x1), (2, .int x2), (3, .int x3), (4, .int x4)] 10 [] := by
  intro n
  induction n with
  | zero => intro x1 x2 x3 x4 σ hw; exact False.elim hw
  | succ n ih =>
    intro x1 x2 x3 x4 σ hw
    unfold L_A_fill4_7_10 at hw
    refine x_iload (pc := 10) X d_A_fill4_10 4 rfl ?_
    refine x_iload_n (pc := 12) X d_A_fill4_12 2 rfl ?_
    refine x_icmp_ge (pc := 13) (tgt := 27) X d_A_fill4_13 (by decide) (fun c => ?_) (fun c => ?_)
    · have hw := hw.1 c
      exact hR _ _ _ d_A_fill4_27 hw
    · have hw := hw.2 c
      refine x_aload_n (pc := 16) X d_A_fill4_16 0 rfl ?_
      refine x_iload (pc := 17) X d_A_fill4_17 4 rfl ?_
      refine x_iload_n (pc := 19) X d_A_fill4_19 3 rfl ?_
      obtain ⟨h2, hw⟩ := hw
      refine x_iast (pc := 20) (ws' := (wC (zI Z) q (ua σ 4 x4.toNatClampNeg x3))) X 7 (atC_7 _ _ _) h2 (stC_7 _ _ _ _) d_A_fill4_20 ?_
      refine x_iinc (pc := 21) (d := 1) (lv' := [(0, .ref (q 7)), (1, .int x1), (2, .int x2), (3, .int x3), (4, .int (x4 + 1))]) X d_A_fill4_21 4 rfl (by decide) (by decide) [1, 2, 3, 4, 0] rfl ?_
      refine x_goto (pc := 24) (tgt := 10) X d_A_fill4_24 (by decide) ?_
      exact ih x1 x2 x3 (x4 + 1) (ua σ 4 x4.toNatClampNeg x3) hw
set_option maxHeartbeats 4000000 in
set_option maxRecDepth 100000 in
theorem c_A_fill4_7 (l : Launch) (D : va_G) (cI : ClassId) (q : Nat → Nat) (σ : St) (x1 x2 x3 : Int32) (post : St → Prop) (hw : wp_A_fill4_7 x1 x2 x3 σ post) : CV l D cI (wC cI q) y_A_fill4 b_A_fill4 5 rm_A_fill4_7 [.ref (q 7), .int x1, .int x2, .int x3] σ post := by
  refine CV_of (by decide) (Nat.le_of_ble_eq_true rfl) ?_
  intro Z hZl hZD hZI X hR
  subst hZl; subst hZD; subst hZI
  unfold wp_A_fill4_7 at hw
  show VV Z 0 0 (wC (zI Z) q σ) [(0, .ref (q 7)), (1, .int x1), (2, .int x2), (3, .int x3)] 0 []
  refine x_aload_n (pc := 0) X d_A_fill4_0 0 rfl ?_
  refine x_alen (pc := 1) X 7 (atC_7 _ _ _) d_A_fill4_1 ?_
  refine x_iload_n (pc := 2) X d_A_fill4_2 1 rfl ?_
  refine x_iload_n (pc := 3) X d_A_fill4_3 2 rfl ?_
  refine x_csv (pc := 4) X [.int (nI 120), .int x1, .int x2] (c_A_rangeCheck3 (zl Z) (zD Z) (zI Z) q σ (nI 120) x1 x2 _ hw) ms_A_rangeCheck3 mw_47 d_A_fill4_4 rfl (Nat.le_of_ble_eq_true rfl) ⟨Nat.le_of_ble_eq_true rfl, Nat.le_of_ble_eq_true rfl⟩ ⟨rfl, rfl⟩ ⟨Nat.zero_le _, Nat.zero_le _⟩ ?_
  intro σ1 hw
  refine x_iload_n (pc := 7) X d_A_fill4_7 1 rfl ?_
  refine x_istore (pc := 8) (lv' := [(0, .ref (q 7)), (1, .int x1), (2, .int x2), (3, .int x3), (4, .int x1)]) X d_A_fill4_8 (by decide) [1, 2, 3, 4, 0] rfl ?_
  obtain ⟨n2, hw⟩ := hw
  exact wL_A_fill4_7_10 X hR n2 x1 x2 x3 x1 σ1 hw
def rm_T_leaderAfter_8 : Room := { frames := 0, cells := 0, slots := 0, locals := 0 }
set_option maxHeartbeats 4000000 in
set_option maxRecDepth 100000 in
theorem c_T_leaderAfter_8 (l : Launch) (D : va_G) (cI : ClassId) (q : Nat → Nat) (σ : St) (x2 x3 : Int32) (post : Int32 → St → Prop) (hw : wp_T_leaderAfter_8 x2 x3 σ post) : CI l D cI (wC cI q) y_T_leaderAfter b_T_leaderAfter 5 .int rm_T_leaderAfter_8 [.ref (q 3), .ref (q 8), .int x2, .int x3] σ post := by
  refine CI_of (by decide) (Nat.le_of_ble_eq_true rfl) ?_
  intro Z hZl hZD hZI X hR
  subst hZl; subst hZD; subst hZI
  unfold wp_T_leaderAfter_8 at hw
  show VV Z 0 0 (wC (zI Z) q σ) [(0, .ref (q 3)), (1, .ref (q 8)), (2, .int x2), (3, .int x3)] 0 []
  refine x_aload_n (pc := 0) X d_T_leaderAfter_0 0 rfl ?_
  refine x_get (pc := 1) X tb_T 3 6 (by decide) mw_44 (atC_3 _ _ _) rfl d_T_leaderAfter_1 ?_
  refine x_iload_n (pc := 4) X d_T_leaderAfter_4 2 rfl ?_
  refine x_bipush (pc := 5) (v := (nI 40)) X d_T_leaderAfter_5 (by decide) ?_
  refine x_imul (pc := 7) X d_T_leaderAfter_7 ?_
  refine x_iload_n (pc := 8) X d_T_leaderAfter_8 3 rfl ?_
  refine x_iadd (pc := 9) X d_T_leaderAfter_9 ?_
  obtain ⟨h1, hw⟩ := hw
  refine x_iald (pc := 10) X 6 (atC_6 _ _ _) h1 d_T_leaderAfter_10 ?_
  refine x_istore (pc := 11) (lv' := [(0, .ref (q 3)), (1, .ref (q 8)), (2, .int x2), (3, .int x3), (4, .int (σ.2 3 ((x2 * (nI 40)) + x3).toNatClampNeg))]) X d_T_leaderAfter_11 (by decide) [1, 2, 3, 4, 0] rfl ?_
  refine x_iload (pc := 13) X d_T_leaderAfter_13 4 rfl ?_
  refine x_iconst (pc := 15) (v := (-1)) X d_T_leaderAfter_15 (by decide) ?_
  refine x_icmp_ne (pc := 16) (tgt := 23) X d_T_leaderAfter_16 (by decide) (fun c => ?_) (fun c => ?_)
  · have hw := hw.1 c
    refine x_aload_n (pc := 23) X d_T_leaderAfter_23 1 rfl ?_
    refine x_iload (pc := 24) X d_T_leaderAfter_24 4 rfl ?_
    obtain ⟨h2, hw⟩ := hw
    refine x_iald (pc := 26) X 8 (atC_8 _ _ _) h2 d_T_leaderAfter_26 ?_
    exact hR _ _ _ _ d_T_leaderAfter_27 (vp_nar_int _) hw
  · have hw := hw.2 c
    refine x_iconst (pc := 19) (v := (-1)) X d_T_leaderAfter_19 (by decide) ?_
    refine x_goto (pc := 20) (tgt := 27) X d_T_leaderAfter_20 (by decide) ?_
    exact hR _ _ _ _ d_T_leaderAfter_27 (vp_nar_int _) hw
def rm_T_goAlike : Room := { frames := 1, cells := 0, slots := 0, locals := 24 }
set_option maxHeartbeats 4000000 in
set_option maxRecDepth 100000 in
theorem wL_T_goAlike_2 {Z : ZT} {q : Nat → Nat} {post : Int32 → St → Prop} (X : Cx Z "WayTable$Table" b_T_goAlike rm_T_goAlike 4) (hR : RI Z b_T_goAlike .boolean (wC (zI Z) q) post) : ∀ (n : Nat) (x1 x2 x3 : Int32) (σ : St), L_T_goAlike_2 post n x1 x2 x3 σ → VV Z 0 0 (wC (zI Z) q σ) [(0, .ref (q 3)), (1, .int x1), (2, .int x2), (3, .int x3)] 2 [] := by
  intro n
  induction n with
  | zero => intro x1 x2 x3 σ hw; exact False.elim hw
  | succ n ih =>
    intro x1 x2 x3 σ hw
    unfold L_T_goAlike_2 at hw
    refine x_iload_n (pc := 2) X d_T_goAlike_2 3 rfl ?_
    refine x_aload_n (pc := 3) X d_T_goAlike_3 0 rfl ?_
    refine x_get (pc := 4) X tb_T 3 0 (by decide) mw_37 (atC_3 _ _ _) rfl d_T_goAlike_4 ?_
    refine x_icmp_ge (pc := 7) (tgt := 41) X d_T_goAlike_7 (by decide) (fun c => ?_) (fun c => ?_)
    · have hw := hw.1 c
      refine x_iconst (pc := 41) (v := 1) X d_T_goAlike_41 (by decide) ?_
      exact hR _ _ _ _ d_T_goAlike_42 rfl hw
    · have hw := hw.2 c
      refine x_aload_n (pc := 10) X d_T_goAlike_10 0 rfl ?_
      refine x_aload_n (pc := 11) X d_T_goAlike_11 0 rfl ?_
      refine x_get (pc := 12) X tb_T 3 8 (by decide) mw_50 (atC_3 _ _ _) rfl d_T_goAlike_12 ?_
      refine x_iload_n (pc := 15) X d_T_goAlike_15 1 rfl ?_
      refine x_iload_n (pc := 16) X d_T_goAlike_16 3 rfl ?_
      refine x_cvi (pc := 17) X [.ref (q 8), .int x1, .int x3] (c_T_leaderAfter_8 (zl Z) (zD Z) (zI Z) q σ x1 x3 _ hw) mv_T_leaderAfter tb_T 3 (atC_3 _ _ _) mw_51 d_T_goAlike_17 rfl (Nat.le_of_ble_eq_true rfl) ⟨Nat.le_of_ble_eq_true rfl, Nat.le_of_ble_eq_true rfl⟩ ⟨rfl, rfl⟩ ⟨Nat.zero_le _, Nat.zero_le _⟩ ?_
      intro r1 σ1 hw
      refine x_aload_n (pc := 20) X d_T_goAlike_20 0 rfl ?_
      refine x_aload_n (pc := 21) X d_T_goAlike_21 0 rfl ?_
      refine x_get (pc := 22) X tb_T 3 8 (by decide) mw_50 (atC_3 _ _ _) rfl d_T_goAlike_22 ?_
      refine x_iload_n (pc := 25) X d_T_goAlike_25 2 rfl ?_
      refine x_iload_n (pc := 26) X d_T_goAlike_26 3 rfl ?_
      refine x_cvi (pc := 27) X [.ref (q 8), .int x2, .int x3] (c_T_leaderAfter_8 (zl Z) (zD Z) (zI Z) q σ1 x2 x3 _ hw) mv_T_leaderAfter tb_T 3 (atC_3 _ _ _) mw_51 d_T_goAlike_27 rfl (Nat.le_of_ble_eq_true rfl) ⟨Nat.le_of_ble_eq_true rfl, Nat.le_of_ble_eq_true rfl⟩ ⟨rfl, rfl⟩ ⟨Nat.zero_le _, Nat.zero_le _⟩ ?_
      intro r2 σ2 hw
      refine x_icmp_eq (pc := 30) (tgt := 35) X d_T_goAlike_30 (by decide) (fun c => ?_) (fun c => ?_)
      · have hw := hw.1 c
        refine x_iinc (pc := 35) (d := 1) (lv' := [(0, .ref (q 3)), (1, .int x1), (2, .int x2), (3, .int (x3 + 1))]) X d_T_goAlike_35 3 rfl (by decide) (by decide) [1, 2, 3, 0] rfl ?_
        refine x_goto (pc := 38) (tgt := 2) X d_T_goAlike_38 (by decide) ?_
        exact ih x1 x2 (x3 + 1) σ2 hw
      · have hw := hw.2 c
        refine x_iconst (pc := 33) (v := 0) X d_T_goAlike_33 (by decide) ?_
        exact hR _ _ _ _ d_T_goAlike_34 rfl hw
set_option maxHeartbeats 4000000 in
set_option maxRecDepth 100000 in
theorem c_T_goAlike (l : Launch) (D : va_G) (cI : ClassId) (q : Nat → Nat) (σ : St) (x1 x2 : Int32) (post : Int32 → St → Prop) (hw : wp_T_goAlike x1 x2 σ post) : CI l D cI (wC cI q) y_T_goAlike b_T_goAlike 4 .boolean rm_T_goAlike [.ref (q 3), .int x1, .int x2] σ post := by
  refine CI_of (by decide) (Nat.le_of_ble_eq_true rfl) ?_
  intro Z hZl hZD hZI X hR
  subst hZl; subst hZD; subst hZI
  unfold wp_T_goAlike at hw
  show VV Z 0 0 (wC (zI Z) q σ) [(0, .ref (q 3)), (1, .int x1), (2, .int x2)] 0 []
  refine x_iconst (pc := 0) (v := 0) X d_T_goAlike_0 (by decide) ?_
  refine x_istore_n (pc := 1) (lv' := [(0, .ref (q 3)), (1, .int x1), (2, .int x2), (3, .int 0)]) X d_T_goAlike_1 (by decide) [1, 2, 3, 0] rfl ?_
  obtain ⟨n2, hw⟩ := hw
  exact wL_T_goAlike_2 X hR n2 x1 x2 0 σ hw
def rm_T_findLeader : Room := { frames := 2, cells := 0, slots := 0, locals := 47 }
set_option maxHeartbeats 4000000 in
set_option maxRecDepth 100000 in
theorem wL_T_findLeader_9 {Z : ZT} {q : Nat → Nat} {post : Int32 → St → Prop} (X : Cx Z "WayTable$Table" b_T_findLeader rm_T_findLeader 4) (hR : RI Z b_T_findLeader .int (wC (zI Z) q) post) : ∀ (n : Nat) (x1 x2 x3 : Int32) (σ : St), L_T_findLeader_9 post n x1 x2 x3 σ → VV Z 0 0 (wC (zI Z) q σ) [(0, .ref (q 3)), (1, .int x1), (2, .int x2), (3, .int x3)] 9 [] := by
  intro n
  induction n with
  | zero => intro x1 x2 x3 σ hw; exact False.elim hw
  | succ n ih =>
    intro x1 x2 x3 σ hw
    unfold L_T_findLeader_9 at hw
    refine x_iload_n (pc := 9) X d_T_findLeader_9 3 rfl ?_
    refine x_iload_n (pc := 10) X d_T_findLeader_10 1 rfl ?_
    refine x_icmp_ge (pc := 11) (tgt := 51) X d_T_findLeader_11 (by decide) (fun c => ?_) (fun c => ?_)
    · have hw := hw.1 c
      refine x_iload_n (pc := 51) X d_T_findLeader_51 1 rfl ?_
      exact hR _ _ _ _ d_T_findLeader_52 (vp_nar_int _) hw
    · have hw := hw.2 c
      refine x_aload_n (pc := 14) X d_T_findLeader_14 0 rfl ?_
      refine x_get (pc := 15) X tb_T 3 7 (by decide) mw_46 (atC_3 _ _ _) rfl d_T_findLeader_15 ?_
      refine x_iload_n (pc := 18) X d_T_findLeader_18 3 rfl ?_
      obtain ⟨h2, hw⟩ := hw
      refine x_iald (pc := 19) X 7 (atC_7 _ _ _) h2 d_T_findLeader_19 ?_
      refine x_iload_n (pc := 20) X d_T_findLeader_20 3 rfl ?_
      refine x_icmp_ne (pc := 21) (tgt := 45) X d_T_findLeader_21 (by decide) (fun c => ?_) (fun c => ?_)
      · have hw := hw.1 c
        refine x_iinc (pc := 45) (d := 1) (lv' := [(0, .ref (q 3)), (1, .int x1), (2, .int x2), (3, .int (x3 + 1))]) X d_T_findLeader_45 3 rfl (by decide) (by decide) [1, 2, 3, 0] rfl ?_
        refine x_goto (pc := 48) (tgt := 9) X d_T_findLeader_48 (by decide) ?_
        exact ih x1 x2 (x3 + 1) σ hw
      · have hw := hw.2 c
        refine x_aload_n (pc := 24) X d_T_findLeader_24 0 rfl ?_
        refine x_get (pc := 25) X tb_T 3 8 (by decide) mw_50 (atC_3 _ _ _) rfl d_T_findLeader_25 ?_
        refine x_iload_n (pc := 28) X d_T_findLeader_28 3 rfl ?_
        obtain ⟨h3, hw⟩ := hw
        refine x_iald (pc := 29) X 8 (atC_8 _ _ _) h3 d_T_findLeader_29 ?_
        refine x_iload_n (pc := 30) X d_T_findLeader_30 2 rfl ?_
        refine x_icmp_ne (pc := 31) (tgt := 45) X d_T_findLeader_31 (by decide) (fun c => ?_) (fun c => ?_)
        · have hw := hw.1 c
          refine x_iinc (pc := 45) (d := 1) (lv' := [(0, .ref (q 3)), (1, .int x1), (2, .int x2), (3, .int (x3 + 1))]) X d_T_findLeader_45 3 rfl (by decide) (by decide) [1, 2, 3, 0] rfl ?_
          refine x_goto (pc := 48) (tgt := 9) X d_T_findLeader_48 (by decide) ?_
          exact ih x1 x2 (x3 + 1) σ hw
        · have hw := hw.2 c
          refine x_aload_n (pc := 34) X d_T_findLeader_34 0 rfl ?_
          refine x_iload_n (pc := 35) X d_T_findLeader_35 3 rfl ?_
          refine x_iload_n (pc := 36) X d_T_findLeader_36 1 rfl ?_
          refine x_cvi (pc := 37) X [.int x3, .int x1] (c_T_goAlike (zl Z) (zD Z) (zI Z) q σ x3 x1 _ hw) mv_T_goAlike tb_T 3 (atC_3 _ _ _) mw_52 d_T_findLeader_37 rfl (Nat.le_of_ble_eq_true rfl) ⟨Nat.le_of_ble_eq_true rfl, Nat.le_of_ble_eq_true rfl⟩ ⟨rfl, rfl⟩ ⟨Nat.zero_le _, Nat.zero_le _⟩ ?_
          intro r4 σ4 hw
          refine x_if_eq (pc := 40) (tgt := 45) X d_T_findLeader_40 (by decide) (fun c => ?_) (fun c => ?_)
          · have hw := hw.1 c
            refine x_iinc (pc := 45) (d := 1) (lv' := [(0, .ref (q 3)), (1, .int x1), (2, .int x2), (3, .int (x3 + 1))]) X d_T_findLeader_45 3 rfl (by decide) (by decide) [1, 2, 3, 0] rfl ?_
            refine x_goto (pc := 48) (tgt := 9) X d_T_findLeader_48 (by decide) ?_
            exact ih x1 x2 (x3 + 1) σ4 hw
          · have hw := hw.2 c
            refine x_iload_n (pc := 43) X d_T_findLeader_43 3 rfl ?_
            exact hR _ _ _ _ d_T_findLeader_44 (vp_nar_int _) hw
set_option maxHeartbeats 4000000 in
set_option maxRecDepth 100000 in
theorem c_T_findLeader (l : Launch) (D : va_G) (cI : ClassId) (q : Nat → Nat) (σ : St) (x1 : Int32) (post : Int32 → St → Prop) (hw : wp_T_findLeader x1 σ post) : CI l D cI (wC cI q) y_T_findLeader b_T_findLeader 4 .int rm_T_findLeader [.ref (q 3), .int x1] σ post := by
  refine CI_of (by decide) (Nat.le_of_ble_eq_true rfl) ?_
  intro Z hZl hZD hZI X hR
  subst hZl; subst hZD; subst hZI
  unfold wp_T_findLeader at hw
  show VV Z 0 0 (wC (zI Z) q σ) [(0, .ref (q 3)), (1, .int x1)] 0 []
  refine x_aload_n (pc := 0) X d_T_findLeader_0 0 rfl ?_
  refine x_get (pc := 1) X tb_T 3 8 (by decide) mw_50 (atC_3 _ _ _) rfl d_T_findLeader_1 ?_
  refine x_iload_n (pc := 4) X d_T_findLeader_4 1 rfl ?_
  obtain ⟨h1, hw⟩ := hw
  refine x_iald (pc := 5) X 8 (atC_8 _ _ _) h1 d_T_findLeader_5 ?_
  refine x_istore_n (pc := 6) (lv' := [(0, .ref (q 3)), (1, .int x1), (2, .int (σ.2 5 x1.toNatClampNeg))]) X d_T_findLeader_6 (by decide) [1, 2, 0] rfl ?_
  refine x_iload_n (pc := 7) X d_T_findLeader_7 2 rfl ?_
  refine x_istore_n (pc := 8) (lv' := [(0, .ref (q 3)), (1, .int x1), (2, .int (σ.2 5 x1.toNatClampNeg)), (3, .int (σ.2 5 x1.toNatClampNeg))]) X d_T_findLeader_8 (by decide) [1, 2, 3, 0] rfl ?_
  obtain ⟨n2, hw⟩ := hw
  exact wL_T_findLeader_9 X hR n2 x1 (σ.2 5 x1.toNatClampNeg) (σ.2 5 x1.toNatClampNeg) σ hw
def rm_T_pair : Room := { frames := 1, cells := 0, slots := 0, locals := 21 }
set_option maxHeartbeats 4000000 in
set_option maxRecDepth 100000 in
theorem c_T_pair (l : Launch) (D : va_G) (cI : ClassId) (q : Nat → Nat) (σ : St) (x0 x1 : Int32) (post : Int32 → St → Prop) (hw : wp_T_pair x0 x1 σ post) : CI l D cI (wC cI q) y_T_pair b_T_pair 3 .int rm_T_pair [.int x0, .int x1] σ post := by
  refine CI_of (by decide) (Nat.le_of_ble_eq_true rfl) ?_
  intro Z hZl hZD hZI X hR
  subst hZl; subst hZD; subst hZI
  unfold wp_T_pair at hw
  show VV Z 0 0 (wC (zI Z) q σ) [(0, .int x0), (1, .int x1)] 0 []
  refine x_iload_n (pc := 0) X d_T_pair_0 0 rfl ?_
  refine x_iload_n (pc := 1) X d_T_pair_1 1 rfl ?_
  refine x_mmax (pc := 2) X mw_55 mw_56 mw_57 mw_58 (Nat.le_of_ble_eq_true rfl) (Nat.le_of_ble_eq_true rfl) (Nat.zero_le _) (Nat.zero_le _) d_T_pair_2 ?_
  refine x_istore_n (pc := 5) (lv' := [(0, .int x0), (1, .int x1), (2, .int (if x0 < x1 then x1 else x0))]) X d_T_pair_5 (by decide) [1, 2, 0] rfl ?_
  refine x_iload_n (pc := 6) X d_T_pair_6 2 rfl ?_
  refine x_iload_n (pc := 7) X d_T_pair_7 2 rfl ?_
  refine x_iconst (pc := 8) (v := 1) X d_T_pair_8 (by decide) ?_
  refine x_isub (pc := 9) X d_T_pair_9 ?_
  refine x_imul (pc := 10) X d_T_pair_10 ?_
  refine x_iconst (pc := 11) (v := (nI 2)) X d_T_pair_11 (by decide) ?_
  refine x_idiv (pc := 12) X d_T_pair_12 (by decide) ?_
  refine x_iload_n (pc := 13) X d_T_pair_13 0 rfl ?_
  refine x_iload_n (pc := 14) X d_T_pair_14 1 rfl ?_
  refine x_mmin (pc := 15) X mw_59 mw_60 mw_57 mw_61 (Nat.le_of_ble_eq_true rfl) (Nat.le_of_ble_eq_true rfl) (Nat.zero_le _) (Nat.zero_le _) d_T_pair_15 ?_
  refine x_iadd (pc := 18) X d_T_pair_18 ?_
  exact hR _ _ _ _ d_T_pair_19 (vp_nar_int _) hw
def rm_T_measure : Room := { frames := 2, cells := 0, slots := 0, locals := 43 }
set_option maxHeartbeats 4000000 in
set_option maxRecDepth 100000 in
theorem wL_T_measure_10 {Z : ZT} {q : Nat → Nat} {post : St → Prop} (X : Cx Z "WayTable$Table" b_T_measure rm_T_measure 5) (hR : RV Z b_T_measure (wC (zI Z) q) post) : ∀ (n : Nat) (x1 x2 x3 x4 : Int32) (σ : St), L_T_measure_10 post n x1 x2 x3 x4 σ → VV Z 0 0 (wC (zI Z) q σ) [(0, .ref (q 3)), (1, .int x1), (2, .int x2), (3, .int x3), (4, .int x4)] 10 [] := by
  intro n
  induction n with
  | zero => intro x1 x2 x3 x4 σ hw; exact False.elim hw
  | succ n ih =>
    intro x1 x2 x3 x4 σ hw
    unfold L_T_measure_10 at hw
    refine x_iload (pc := 10) X d_T_measure_10 4 rfl ?_
    refine x_aload_n (pc := 12) X d_T_measure_12 0 rfl ?_
    refine x_get (pc := 13) X tb_T 3 1 (by decide) mw_38 (atC_3 _ _ _) rfl d_T_measure_13 ?_
    refine x_icmp_ge (pc := 16) (tgt := 75) X d_T_measure_16 (by decide) (fun c => ?_) (fun c => ?_)
    · have hw := hw.1 c
      exact hR _ _ _ d_T_measure_75 hw
    · have hw := hw.2 c
      refine x_aload_n (pc := 19) X d_T_measure_19 0 rfl ?_
      refine x_get (pc := 20) X tb_T 3 7 (by decide) mw_46 (atC_3 _ _ _) rfl d_T_measure_20 ?_
      refine x_iload (pc := 23) X d_T_measure_23 4 rfl ?_
      obtain ⟨h2, hw⟩ := hw
      refine x_iald (pc := 25) X 7 (atC_7 _ _ _) h2 d_T_measure_25 ?_
      refine x_iload (pc := 26) X d_T_measure_26 4 rfl ?_
      refine x_icmp_ne (pc := 28) (tgt := 69) X d_T_measure_28 (by decide) (fun c => ?_) (fun c => ?_)
      · have hw := hw.1 c
        refine x_iinc (pc := 69) (d := 1) (lv' := [(0, .ref (q 3)), (1, .int x1), (2, .int x2), (3, .int x3), (4, .int (x4 + 1))]) X d_T_measure_69 4 rfl (by decide) (by decide) [1, 2, 3, 4, 0] rfl ?_
        refine x_goto (pc := 72) (tgt := 10) X d_T_measure_72 (by decide) ?_
        exact ih x1 x2 x3 (x4 + 1) σ hw
      · have hw := hw.2 c
        refine x_iload (pc := 31) X d_T_measure_31 4 rfl ?_
        refine x_iload_n (pc := 33) X d_T_measure_33 1 rfl ?_
        refine x_icmp_eq (pc := 34) (tgt := 69) X d_T_measure_34 (by decide) (fun c => ?_) (fun c => ?_)
        · have hw := hw.1 c
          refine x_iinc (pc := 69) (d := 1) (lv' := [(0, .ref (q 3)), (1, .int x1), (2, .int x2), (3, .int x3), (4, .int (x4 + 1))]) X d_T_measure_69 4 rfl (by decide) (by decide) [1, 2, 3, 4, 0] rfl ?_
          refine x_goto (pc := 72) (tgt := 10) X d_T_measure_72 (by decide) ?_
          exact ih x1 x2 x3 (x4 + 1) σ hw
        · have hw := hw.2 c
          refine x_aload_n (pc := 37) X d_T_measure_37 0 rfl ?_
          refine x_get (pc := 38) X tb_T 3 11 (by decide) mw_54 (atC_3 _ _ _) rfl d_T_measure_38 ?_
          refine x_iload (pc := 41) X d_T_measure_41 4 rfl ?_
          refine x_iload_n (pc := 43) X d_T_measure_43 1 rfl ?_
          refine x_csi (pc := 44) X [.int x4, .int x1] (c_T_pair (zl Z) (zD Z) (zI Z) q σ x4 x1 _ hw) ms_T_pair mw_62 d_T_measure_44 rfl (Nat.le_of_ble_eq_true rfl) ⟨Nat.le_of_ble_eq_true rfl, Nat.le_of_ble_eq_true rfl⟩ ⟨rfl, rfl⟩ ⟨Nat.zero_le _, Nat.zero_le _⟩ ?_
          intro r3 σ3 hw
          refine x_iload (pc := 47) X d_T_measure_47 4 rfl ?_
          refine x_iload_n (pc := 49) X d_T_measure_49 3 rfl ?_
          refine x_icmp_ne (pc := 50) (tgt := 57) X d_T_measure_50 (by decide) (fun c => ?_) (fun c => ?_)
          · have hw := hw.1 c
            refine x_aload_n (pc := 57) X d_T_measure_57 0 rfl ?_
            refine x_get (pc := 58) X tb_T 3 11 (by decide) mw_54 (atC_3 _ _ _) rfl d_T_measure_58 ?_
            refine x_iload (pc := 61) X d_T_measure_61 4 rfl ?_
            refine x_iload_n (pc := 63) X d_T_measure_63 3 rfl ?_
            refine x_csi (pc := 64) X [.int x4, .int x3] (c_T_pair (zl Z) (zD Z) (zI Z) q σ3 x4 x3 _ hw) ms_T_pair mw_62 d_T_measure_64 rfl (Nat.le_of_ble_eq_true rfl) ⟨Nat.le_of_ble_eq_true rfl, Nat.le_of_ble_eq_true rfl⟩ ⟨rfl, rfl⟩ ⟨Nat.zero_le _, Nat.zero_le _⟩ ?_
            intro r4 σ4 hw
            obtain ⟨h5, hw⟩ := hw
            refine x_iald (pc := 67) X 11 (atC_11 _ _ _) h5 d_T_measure_67 ?_
            obtain ⟨h6, hw⟩ := hw
            refine x_iast (pc := 68) (ws' := (wC (zI Z) q (ua σ4 8 r3.toNatClampNeg (σ4.2 8 r4.toNatClampNeg)))) X 11 (atC_11 _ _ _) h6 (stC_11 _ _ _ _) d_T_measure_68 ?_
            refine x_iinc (pc := 69) (d := 1) (lv' := [(0, .ref (q 3)), (1, .int x1), (2, .int x2), (3, .int x3), (4, .int (x4 + 1))]) X d_T_measure_69 4 rfl (by decide) (by decide) [1, 2, 3, 4, 0] rfl ?_
            refine x_goto (pc := 72) (tgt := 10) X d_T_measure_72 (by decide) ?_
            exact ih x1 x2 x3 (x4 + 1) (ua σ4 8 r3.toNatClampNeg (σ4.2 8 r4.toNatClampNeg)) hw
          · have hw := hw.2 c
            refine x_iload_n (pc := 53) X d_T_measure_53 2 rfl ?_
            refine x_goto (pc := 54) (tgt := 68) X d_T_measure_54 (by decide) ?_
            obtain ⟨h7, hw⟩ := hw
            refine x_iast (pc := 68) (ws' := (wC (zI Z) q (ua σ3 8 r3.toNatClampNeg x2))) X 11 (atC_11 _ _ _) h7 (stC_11 _ _ _ _) d_T_measure_68 ?_
            refine x_iinc (pc := 69) (d := 1) (lv' := [(0, .ref (q 3)), (1, .int x1), (2, .int x2), (3, .int x3), (4, .int (x4 + 1))]) X d_T_measure_69 4 rfl (by decide) (by decide) [1, 2, 3, 4, 0] rfl ?_
            refine x_goto (pc := 72) (tgt := 10) X d_T_measure_72 (by decide) ?_
            exact ih x1 x2 x3 (x4 + 1) (ua σ3 8 r3.toNatClampNeg x2) hw
set_option maxHeartbeats 4000000 in
set_option maxRecDepth 100000 in
theorem c_T_measure (l : Launch) (D : va_G) (cI : ClassId) (q : Nat → Nat) (σ : St) (x1 x2 : Int32) (post : St → Prop) (hw : wp_T_measure x1 x2 σ post) : CV l D cI (wC cI q) y_T_measure b_T_measure 5 rm_T_measure [.ref (q 3), .int x1, .int x2] σ post := by
  refine CV_of (by decide) (Nat.le_of_ble_eq_true rfl) ?_
  intro Z hZl hZD hZI X hR
  subst hZl; subst hZD; subst hZI
  unfold wp_T_measure at hw
  show VV Z 0 0 (wC (zI Z) q σ) [(0, .ref (q 3)), (1, .int x1), (2, .int x2)] 0 []
  refine x_aload_n (pc := 0) X d_T_measure_0 0 rfl ?_
  refine x_get (pc := 1) X tb_T 3 8 (by decide) mw_50 (atC_3 _ _ _) rfl d_T_measure_1 ?_
  refine x_iload_n (pc := 4) X d_T_measure_4 1 rfl ?_
  obtain ⟨h1, hw⟩ := hw
  refine x_iald (pc := 5) X 8 (atC_8 _ _ _) h1 d_T_measure_5 ?_
  refine x_istore_n (pc := 6) (lv' := [(0, .ref (q 3)), (1, .int x1), (2, .int x2), (3, .int (σ.2 5 x1.toNatClampNeg))]) X d_T_measure_6 (by decide) [1, 2, 3, 0] rfl ?_
  refine x_iconst (pc := 7) (v := 0) X d_T_measure_7 (by decide) ?_
  refine x_istore (pc := 8) (lv' := [(0, .ref (q 3)), (1, .int x1), (2, .int x2), (3, .int (σ.2 5 x1.toNatClampNeg)), (4, .int 0)]) X d_T_measure_8 (by decide) [1, 2, 3, 4, 0] rfl ?_
  obtain ⟨n2, hw⟩ := hw
  exact wL_T_measure_10 X hR n2 x1 x2 (σ.2 5 x1.toNatClampNeg) 0 σ hw
