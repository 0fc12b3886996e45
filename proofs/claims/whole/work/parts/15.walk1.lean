def rm_A_fill2_2 : Room := { frames := 0, cells := 0, slots := 0, locals := 0 }
set_option maxHeartbeats 4000000 in
set_option maxRecDepth 100000 in
theorem wL_A_fill2_2_5 {Z : ZT} {q : Nat → Nat} {post : St → Prop} (X : Cx Z "java/util/Arrays" b_A_fill2 rm_A_fill2_2 4) (hR : RV Z b_A_fill2 (wC (zI Z) q) post) : ∀ (n : Nat) (x1 x2 x3 : Int32) (σ : St), L_A_fill2_2_5 post n x1 x2 x3 σ → VV Z 0 0 (wC (zI Z) q σ) [(0, .ref (q 2)), (1, .int x1), (2, .int x2), (3, .int x3)] 5 [] := by
  intro n
  induction n with
  | zero => intro x1 x2 x3 σ hw; exact False.elim hw
  | succ n ih =>
    intro x1 x2 x3 σ hw
    unfold L_A_fill2_2_5 at hw
    refine x_iload_n (pc := 5) X d_A_fill2_5 2 rfl ?_
    refine x_iload_n (pc := 6) X d_A_fill2_6 3 rfl ?_
    refine x_icmp_ge (pc := 7) (tgt := 20) X d_A_fill2_7 (by decide) (fun c => ?_) (fun c => ?_)
    · have hw := hw.1 c
      exact hR _ _ _ d_A_fill2_20 hw
    · have hw := hw.2 c
      refine x_aload_n (pc := 10) X d_A_fill2_10 0 rfl ?_
      refine x_iload_n (pc := 11) X d_A_fill2_11 2 rfl ?_
      refine x_iload_n (pc := 12) X d_A_fill2_12 1 rfl ?_
      obtain ⟨h1, hw⟩ := hw
      refine x_iast (pc := 13) (ws' := (wC (zI Z) q (ua σ 0 x2.toNatClampNeg x1))) X 2 (atC_2 _ _ _) h1 (stC_2 _ _ _ _) d_A_fill2_13 ?_
      refine x_iinc (pc := 14) (d := 1) (lv' := [(0, .ref (q 2)), (1, .int x1), (2, .int (x2 + 1)), (3, .int x3)]) X d_A_fill2_14 2 rfl (by decide) (by decide) [1, 2, 0, 3] rfl ?_
      refine x_goto (pc := 17) (tgt := 5) X d_A_fill2_17 (by decide) ?_
      exact ih x1 (x2 + 1) x3 (ua σ 0 x2.toNatClampNeg x1) hw
set_option maxHeartbeats 4000000 in
set_option maxRecDepth 100000 in
theorem c_A_fill2_2 (l : Launch) (D : va_G) (cI : ClassId) (q : Nat → Nat) (σ : St) (x1 : Int32) (post : St → Prop) (hw : wp_A_fill2_2 x1 σ post) : CV l D cI (wC cI q) y_A_fill2 b_A_fill2 4 rm_A_fill2_2 [.ref (q 2), .int x1] σ post := by
  refine CV_of (by decide) (Nat.le_of_ble_eq_true rfl) ?_
  intro Z hZl hZD hZI X hR
  subst hZl; subst hZD; subst hZI
  unfold wp_A_fill2_2 at hw
  show VV Z 0 0 (wC (zI Z) q σ) [(0, .ref (q 2)), (1, .int x1)] 0 []
  refine x_iconst (pc := 0) (v := 0) X d_A_fill2_0 (by decide) ?_
  refine x_istore_n (pc := 1) (lv' := [(0, .ref (q 2)), (1, .int x1), (2, .int 0)]) X d_A_fill2_1 (by decide) [1, 2, 0] rfl ?_
  refine x_aload_n (pc := 2) X d_A_fill2_2 0 rfl ?_
  refine x_alen (pc := 3) X 2 (atC_2 _ _ _) d_A_fill2_3 ?_
  refine x_istore_n (pc := 4) (lv' := [(0, .ref (q 2)), (1, .int x1), (2, .int 0), (3, .int (nI 960))]) X d_A_fill2_4 (by decide) [1, 2, 3, 0] rfl ?_
  obtain ⟨n2, hw⟩ := hw
  exact wL_A_fill2_2_5 X hR n2 x1 0 (nI 960) σ hw
def rm_G_clear : Room := { frames := 1, cells := 0, slots := 0, locals := 23 }
set_option maxHeartbeats 4000000 in
set_option maxRecDepth 100000 in
theorem c_G_clear (l : Launch) (D : va_G) (cI : ClassId) (q : Nat → Nat) (σ : St) (x1 x2 : Int32) (post : St → Prop) (hw : wp_G_clear x1 x2 σ post) : CV l D cI (wC cI q) y_G_clear b_G_clear 3 rm_G_clear [.ref (q 1), .int x1, .int x2] σ post := by
  refine CV_of (by decide) (Nat.le_of_ble_eq_true rfl) ?_
  intro Z hZl hZD hZI X hR
  subst hZl; subst hZD; subst hZI
  unfold wp_G_clear at hw
  show VV Z 0 0 (wC (zI Z) q σ) [(0, .ref (q 1)), (1, .int x1), (2, .int x2)] 0 []
  refine x_aload_n (pc := 0) X d_G_clear_0 0 rfl ?_
  refine x_iload_n (pc := 1) X d_G_clear_1 1 rfl ?_
  refine x_put (pc := 2) (ws' := (wC (zI Z) q (us σ 1 x1))) X tb_G 1 0 (by decide) mw_1 (atC_1 _ _ _) rfl pI (Nat.le_of_ble_eq_true rfl) (ptC_1 _ _ _ _) d_G_clear_2 ?_
  refine x_aload_n (pc := 5) X d_G_clear_5 0 rfl ?_
  refine x_iload_n (pc := 6) X d_G_clear_6 2 rfl ?_
  refine x_put (pc := 7) (ws' := (wC (zI Z) q (us (us σ 1 x1) 2 x2))) X tb_G 1 1 (by decide) mw_2 (atC_1 _ _ _) rfl pI (Nat.le_of_ble_eq_true rfl) (ptC_2 _ _ _ _) d_G_clear_7 ?_
  refine x_aload_n (pc := 10) X d_G_clear_10 0 rfl ?_
  refine x_iconst (pc := 11) (v := 0) X d_G_clear_11 (by decide) ?_
  refine x_put (pc := 12) (ws' := (wC (zI Z) q (us (us (us σ 1 x1) 2 x2) 3 0))) X tb_G 1 2 (by decide) mw_3 (atC_1 _ _ _) rfl pI (Nat.le_of_ble_eq_true rfl) (ptC_3 _ _ _ _) d_G_clear_12 ?_
  refine x_aload_n (pc := 15) X d_G_clear_15 0 rfl ?_
  refine x_get (pc := 16) X tb_G 1 3 (by decide) mw_4 (atC_1 _ _ _) rfl d_G_clear_16 ?_
  refine x_iconst (pc := 19) (v := 0) X d_G_clear_19 (by decide) ?_
  refine x_csv (pc := 20) X [.ref (q 2), .int 0] (c_A_fill2_2 (zl Z) (zD Z) (zI Z) q (us (us (us σ 1 x1) 2 x2) 3 0) 0 _ hw) ms_A_fill2 mw_5 d_G_clear_20 rfl (Nat.le_of_ble_eq_true rfl) ⟨Nat.le_of_ble_eq_true rfl, Nat.le_of_ble_eq_true rfl⟩ ⟨rfl, rfl⟩ ⟨Nat.zero_le _, Nat.zero_le _⟩ ?_
  intro σ1 hw
  exact hR _ _ _ d_G_clear_23 hw
def rm_W_begin : Room := { frames := 2, cells := 0, slots := 0, locals := 45 }
set_option maxHeartbeats 4000000 in
set_option maxRecDepth 100000 in
theorem c_W_begin (l : Launch) (D : va_G) (cI : ClassId) (q : Nat → Nat) (σ : St) (x1 x2 : Int32) (post : Int32 → St → Prop) (hw : wp_W_begin x1 x2 σ post) : CI l D cI (wC cI q) y_W_begin b_W_begin 3 .boolean rm_W_begin [.ref (q 0), .int x1, .int x2] σ post := by
  refine CI_of (by decide) (Nat.le_of_ble_eq_true rfl) ?_
  intro Z hZl hZD hZI X hR
  subst hZl; subst hZD; subst hZI
  unfold wp_W_begin at hw
  show VV Z 0 0 (wC (zI Z) q σ) [(0, .ref (q 0)), (1, .int x1), (2, .int x2)] 0 []
  refine x_iload_n (pc := 0) X d_W_begin_0 1 rfl ?_
  refine x_iconst (pc := 1) (v := 1) X d_W_begin_1 (by decide) ?_
  refine x_icmp_lt (pc := 2) (tgt := 22) X d_W_begin_2 (by decide) (fun c => ?_) (fun c => ?_)
  · have hw := hw.1 c
    refine x_iconst (pc := 22) (v := 0) X d_W_begin_22 (by decide) ?_
    exact hR _ _ _ _ d_W_begin_23 rfl hw
  · have hw := hw.2 c
    refine x_iload_n (pc := 5) X d_W_begin_5 1 rfl ?_
    refine x_bipush (pc := 6) (v := (nI 24)) X d_W_begin_6 (by decide) ?_
    refine x_icmp_gt (pc := 8) (tgt := 22) X d_W_begin_8 (by decide) (fun c => ?_) (fun c => ?_)
    · have hw := hw.1 c
      refine x_iconst (pc := 22) (v := 0) X d_W_begin_22 (by decide) ?_
      exact hR _ _ _ _ d_W_begin_23 rfl hw
    · have hw := hw.2 c
      refine x_iload_n (pc := 11) X d_W_begin_11 2 rfl ?_
      refine x_iconst (pc := 12) (v := 1) X d_W_begin_12 (by decide) ?_
      refine x_icmp_lt (pc := 13) (tgt := 22) X d_W_begin_13 (by decide) (fun c => ?_) (fun c => ?_)
      · have hw := hw.1 c
        refine x_iconst (pc := 22) (v := 0) X d_W_begin_22 (by decide) ?_
        exact hR _ _ _ _ d_W_begin_23 rfl hw
      · have hw := hw.2 c
        refine x_iload_n (pc := 16) X d_W_begin_16 2 rfl ?_
        refine x_bipush (pc := 17) (v := (nI 40)) X d_W_begin_17 (by decide) ?_
        refine x_icmp_le (pc := 19) (tgt := 24) X d_W_begin_19 (by decide) (fun c => ?_) (fun c => ?_)
        · have hw := hw.1 c
          refine x_aload_n (pc := 24) X d_W_begin_24 0 rfl ?_
          refine x_get (pc := 25) X tb_W 0 0 (by decide) mw_0 (atC_0 _ _ _) rfl d_W_begin_25 ?_
          refine x_iload_n (pc := 28) X d_W_begin_28 1 rfl ?_
          refine x_iload_n (pc := 29) X d_W_begin_29 2 rfl ?_
          refine x_cnv (pc := 30) X [.int x1, .int x2] (c_G_clear (zl Z) (zD Z) (zI Z) q σ x1 x2 _ hw) mv_G_clear tb_G 1 (atC_1 _ _ _) nw_6 d_W_begin_30 rfl (Nat.le_of_ble_eq_true rfl) ⟨Nat.le_of_ble_eq_true rfl, Nat.le_of_ble_eq_true rfl⟩ ⟨rfl, rfl⟩ ⟨Nat.zero_le _, Nat.zero_le _⟩ ?_
          intro σ1 hw
          refine x_iconst (pc := 33) (v := 1) X d_W_begin_33 (by decide) ?_
          exact hR _ _ _ _ d_W_begin_34 rfl hw
        · have hw := hw.2 c
          refine x_iconst (pc := 22) (v := 0) X d_W_begin_22 (by decide) ?_
          exact hR _ _ _ _ d_W_begin_23 rfl hw
def rm_M_begin : Room := { frames := 0, cells := 0, slots := 0, locals := 0 }
set_option maxHeartbeats 4000000 in
set_option maxRecDepth 100000 in
theorem wL_M_begin_46 {Z : ZT} {q : Nat → Nat} {post : Int32 → St → Prop} (X : Cx Z "WayTableModel" b_M_begin rm_M_begin 4) (hR : RI Z b_M_begin .boolean (wM (zI Z) q) post) : ∀ (n : Nat) (x1 x2 x3 : Int32) (σ : St), L_M_begin_46 post n x1 x2 x3 σ → VV Z 0 0 (wM (zI Z) q σ) [(0, .ref (q 0)), (1, .int x1), (2, .int x2), (3, .int x3)] 46 [] := by
  intro n
  induction n with
  | zero => intro x1 x2 x3 σ hw; exact False.elim hw
  | succ n ih =>
    intro x1 x2 x3 σ hw
    unfold L_M_begin_46 at hw
    refine x_iload_n (pc := 46) X d_M_begin_46 3 rfl ?_
    refine x_sipush (pc := 47) (v := (nI 960)) X d_M_begin_47 (by decide) ?_
    refine x_icmp_ge (pc := 50) (tgt := 66) X d_M_begin_50 (by decide) (fun c => ?_) (fun c => ?_)
    · have hw := hw.1 c
      refine x_iconst (pc := 66) (v := 1) X d_M_begin_66 (by decide) ?_
      exact hR _ _ _ _ d_M_begin_67 rfl hw
    · have hw := hw.2 c
      refine x_aload_n (pc := 53) X d_M_begin_53 0 rfl ?_
      refine x_get (pc := 54) X tb_M 0 4 (by decide) mw_11 (atM_0 _ _ _) rfl d_M_begin_54 ?_
      refine x_iload_n (pc := 57) X d_M_begin_57 3 rfl ?_
      refine x_iconst (pc := 58) (v := 0) X d_M_begin_58 (by decide) ?_
      obtain ⟨h1, hw⟩ := hw
      refine x_iast (pc := 59) (ws' := (wM (zI Z) q (ua σ 0 x3.toNatClampNeg 0))) X 1 (atM_1 _ _ _) h1 (stM_1 _ _ _ _) d_M_begin_59 ?_
      refine x_iinc (pc := 60) (d := 1) (lv' := [(0, .ref (q 0)), (1, .int x1), (2, .int x2), (3, .int (x3 + 1))]) X d_M_begin_60 3 rfl (by decide) (by decide) [1, 2, 3, 0] rfl ?_
      refine x_goto (pc := 63) (tgt := 46) X d_M_begin_63 (by decide) ?_
      exact ih x1 x2 (x3 + 1) (ua σ 0 x3.toNatClampNeg 0) hw
set_option maxHeartbeats 4000000 in
set_option maxRecDepth 100000 in
theorem c_M_begin (l : Launch) (D : va_G) (cI : ClassId) (q : Nat → Nat) (σ : St) (x1 x2 : Int32) (post : Int32 → St → Prop) (hw : wp_M_begin x1 x2 σ post) : CI l D cI (wM cI q) y_M_begin b_M_begin 4 .boolean rm_M_begin [.ref (q 0), .int x1, .int x2] σ post := by
  refine CI_of (by decide) (Nat.le_of_ble_eq_true rfl) ?_
  intro Z hZl hZD hZI X hR
  subst hZl; subst hZD; subst hZI
  unfold wp_M_begin at hw
  show VV Z 0 0 (wM (zI Z) q σ) [(0, .ref (q 0)), (1, .int x1), (2, .int x2)] 0 []
  refine x_aload_n (pc := 0) X d_M_begin_0 0 rfl ?_
  refine x_iconst (pc := 1) (v := 0) X d_M_begin_1 (by decide) ?_
  refine x_put (pc := 2) (ws' := (wM (zI Z) q (us σ 0 0))) X tb_M 0 0 (by decide) mw_7 (atM_0 _ _ _) rfl pI (Nat.le_of_ble_eq_true rfl) (ptM_0 _ _ _ _) d_M_begin_2 ?_
  refine x_iload_n (pc := 5) X d_M_begin_5 1 rfl ?_
  refine x_iconst (pc := 6) (v := 1) X d_M_begin_6 (by decide) ?_
  refine x_icmp_lt (pc := 7) (tgt := 27) X d_M_begin_7 (by decide) (fun c => ?_) (fun c => ?_)
  · have hw := hw.1 c
    refine x_iconst (pc := 27) (v := 0) X d_M_begin_27 (by decide) ?_
    exact hR _ _ _ _ d_M_begin_28 rfl hw
  · have hw := hw.2 c
    refine x_iload_n (pc := 10) X d_M_begin_10 1 rfl ?_
    refine x_bipush (pc := 11) (v := (nI 24)) X d_M_begin_11 (by decide) ?_
    refine x_icmp_gt (pc := 13) (tgt := 27) X d_M_begin_13 (by decide) (fun c => ?_) (fun c => ?_)
    · have hw := hw.1 c
      refine x_iconst (pc := 27) (v := 0) X d_M_begin_27 (by decide) ?_
      exact hR _ _ _ _ d_M_begin_28 rfl hw
    · have hw := hw.2 c
      refine x_iload_n (pc := 16) X d_M_begin_16 2 rfl ?_
      refine x_iconst (pc := 17) (v := 1) X d_M_begin_17 (by decide) ?_
      refine x_icmp_lt (pc := 18) (tgt := 27) X d_M_begin_18 (by decide) (fun c => ?_) (fun c => ?_)
      · have hw := hw.1 c
        refine x_iconst (pc := 27) (v := 0) X d_M_begin_27 (by decide) ?_
        exact hR _ _ _ _ d_M_begin_28 rfl hw
      · have hw := hw.2 c
        refine x_iload_n (pc := 21) X d_M_begin_21 2 rfl ?_
        refine x_bipush (pc := 22) (v := (nI 40)) X d_M_begin_22 (by decide) ?_
        refine x_icmp_le (pc := 24) (tgt := 29) X d_M_begin_24 (by decide) (fun c => ?_) (fun c => ?_)
        · have hw := hw.1 c
          refine x_aload_n (pc := 29) X d_M_begin_29 0 rfl ?_
          refine x_iload_n (pc := 30) X d_M_begin_30 1 rfl ?_
          refine x_put (pc := 31) (ws' := (wM (zI Z) q (us (us σ 0 0) 1 x1))) X tb_M 0 1 (by decide) mw_8 (atM_0 _ _ _) rfl pI (Nat.le_of_ble_eq_true rfl) (ptM_1 _ _ _ _) d_M_begin_31 ?_
          refine x_aload_n (pc := 34) X d_M_begin_34 0 rfl ?_
          refine x_iload_n (pc := 35) X d_M_begin_35 2 rfl ?_
          refine x_put (pc := 36) (ws' := (wM (zI Z) q (us (us (us σ 0 0) 1 x1) 2 x2))) X tb_M 0 2 (by decide) mw_9 (atM_0 _ _ _) rfl pI (Nat.le_of_ble_eq_true rfl) (ptM_2 _ _ _ _) d_M_begin_36 ?_
          refine x_aload_n (pc := 39) X d_M_begin_39 0 rfl ?_
          refine x_iconst (pc := 40) (v := 0) X d_M_begin_40 (by decide) ?_
          refine x_put (pc := 41) (ws' := (wM (zI Z) q (us (us (us (us σ 0 0) 1 x1) 2 x2) 3 0))) X tb_M 0 3 (by decide) mw_10 (atM_0 _ _ _) rfl pI (Nat.le_of_ble_eq_true rfl) (ptM_3 _ _ _ _) d_M_begin_41 ?_
          refine x_iconst (pc := 44) (v := 0) X d_M_begin_44 (by decide) ?_
          refine x_istore_n (pc := 45) (lv' := [(0, .ref (q 0)), (1, .int x1), (2, .int x2), (3, .int 0)]) X d_M_begin_45 (by decide) [1, 2, 3, 0] rfl ?_
          obtain ⟨n2, hw⟩ := hw
          exact wL_M_begin_46 X hR n2 x1 x2 0 (us (us (us (us σ 0 0) 1 x1) 2 x2) 3 0) hw
        · have hw := hw.2 c
          refine x_iconst (pc := 27) (v := 0) X d_M_begin_27 (by decide) ?_
          exact hR _ _ _ _ d_M_begin_28 rfl hw
def rm_G_hasNode : Room := { frames := 0, cells := 0, slots := 0, locals := 0 }
set_option maxHeartbeats 4000000 in
set_option maxRecDepth 100000 in
theorem c_G_hasNode (l : Launch) (D : va_G) (cI : ClassId) (q : Nat → Nat) (σ : St) (x1 : Int32) (post : Int32 → St → Prop) (hw : wp_G_hasNode x1 σ post) : CI l D cI (wC cI q) y_G_hasNode b_G_hasNode 2 .boolean rm_G_hasNode [.ref (q 1), .int x1] σ post := by
  refine CI_of (by decide) (Nat.le_of_ble_eq_true rfl) ?_
  intro Z hZl hZD hZI X hR
  subst hZl; subst hZD; subst hZI
  unfold wp_G_hasNode at hw
  show VV Z 0 0 (wC (zI Z) q σ) [(0, .ref (q 1)), (1, .int x1)] 0 []
  refine x_iload_n (pc := 0) X d_G_hasNode_0 1 rfl ?_
  refine x_if_lt (pc := 1) (tgt := 16) X d_G_hasNode_1 (by decide) (fun c => ?_) (fun c => ?_)
  · have hw := hw.1 c
    refine x_iconst (pc := 16) (v := 0) X d_G_hasNode_16 (by decide) ?_
    exact hR _ _ _ _ d_G_hasNode_17 rfl hw
  · have hw := hw.2 c
    refine x_iload_n (pc := 4) X d_G_hasNode_4 1 rfl ?_
    refine x_aload_n (pc := 5) X d_G_hasNode_5 0 rfl ?_
    refine x_get (pc := 6) X tb_G 1 0 (by decide) mw_1 (atC_1 _ _ _) rfl d_G_hasNode_6 ?_
    refine x_icmp_ge (pc := 9) (tgt := 16) X d_G_hasNode_9 (by decide) (fun c => ?_) (fun c => ?_)
    · have hw := hw.1 c
      refine x_iconst (pc := 16) (v := 0) X d_G_hasNode_16 (by decide) ?_
      exact hR _ _ _ _ d_G_hasNode_17 rfl hw
    · have hw := hw.2 c
      refine x_iconst (pc := 12) (v := 1) X d_G_hasNode_12 (by decide) ?_
      refine x_goto (pc := 13) (tgt := 17) X d_G_hasNode_13 (by decide) ?_
      exact hR _ _ _ _ d_G_hasNode_17 rfl hw
def rm_G_hasLetter : Room := { frames := 0, cells := 0, slots := 0, locals := 0 }
set_option maxHeartbeats 4000000 in
set_option maxRecDepth 100000 in
theorem c_G_hasLetter (l : Launch) (D : va_G) (cI : ClassId) (q : Nat → Nat) (σ : St) (x1 : Int32) (post : Int32 → St → Prop) (hw : wp_G_hasLetter x1 σ post) : CI l D cI (wC cI q) y_G_hasLetter b_G_hasLetter 2 .boolean rm_G_hasLetter [.ref (q 1), .int x1] σ post := by
  refine CI_of (by decide) (Nat.le_of_ble_eq_true rfl) ?_
  intro Z hZl hZD hZI X hR
  subst hZl; subst hZD; subst hZI
  unfold wp_G_hasLetter at hw
  show VV Z 0 0 (wC (zI Z) q σ) [(0, .ref (q 1)), (1, .int x1)] 0 []
  refine x_iload_n (pc := 0) X d_G_hasLetter_0 1 rfl ?_
  refine x_if_lt (pc := 1) (tgt := 16) X d_G_hasLetter_1 (by decide) (fun c => ?_) (fun c => ?_)
  · have hw := hw.1 c
    refine x_iconst (pc := 16) (v := 0) X d_G_hasLetter_16 (by decide) ?_
    exact hR _ _ _ _ d_G_hasLetter_17 rfl hw
  · have hw := hw.2 c
    refine x_iload_n (pc := 4) X d_G_hasLetter_4 1 rfl ?_
    refine x_aload_n (pc := 5) X d_G_hasLetter_5 0 rfl ?_
    refine x_get (pc := 6) X tb_G 1 1 (by decide) mw_2 (atC_1 _ _ _) rfl d_G_hasLetter_6 ?_
    refine x_icmp_ge (pc := 9) (tgt := 16) X d_G_hasLetter_9 (by decide) (fun c => ?_) (fun c => ?_)
    · have hw := hw.1 c
      refine x_iconst (pc := 16) (v := 0) X d_G_hasLetter_16 (by decide) ?_
      exact hR _ _ _ _ d_G_hasLetter_17 rfl hw
    · have hw := hw.2 c
      refine x_iconst (pc := 12) (v := 1) X d_G_hasLetter_12 (by decide) ?_
      refine x_goto (pc := 13) (tgt := 17) X d_G_hasLetter_13 (by decide) ?_
      exact hR _ _ _ _ d_G_hasLetter_17 rfl hw
def rm_G_canHold : Room := { frames := 1, cells := 0, slots := 0, locals := 21 }
set_option maxHeartbeats 4000000 in
set_option maxRecDepth 100000 in
theorem c_G_canHold (l : Launch) (D : va_G) (cI : ClassId) (q : Nat → Nat) (σ : St) (x1 x2 x3 : Int32) (post : Int32 → St → Prop) (hw : wp_G_canHold x1 x2 x3 σ post) : CI l D cI (wC cI q) y_G_canHold b_G_canHold 4 .boolean rm_G_canHold [.ref (q 1), .int x1, .int x2, .int x3] σ post := by
  refine CI_of (by decide) (Nat.le_of_ble_eq_true rfl) ?_
  intro Z hZl hZD hZI X hR
  subst hZl; subst hZD; subst hZI
  unfold wp_G_canHold at hw
  show VV Z 0 0 (wC (zI Z) q σ) [(0, .ref (q 1)), (1, .int x1), (2, .int x2), (3, .int x3)] 0 []
  refine x_aload_n (pc := 0) X d_G_canHold_0 0 rfl ?_
  refine x_iload_n (pc := 1) X d_G_canHold_1 1 rfl ?_
  refine x_cvi (pc := 2) X [.int x1] (c_G_hasNode (zl Z) (zD Z) (zI Z) q σ x1 _ hw) mv_G_hasNode tb_G 1 (atC_1 _ _ _) mw_12 d_G_canHold_2 rfl (Nat.le_of_ble_eq_true rfl) ⟨Nat.le_of_ble_eq_true rfl, Nat.le_of_ble_eq_true rfl⟩ ⟨rfl, rfl⟩ ⟨Nat.zero_le _, Nat.zero_le _⟩ ?_
  intro r1 σ1 hw
  refine x_if_eq (pc := 5) (tgt := 28) X d_G_canHold_5 (by decide) (fun c => ?_) (fun c => ?_)
  · have hw := hw.1 c
    refine x_iconst (pc := 28) (v := 0) X d_G_canHold_28 (by decide) ?_
    exact hR _ _ _ _ d_G_canHold_29 rfl hw
  · have hw := hw.2 c
    refine x_aload_n (pc := 8) X d_G_canHold_8 0 rfl ?_
    refine x_iload_n (pc := 9) X d_G_canHold_9 2 rfl ?_
    refine x_cvi (pc := 10) X [.int x2] (c_G_hasLetter (zl Z) (zD Z) (zI Z) q σ1 x2 _ hw) mv_G_hasLetter tb_G 1 (atC_1 _ _ _) mw_13 d_G_canHold_10 rfl (Nat.le_of_ble_eq_true rfl) ⟨Nat.le_of_ble_eq_true rfl, Nat.le_of_ble_eq_true rfl⟩ ⟨rfl, rfl⟩ ⟨Nat.zero_le _, Nat.zero_le _⟩ ?_
    intro r2 σ2 hw
    refine x_if_eq (pc := 13) (tgt := 28) X d_G_canHold_13 (by decide) (fun c => ?_) (fun c => ?_)
    · have hw := hw.1 c
      refine x_iconst (pc := 28) (v := 0) X d_G_canHold_28 (by decide) ?_
      exact hR _ _ _ _ d_G_canHold_29 rfl hw
    · have hw := hw.2 c
      refine x_aload_n (pc := 16) X d_G_canHold_16 0 rfl ?_
      refine x_iload_n (pc := 17) X d_G_canHold_17 3 rfl ?_
      refine x_cvi (pc := 18) X [.int x3] (c_G_hasNode (zl Z) (zD Z) (zI Z) q σ2 x3 _ hw) mv_G_hasNode tb_G 1 (atC_1 _ _ _) mw_12 d_G_canHold_18 rfl (Nat.le_of_ble_eq_true rfl) ⟨Nat.le_of_ble_eq_true rfl, Nat.le_of_ble_eq_true rfl⟩ ⟨rfl, rfl⟩ ⟨Nat.zero_le _, Nat.zero_le _⟩ ?_
      intro r3 σ3 hw
      refine x_if_eq (pc := 21) (tgt := 28) X d_G_canHold_21 (by decide) (fun c => ?_) (fun c => ?_)
      · have hw := hw.1 c
        refine x_iconst (pc := 28) (v := 0) X d_G_canHold_28 (by decide) ?_
        exact hR _ _ _ _ d_G_canHold_29 rfl hw
      · have hw := hw.2 c
        refine x_iconst (pc := 24) (v := 1) X d_G_canHold_24 (by decide) ?_
        refine x_goto (pc := 25) (tgt := 29) X d_G_canHold_25 (by decide) ?_
        exact hR _ _ _ _ d_G_canHold_29 rfl hw
def rm_G_place : Room := { frames := 0, cells := 0, slots := 0, locals := 0 }
set_option maxHeartbeats 4000000 in
set_option maxRecDepth 100000 in
theorem c_G_place (l : Launch) (D : va_G) (cI : ClassId) (q : Nat → Nat) (σ : St) (x0 x1 : Int32) (post : Int32 → St → Prop) (hw : wp_G_place x0 x1 σ post) : CI l D cI (wC cI q) y_G_place b_G_place 2 .int rm_G_place [.int x0, .int x1] σ post := by
  refine CI_of (by decide) (Nat.le_of_ble_eq_true rfl) ?_
  intro Z hZl hZD hZI X hR
  subst hZl; subst hZD; subst hZI
  unfold wp_G_place at hw
  show VV Z 0 0 (wC (zI Z) q σ) [(0, .int x0), (1, .int x1)] 0 []
  refine x_iload_n (pc := 0) X d_G_place_0 1 rfl ?_
  refine x_bipush (pc := 1) (v := (nI 24)) X d_G_place_1 (by decide) ?_
  refine x_imul (pc := 3) X d_G_place_3 ?_
  refine x_iload_n (pc := 4) X d_G_place_4 0 rfl ?_
  refine x_iadd (pc := 5) X d_G_place_5 ?_
  exact hR _ _ _ _ d_G_place_6 (vp_nar_int _) hw
def rm_G_holds : Room := { frames := 1, cells := 0, slots := 0, locals := 21 }
set_option maxHeartbeats 4000000 in
set_option maxRecDepth 100000 in
theorem c_G_holds (l : Launch) (D : va_G) (cI : ClassId) (q : Nat → Nat) (σ : St) (x1 x2 x3 : Int32) (post : Int32 → St → Prop) (hw : wp_G_holds x1 x2 x3 σ post) : CI l D cI (wC cI q) y_G_holds b_G_holds 4 .boolean rm_G_holds [.ref (q 1), .int x1, .int x2, .int x3] σ post := by
  refine CI_of (by decide) (Nat.le_of_ble_eq_true rfl) ?_
  intro Z hZl hZD hZI X hR
  subst hZl; subst hZD; subst hZI
  unfold wp_G_holds at hw
  show VV Z 0 0 (wC (zI Z) q σ) [(0, .ref (q 1)), (1, .int x1), (2, .int x2), (3, .int x3)] 0 []
  refine x_aload_n (pc := 0) X d_G_holds_0 0 rfl ?_
  refine x_get (pc := 1) X tb_G 1 3 (by decide) mw_4 (atC_1 _ _ _) rfl d_G_holds_1 ?_
  refine x_iload_n (pc := 4) X d_G_holds_4 1 rfl ?_
  refine x_iload_n (pc := 5) X d_G_holds_5 2 rfl ?_
  refine x_csi (pc := 6) X [.int x1, .int x2] (c_G_place (zl Z) (zD Z) (zI Z) q σ x1 x2 _ hw) ms_G_place mw_15 d_G_holds_6 rfl (Nat.le_of_ble_eq_true rfl) ⟨Nat.le_of_ble_eq_true rfl, Nat.le_of_ble_eq_true rfl⟩ ⟨rfl, rfl⟩ ⟨Nat.zero_le _, Nat.zero_le _⟩ ?_
  intro r1 σ1 hw
  obtain ⟨h2, hw⟩ := hw
  refine x_iald (pc := 9) X 2 (atC_2 _ _ _) h2 d_G_holds_9 ?_
  refine x_iload_n (pc := 10) X d_G_holds_10 3 rfl ?_
  refine x_iushr (pc := 11) X d_G_holds_11 ?_
  refine x_iconst (pc := 12) (v := 1) X d_G_holds_12 (by decide) ?_
  refine x_iand (pc := 13) X d_G_holds_13 ?_
  refine x_if_eq (pc := 14) (tgt := 21) X d_G_holds_14 (by decide) (fun c => ?_) (fun c => ?_)
  · have hw := hw.1 c
    refine x_iconst (pc := 21) (v := 0) X d_G_holds_21 (by decide) ?_
    exact hR _ _ _ _ d_G_holds_22 rfl hw
  · have hw := hw.2 c
    refine x_iconst (pc := 17) (v := 1) X d_G_holds_17 (by decide) ?_
    refine x_goto (pc := 18) (tgt := 22) X d_G_holds_18 (by decide) ?_
    exact hR _ _ _ _ d_G_holds_22 rfl hw
def rm_G_flip : Room := { frames := 1, cells := 0, slots := 0, locals := 21 }
set_option maxHeartbeats 4000000 in
set_option maxRecDepth 100000 in
theorem c_G_flip (l : Launch) (D : va_G) (cI : ClassId) (q : Nat → Nat) (σ : St) (x1 x2 x3 : Int32) (post : St → Prop) (hw : wp_G_flip x1 x2 x3 σ post) : CV l D cI (wC cI q) y_G_flip b_G_flip 4 rm_G_flip [.ref (q 1), .int x1, .int x2, .int x3] σ post := by
  refine CV_of (by decide) (Nat.le_of_ble_eq_true rfl) ?_
  intro Z hZl hZD hZI X hR
  subst hZl; subst hZD; subst hZI
  unfold wp_G_flip at hw
  show VV Z 0 0 (wC (zI Z) q σ) [(0, .ref (q 1)), (1, .int x1), (2, .int x2), (3, .int x3)] 0 []
  refine x_aload_n (pc := 0) X d_G_flip_0 0 rfl ?_
  refine x_get (pc := 1) X tb_G 1 3 (by decide) mw_4 (atC_1 _ _ _) rfl d_G_flip_1 ?_
  refine x_iload_n (pc := 4) X d_G_flip_4 1 rfl ?_
  refine x_iload_n (pc := 5) X d_G_flip_5 2 rfl ?_
  refine x_csi (pc := 6) X [.int x1, .int x2] (c_G_place (zl Z) (zD Z) (zI Z) q σ x1 x2 _ hw) ms_G_place mw_15 d_G_flip_6 rfl (Nat.le_of_ble_eq_true rfl) ⟨Nat.le_of_ble_eq_true rfl, Nat.le_of_ble_eq_true rfl⟩ ⟨rfl, rfl⟩ ⟨Nat.zero_le _, Nat.zero_le _⟩ ?_
  intro r1 σ1 hw
  refine x_dup2 (pc := 9) X d_G_flip_9 rfl rfl ?_
  obtain ⟨h2, hw⟩ := hw
  refine x_iald (pc := 10) X 2 (atC_2 _ _ _) h2 d_G_flip_10 ?_
  refine x_iconst (pc := 11) (v := 1) X d_G_flip_11 (by decide) ?_
  refine x_iload_n (pc := 12) X d_G_flip_12 3 rfl ?_
  refine x_ishl (pc := 13) X d_G_flip_13 ?_
  refine x_ixor (pc := 14) X d_G_flip_14 ?_
  obtain ⟨h3, hw⟩ := hw
  refine x_iast (pc := 15) (ws' := (wC (zI Z) q (ua σ1 0 r1.toNatClampNeg ((σ1.2 0 r1.toNatClampNeg) ^^^ (1 <<< (x3 &&& 31)))))) X 2 (atC_2 _ _ _) h3 (stC_2 _ _ _ _) d_G_flip_15 ?_
  exact hR _ _ _ d_G_flip_16 hw
def rm_W_way : Room := { frames := 2, cells := 0, slots := 0, locals := 44 }
set_option maxHeartbeats 4000000 in
set_option maxRecDepth 100000 in
theorem c_W_way (l : Launch) (D : va_G) (cI : ClassId) (q : Nat → Nat) (σ : St) (x1 x2 x3 x4 : Int32) (post : Int32 → St → Prop) (hw : wp_W_way x1 x2 x3 x4 σ post) : CI l D cI (wC cI q) y_W_way b_W_way 5 .boolean rm_W_way [.ref (q 0), .int x1, .int x2, .int x3, .int x4] σ post := by
  refine CI_of (by decide) (Nat.le_of_ble_eq_true rfl) ?_
  intro Z hZl hZD hZI X hR
  subst hZl; subst hZD; subst hZI
  unfold wp_W_way at hw
  show VV Z 0 0 (wC (zI Z) q σ) [(0, .ref (q 0)), (1, .int x1), (2, .int x2), (3, .int x3), (4, .int x4)] 0 []
  refine x_aload_n (pc := 0) X d_W_way_0 0 rfl ?_
  refine x_get (pc := 1) X tb_W 0 0 (by decide) mw_0 (atC_0 _ _ _) rfl d_W_way_1 ?_
  refine x_iload_n (pc := 4) X d_W_way_4 1 rfl ?_
  refine x_iload_n (pc := 5) X d_W_way_5 2 rfl ?_
  refine x_iload_n (pc := 6) X d_W_way_6 3 rfl ?_
  refine x_cni (pc := 7) X [.int x1, .int x2, .int x3] (c_G_canHold (zl Z) (zD Z) (zI Z) q σ x1 x2 x3 _ hw) mv_G_canHold tb_G 1 (atC_1 _ _ _) nw_14 d_W_way_7 rfl (Nat.le_of_ble_eq_true rfl) ⟨Nat.le_of_ble_eq_true rfl, Nat.le_of_ble_eq_true rfl⟩ ⟨rfl, rfl⟩ ⟨Nat.zero_le _, Nat.zero_le _⟩ ?_
  intro r1 σ1 hw
  refine x_if_eq (pc := 10) (tgt := 28) X d_W_way_10 (by decide) (fun c => ?_) (fun c => ?_)
  · have hw := hw.1 c
    refine x_iconst (pc := 28) (v := 0) X d_W_way_28 (by decide) ?_
    exact hR _ _ _ _ d_W_way_29 rfl hw
  · have hw := hw.2 c
    refine x_aload_n (pc := 13) X d_W_way_13 0 rfl ?_
    refine x_get (pc := 14) X tb_W 0 0 (by decide) mw_0 (atC_0 _ _ _) rfl d_W_way_14 ?_
    refine x_iload_n (pc := 17) X d_W_way_17 1 rfl ?_
    refine x_iload_n (pc := 18) X d_W_way_18 2 rfl ?_
    refine x_iload_n (pc := 19) X d_W_way_19 3 rfl ?_
    refine x_cni (pc := 20) X [.int x1, .int x2, .int x3] (c_G_holds (zl Z) (zD Z) (zI Z) q σ1 x1 x2 x3 _ hw) mv_G_holds tb_G 1 (atC_1 _ _ _) nw_16 d_W_way_20 rfl (Nat.le_of_ble_eq_true rfl) ⟨Nat.le_of_ble_eq_true rfl, Nat.le_of_ble_eq_true rfl⟩ ⟨rfl, rfl⟩ ⟨Nat.zero_le _, Nat.zero_le _⟩ ?_
    intro r2 σ2 hw
    refine x_iload (pc := 23) X d_W_way_23 4 rfl ?_
    refine x_icmp_ne (pc := 25) (tgt := 30) X d_W_way_25 (by decide) (fun c => ?_) (fun c => ?_)
    · have hw := hw.1 c
      refine x_aload_n (pc := 30) X d_W_way_30 0 rfl ?_
      refine x_get (pc := 31) X tb_W 0 0 (by decide) mw_0 (atC_0 _ _ _) rfl d_W_way_31 ?_
      refine x_iload_n (pc := 34) X d_W_way_34 1 rfl ?_
      refine x_iload_n (pc := 35) X d_W_way_35 2 rfl ?_
      refine x_iload_n (pc := 36) X d_W_way_36 3 rfl ?_
      refine x_cnv (pc := 37) X [.int x1, .int x2, .int x3] (c_G_flip (zl Z) (zD Z) (zI Z) q σ2 x1 x2 x3 _ hw) mv_G_flip tb_G 1 (atC_1 _ _ _) nw_17 d_W_way_37 rfl (Nat.le_of_ble_eq_true rfl) ⟨Nat.le_of_ble_eq_true rfl, Nat.le_of_ble_eq_true rfl⟩ ⟨rfl, rfl⟩ ⟨Nat.zero_le _, Nat.zero_le _⟩ ?_
      intro σ3 hw
      refine x_iconst (pc := 40) (v := 1) X d_W_way_40 (by decide) ?_
      exact hR _ _ _ _ d_W_way_41 rfl hw
    · have hw := hw.2 c
      refine x_iconst (pc := 28) (v := 0) X d_W_way_28 (by decide) ?_
      exact hR _ _ _ _ d_W_way_29 rfl hw
def rm_M_isNode : Room := { frames := 0, cells := 0, slots := 0, locals := 0 }
set_option maxHeartbeats 4000000 in
set_option maxRecDepth 100000 in
theorem c_M_isNode (l : Launch) (D : va_G) (cI : ClassId) (q : Nat → Nat) (σ : St) (x1 : Int32) (post : Int32 → St → Prop) (hw : wp_M_isNode x1 σ post) : CI l D cI (wM cI q) y_M_isNode b_M_isNode 2 .boolean rm_M_isNode [.ref (q 0), .int x1] σ post := by
  refine CI_of (by decide) (Nat.le_of_ble_eq_true rfl) ?_
  intro Z hZl hZD hZI X hR
  subst hZl; subst hZD; subst hZI
  unfold wp_M_isNode at hw
  show VV Z 0 0 (wM (zI Z) q σ) [(0, .ref (q 0)), (1, .int x1)] 0 []
  refine x_iload_n (pc := 0) X d_M_isNode_0 1 rfl ?_
  refine x_if_lt (pc := 1) (tgt := 16) X d_M_isNode_1 (by decide) (fun c => ?_) (fun c => ?_)
  · have hw := hw.1 c
    refine x_iconst (pc := 16) (v := 0) X d_M_isNode_16 (by decide) ?_
    exact hR _ _ _ _ d_M_isNode_17 rfl hw
  · have hw := hw.2 c
    refine x_iload_n (pc := 4) X d_M_isNode_4 1 rfl ?_
    refine x_aload_n (pc := 5) X d_M_isNode_5 0 rfl ?_
    refine x_get (pc := 6) X tb_M 0 1 (by decide) mw_8 (atM_0 _ _ _) rfl d_M_isNode_6 ?_
    refine x_icmp_ge (pc := 9) (tgt := 16) X d_M_isNode_9 (by decide) (fun c => ?_) (fun c => ?_)
    · have hw := hw.1 c
      refine x_iconst (pc := 16) (v := 0) X d_M_isNode_16 (by decide) ?_
      exact hR _ _ _ _ d_M_isNode_17 rfl hw
    · have hw := hw.2 c
      refine x_iconst (pc := 12) (v := 1) X d_M_isNode_12 (by decide) ?_
      refine x_goto (pc := 13) (tgt := 17) X d_M_isNode_13 (by decide) ?_
      exact hR _ _ _ _ d_M_isNode_17 rfl hw
def rm_M_isLetter : Room := { frames := 0, cells := 0, slots := 0, locals := 0 }
set_option maxHeartbeats 4000000 in
set_option maxRecDepth 100000 in
theorem c_M_isLetter (l : Launch) (D : va_G) (cI : ClassId) (q : Nat → Nat) (σ : St) (x1 : Int32) (post : Int32 → St → Prop) (hw : wp_M_isLetter x1 σ post) : CI l D cI (wM cI q) y_M_isLetter b_M_isLetter 2 .boolean rm_M_isLetter [.ref (q 0), .int x1] σ post := by
  refine CI_of (by decide) (Nat.le_of_ble_eq_true rfl) ?_
  intro Z hZl hZD hZI X hR
  subst hZl; subst hZD; subst hZI
  unfold wp_M_isLetter at hw
  show VV Z 0 0 (wM (zI Z) q σ) [(0, .ref (q 0)), (1, .int x1)] 0 []
  refine x_iload_n (pc := 0) X d_M_isLetter_0 1 rfl ?_
  refine x_if_lt (pc := 1) (tgt := 16) X d_M_isLetter_1 (by decide) (fun c => ?_) (fun c => ?_)
  · have hw := hw.1 c
    refine x_iconst (pc := 16) (v := 0) X d_M_isLetter_16 (by decide) ?_
    exact hR _ _ _ _ d_M_isLetter_17 rfl hw
  · have hw := hw.2 c
    refine x_iload_n (pc := 4) X d_M_isLetter_4 1 rfl ?_
    refine x_aload_n (pc := 5) X d_M_isLetter_5 0 rfl ?_
    refine x_get (pc := 6) X tb_M 0 2 (by decide) mw_9 (atM_0 _ _ _) rfl d_M_isLetter_6 ?_
    refine x_icmp_ge (pc := 9) (tgt := 16) X d_M_isLetter_9 (by decide) (fun c => ?_) (fun c => ?_)
    · have hw := hw.1 c
      refine x_iconst (pc := 16) (v := 0) X d_M_isLetter_16 (by decide) ?_
      exact hR _ _ _ _ d_M_isLetter_17 rfl hw
    · have hw := hw.2 c
      refine x_iconst (pc := 12) (v := 1) X d_M_isLetter_12 (by decide) ?_
      refine x_goto (pc := 13) (tgt := 17) X d_M_isLetter_13 (by decide) ?_
      exact hR _ _ _ _ d_M_isLetter_17 rfl hw
def rm_M_is : Room := { frames := 1, cells := 0, slots := 0, locals := 21 }
set_option maxHeartbeats 4000000 in
set_option maxRecDepth 100000 in
theorem c_M_is (l : Launch) (D : va_G) (cI : ClassId) (q : Nat → Nat) (σ : St) (x1 x2 x3 : Int32) (post : Int32 → St → Prop) (hw : wp_M_is x1 x2 x3 σ post) : CI l D cI (wM cI q) y_M_is b_M_is 4 .boolean rm_M_is [.ref (q 0), .int x1, .int x2, .int x3] σ post := by
  refine CI_of (by decide) (Nat.le_of_ble_eq_true rfl) ?_
  intro Z hZl hZD hZI X hR
  subst hZl; subst hZD; subst hZI
  unfold wp_M_is at hw
  show VV Z 0 0 (wM (zI Z) q σ) [(0, .ref (q 0)), (1, .int x1), (2, .int x2), (3, .int x3)] 0 []
  refine x_aload_n (pc := 0) X d_M_is_0 0 rfl ?_
  refine x_iconst (pc := 1) (v := 0) X d_M_is_1 (by decide) ?_
  refine x_put (pc := 2) (ws' := (wM (zI Z) q (us σ 0 0))) X tb_M 0 0 (by decide) mw_7 (atM_0 _ _ _) rfl pI (Nat.le_of_ble_eq_true rfl) (ptM_0 _ _ _ _) d_M_is_2 ?_
  refine x_aload_n (pc := 5) X d_M_is_5 0 rfl ?_
  refine x_iload_n (pc := 6) X d_M_is_6 1 rfl ?_
  refine x_cvi (pc := 7) X [.int x1] (c_M_isNode (zl Z) (zD Z) (zI Z) q (us σ 0 0) x1 _ hw) mv_M_isNode tb_M 0 (atM_0 _ _ _) mw_18 d_M_is_7 rfl (Nat.le_of_ble_eq_true rfl) ⟨Nat.le_of_ble_eq_true rfl, Nat.le_of_ble_eq_true rfl⟩ ⟨rfl, rfl⟩ ⟨Nat.zero_le _, Nat.zero_le _⟩ ?_
  intro r1 σ1 hw
  refine x_if_eq (pc := 10) (tgt := 72) X d_M_is_10 (by decide) (fun c => ?_) (fun c => ?_)
  · have hw := hw.1 c
    refine x_iconst (pc := 72) (v := 0) X d_M_is_72 (by decide) ?_
    exact hR _ _ _ _ d_M_is_73 rfl hw
  · have hw := hw.2 c
    refine x_aload_n (pc := 13) X d_M_is_13 0 rfl ?_
    refine x_iload_n (pc := 14) X d_M_is_14 2 rfl ?_
    refine x_cvi (pc := 15) X [.int x2] (c_M_isLetter (zl Z) (zD Z) (zI Z) q σ1 x2 _ hw) mv_M_isLetter tb_M 0 (atM_0 _ _ _) mw_19 d_M_is_15 rfl (Nat.le_of_ble_eq_true rfl) ⟨Nat.le_of_ble_eq_true rfl, Nat.le_of_ble_eq_true rfl⟩ ⟨rfl, rfl⟩ ⟨Nat.zero_le _, Nat.zero_le _⟩ ?_
    intro r2 σ2 hw
    refine x_if_eq (pc := 18) (tgt := 72) X d_M_is_18 (by decide) (fun c => ?_) (fun c => ?_)
    · have hw := hw.1 c
      refine x_iconst (pc := 72) (v := 0) X d_M_is_72 (by decide) ?_
      exact hR _ _ _ _ d_M_is_73 rfl hw
    · have hw := hw.2 c
      refine x_aload_n (pc := 21) X d_M_is_21 0 rfl ?_
      refine x_iload_n (pc := 22) X d_M_is_22 3 rfl ?_
      refine x_cvi (pc := 23) X [.int x3] (c_M_isNode (zl Z) (zD Z) (zI Z) q σ2 x3 _ hw) mv_M_isNode tb_M 0 (atM_0 _ _ _) mw_18 d_M_is_23 rfl (Nat.le_of_ble_eq_true rfl) ⟨Nat.le_of_ble_eq_true rfl, Nat.le_of_ble_eq_true rfl⟩ ⟨rfl, rfl⟩ ⟨Nat.zero_le _, Nat.zero_le _⟩ ?_
      intro r3 σ3 hw
      refine x_if_eq (pc := 26) (tgt := 72) X d_M_is_26 (by decide) (fun c => ?_) (fun c => ?_)
      · have hw := hw.1 c
        refine x_iconst (pc := 72) (v := 0) X d_M_is_72 (by decide) ?_
        exact hR _ _ _ _ d_M_is_73 rfl hw
      · have hw := hw.2 c
        refine x_aload_n (pc := 29) X d_M_is_29 0 rfl ?_
        refine x_get (pc := 30) X tb_M 0 4 (by decide) mw_11 (atM_0 _ _ _) rfl d_M_is_30 ?_
        refine x_aload_n (pc := 33) X d_M_is_33 0 rfl ?_
        refine x_iload_n (pc := 34) X d_M_is_34 1 rfl ?_
        refine x_cvi (pc := 35) X [.int x1] (c_M_isNode (zl Z) (zD Z) (zI Z) q σ3 x1 _ hw) mv_M_isNode tb_M 0 (atM_0 _ _ _) mw_18 d_M_is_35 rfl (Nat.le_of_ble_eq_true rfl) ⟨Nat.le_of_ble_eq_true rfl, Nat.le_of_ble_eq_true rfl⟩ ⟨rfl, rfl⟩ ⟨Nat.zero_le _, Nat.zero_le _⟩ ?_
        intro r4 σ4 hw
        refine x_if_eq (pc := 38) (tgt := 58) X d_M_is_38 (by decide) (fun c => ?_) (fun c => ?_)
        · have hw := hw.1 c
          refine x_iconst (pc := 58) (v := 0) X d_M_is_58 (by decide) ?_
          obtain ⟨h5, hw⟩ := hw
          refine x_iald (pc := 59) X 1 (atM_1 _ _ _) h5 d_M_is_59 ?_
          refine x_iload_n (pc := 60) X d_M_is_60 3 rfl ?_
          refine x_ishr (pc := 61) X d_M_is_61 ?_
          refine x_iconst (pc := 62) (v := 1) X d_M_is_62 (by decide) ?_
          refine x_iand (pc := 63) X d_M_is_63 ?_
          refine x_iconst (pc := 64) (v := 1) X d_M_is_64 (by decide) ?_
          refine x_icmp_ne (pc := 65) (tgt := 72) X d_M_is_65 (by decide) (fun c => ?_) (fun c => ?_)
          · have hw := hw.1 c
            refine x_iconst (pc := 72) (v := 0) X d_M_is_72 (by decide) ?_
            exact hR _ _ _ _ d_M_is_73 rfl hw
          · have hw := hw.2 c
            refine x_iconst (pc := 68) (v := 1) X d_M_is_68 (by decide) ?_
            refine x_goto (pc := 69) (tgt := 73) X d_M_is_69 (by decide) ?_
            exact hR _ _ _ _ d_M_is_73 rfl hw
        · have hw := hw.2 c
          refine x_aload_n (pc := 41) X d_M_is_41 0 rfl ?_
          refine x_iload_n (pc := 42) X d_M_is_42 2 rfl ?_
          refine x_cvi (pc := 43) X [.int x2] (c_M_isLetter (zl Z) (zD Z) (zI Z) q σ4 x2 _ hw) mv_M_isLetter tb_M 0 (atM_0 _ _ _) mw_19 d_M_is_43 rfl (Nat.le_of_ble_eq_true rfl) ⟨Nat.le_of_ble_eq_true rfl, Nat.le_of_ble_eq_true rfl⟩ ⟨rfl, rfl⟩ ⟨Nat.zero_le _, Nat.zero_le _⟩ ?_
          intro r6 σ6 hw
          refine x_if_eq (pc := 46) (tgt := 58) X d_M_is_46 (by decide) (fun c => ?_) (fun c => ?_)
          · have hw := hw.1 c
            refine x_iconst (pc := 58) (v := 0) X d_M_is_58 (by decide) ?_
            obtain ⟨h7, hw⟩ := hw
            refine x_iald (pc := 59) X 1 (atM_1 _ _ _) h7 d_M_is_59 ?_
            refine x_iload_n (pc := 60) X d_M_is_60 3 rfl ?_
            refine x_ishr (pc := 61) X d_M_is_61 ?_
            refine x_iconst (pc := 62) (v := 1) X d_M_is_62 (by decide) ?_
            refine x_iand (pc := 63) X d_M_is_63 ?_
            refine x_iconst (pc := 64) (v := 1) X d_M_is_64 (by decide) ?_
            refine x_icmp_ne (pc := 65) (tgt := 72) X d_M_is_65 (by decide) (fun c => ?_) (fun c => ?_)
            · have hw := hw.1 c
              refine x_iconst (pc := 72) (v := 0) X d_M_is_72 (by decide) ?_
              exact hR _ _ _ _ d_M_is_73 rfl hw
            · have hw := hw.2 c
              refine x_iconst (pc := 68) (v := 1) X d_M_is_68 (by decide) ?_
              refine x_goto (pc := 69) (tgt := 73) X d_M_is_69 (by decide) ?_
              exact hR _ _ _ _ d_M_is_73 rfl hw
          · have hw := hw.2 c
            refine x_bipush (pc := 49) (v := (nI 24)) X d_M_is_49 (by decide) ?_
            refine x_iload_n (pc := 51) X d_M_is_51 2 rfl ?_
            refine x_imul (pc := 52) X d_M_is_52 ?_
            refine x_iload_n (pc := 53) X d_M_is_53 1 rfl ?_
            refine x_iadd (pc := 54) X d_M_is_54 ?_
            refine x_goto (pc := 55) (tgt := 59) X d_M_is_55 (by decide) ?_
            obtain ⟨h8, hw⟩ := hw
            refine x_iald (pc := 59) X 1 (atM_1 _ _ _) h8 d_M_is_59 ?_
            refine x_iload_n (pc := 60) X d_M_is_60 3 rfl ?_
            refine x_ishr (pc := 61) X d_M_is_61 ?_
            refine x_iconst (pc := 62) (v := 1) X d_M_is_62 (by decide) ?_
            refine x_iand (pc := 63) X d_M_is_63 ?_
            refine x_iconst (pc := 64) (v := 1) X d_M_is_64 (by decide) ?_
            refine x_icmp_ne (pc := 65) (tgt := 72) X d_M_is_65 (by decide) (fun c => ?_) (fun c => ?_)
            · have hw := hw.1 c
              refine x_iconst (pc := 72) (v := 0) X d_M_is_72 (by decide) ?_
              exact hR _ _ _ _ d_M_is_73 rfl hw
            · have hw := hw.2 c
              refine x_iconst (pc := 68) (v := 1) X d_M_is_68 (by decide) ?_
              refine x_goto (pc := 69) (tgt := 73) X d_M_is_69 (by decide) ?_
              exact hR _ _ _ _ d_M_is_73 rfl hw
def rm_M_way : Room := { frames := 2, cells := 0, slots := 0, locals := 44 }
set_option maxHeartbeats 4000000 in
set_option maxRecDepth 100000 in
theorem c_M_way (l : Launch) (D : va_G) (cI : ClassId) (q : Nat → Nat) (σ : St) (x1 x2 x3 x4 : Int32) (post : Int32 → St → Prop) (hw : wp_M_way x1 x2 x3 x4 σ post) : CI l D cI (wM cI q) y_M_way b_M_way 5 .boolean rm_M_way [.ref (q 0), .int x1, .int x2, .int x3, .int x4] σ post := by
  refine CI_of (by decide) (Nat.le_of_ble_eq_true rfl) ?_
  intro Z hZl hZD hZI X hR
  subst hZl; subst hZD; subst hZI
  unfold wp_M_way at hw
  show VV Z 0 0 (wM (zI Z) q σ) [(0, .ref (q 0)), (1, .int x1), (2, .int x2), (3, .int x3), (4, .int x4)] 0 []
  refine x_aload_n (pc := 0) X d_M_way_0 0 rfl ?_
  refine x_iconst (pc := 1) (v := 0) X d_M_way_1 (by decide) ?_
  refine x_put (pc := 2) (ws' := (wM (zI Z) q (us σ 0 0))) X tb_M 0 0 (by decide) mw_7 (atM_0 _ _ _) rfl pI (Nat.le_of_ble_eq_true rfl) (ptM_0 _ _ _ _) d_M_way_2 ?_
  refine x_aload_n (pc := 5) X d_M_way_5 0 rfl ?_
  refine x_iload_n (pc := 6) X d_M_way_6 1 rfl ?_
  refine x_cvi (pc := 7) X [.int x1] (c_M_isNode (zl Z) (zD Z) (zI Z) q (us σ 0 0) x1 _ hw) mv_M_isNode tb_M 0 (atM_0 _ _ _) mw_18 d_M_way_7 rfl (Nat.le_of_ble_eq_true rfl) ⟨Nat.le_of_ble_eq_true rfl, Nat.le_of_ble_eq_true rfl⟩ ⟨rfl, rfl⟩ ⟨Nat.zero_le _, Nat.zero_le _⟩ ?_
  intro r1 σ1 hw
  refine x_if_eq (pc := 10) (tgt := 41) X d_M_way_10 (by decide) (fun c => ?_) (fun c => ?_)
  · have hw := hw.1 c
    refine x_iconst (pc := 41) (v := 0) X d_M_way_41 (by decide) ?_
    exact hR _ _ _ _ d_M_way_42 rfl hw
  · have hw := hw.2 c
    refine x_aload_n (pc := 13) X d_M_way_13 0 rfl ?_
    refine x_iload_n (pc := 14) X d_M_way_14 2 rfl ?_
    refine x_cvi (pc := 15) X [.int x2] (c_M_isLetter (zl Z) (zD Z) (zI Z) q σ1 x2 _ hw) mv_M_isLetter tb_M 0 (atM_0 _ _ _) mw_19 d_M_way_15 rfl (Nat.le_of_ble_eq_true rfl) ⟨Nat.le_of_ble_eq_true rfl, Nat.le_of_ble_eq_true rfl⟩ ⟨rfl, rfl⟩ ⟨Nat.zero_le _, Nat.zero_le _⟩ ?_
    intro r2 σ2 hw
    refine x_if_eq (pc := 18) (tgt := 41) X d_M_way_18 (by decide) (fun c => ?_) (fun c => ?_)
    · have hw := hw.1 c
      refine x_iconst (pc := 41) (v := 0) X d_M_way_41 (by decide) ?_
      exact hR _ _ _ _ d_M_way_42 rfl hw
    · have hw := hw.2 c
      refine x_aload_n (pc := 21) X d_M_way_21 0 rfl ?_
      refine x_iload_n (pc := 22) X d_M_way_22 3 rfl ?_
      refine x_cvi (pc := 23) X [.int x3] (c_M_isNode (zl Z) (zD Z) (zI Z) q σ2 x3 _ hw) mv_M_isNode tb_M 0 (atM_0 _ _ _) mw_18 d_M_way_23 rfl (Nat.le_of_ble_eq_true rfl) ⟨Nat.le_of_ble_eq_true rfl, Nat.le_of_ble_eq_true rfl⟩ ⟨rfl, rfl⟩ ⟨Nat.zero_le _, Nat.zero_le _⟩ ?_
      intro r3 σ3 hw
      refine x_if_eq (pc := 26) (tgt := 41) X d_M_way_26 (by decide) (fun c => ?_) (fun c => ?_)
      · have hw := hw.1 c
        refine x_iconst (pc := 41) (v := 0) X d_M_way_41 (by decide) ?_
        exact hR _ _ _ _ d_M_way_42 rfl hw
      · have hw := hw.2 c
        refine x_aload_n (pc := 29) X d_M_way_29 0 rfl ?_
        refine x_iload_n (pc := 30) X d_M_way_30 1 rfl ?_
        refine x_iload_n (pc := 31) X d_M_way_31 2 rfl ?_
        refine x_iload_n (pc := 32) X d_M_way_32 3 rfl ?_
        refine x_cvi (pc := 33) X [.int x1, .int x2, .int x3] (c_M_is (zl Z) (zD Z) (zI Z) q σ3 x1 x2 x3 _ hw) mv_M_is tb_M 0 (atM_0 _ _ _) mw_20 d_M_way_33 rfl (Nat.le_of_ble_eq_true rfl) ⟨Nat.le_of_ble_eq_true rfl, Nat.le_of_ble_eq_true rfl⟩ ⟨rfl, rfl⟩ ⟨Nat.zero_le _, Nat.zero_le _⟩ ?_
        intro r4 σ4 hw
        refine x_iload (pc := 36) X d_M_way_36 4 rfl ?_
        refine x_icmp_ne (pc := 38) (tgt := 43) X d_M_way_38 (by decide) (fun c => ?_) (fun c => ?_)
        · have hw := hw.1 c
          refine x_aload_n (pc := 43) X d_M_way_43 0 rfl ?_
          refine x_get (pc := 44) X tb_M 0 4 (by decide) mw_11 (atM_0 _ _ _) rfl d_M_way_44 ?_
          refine x_bipush (pc := 47) (v := (nI 24)) X d_M_way_47 (by decide) ?_
          refine x_iload_n (pc := 49) X d_M_way_49 2 rfl ?_
          refine x_imul (pc := 50) X d_M_way_50 ?_
          refine x_iload_n (pc := 51) X d_M_way_51 1 rfl ?_
          refine x_iadd (pc := 52) X d_M_way_52 ?_
          refine x_dup2 (pc := 53) X d_M_way_53 rfl rfl ?_
          obtain ⟨h5, hw⟩ := hw
          refine x_iald (pc := 54) X 1 (atM_1 _ _ _) h5 d_M_way_54 ?_
          refine x_iconst (pc := 55) (v := 1) X d_M_way_55 (by decide) ?_
          refine x_iload_n (pc := 56) X d_M_way_56 3 rfl ?_
          refine x_ishl (pc := 57) X d_M_way_57 ?_
          refine x_ixor (pc := 58) X d_M_way_58 ?_
          obtain ⟨h6, hw⟩ := hw
          refine x_iast (pc := 59) (ws' := (wM (zI Z) q (ua σ4 0 (((nI 24) * x2) + x1).toNatClampNeg ((σ4.2 0 (((nI 24) * x2) + x1).toNatClampNeg) ^^^ (1 <<< (x3 &&& 31)))))) X 1 (atM_1 _ _ _) h6 (stM_1 _ _ _ _) d_M_way_59 ?_
          refine x_iconst (pc := 60) (v := 1) X d_M_way_60 (by decide) ?_
          exact hR _ _ _ _ d_M_way_61 rfl hw
        · have hw := hw.2 c
          refine x_iconst (pc := 41) (v := 0) X d_M_way_41 (by decide) ?_
          exact hR _ _ _ _ d_M_way_42 rfl hw
