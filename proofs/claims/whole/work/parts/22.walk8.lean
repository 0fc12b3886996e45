def rm_M_next : Room := { frames := 0, cells := 0, slots := 0, locals := 0 }
set_option maxHeartbeats 4000000 in
set_option maxRecDepth 100000 in
theorem c_M_next (l : Launch) (D : va_G) (cI : ClassId) (q : Nat → Nat) (σ : St) (x1 x2 : Int32) (post : Int32 → St → Prop) (hw : wp_M_next x1 x2 σ post) : CI l D cI (wM cI q) y_M_next b_M_next 4 .int rm_M_next [.ref (q 0), .int x1, .int x2] σ post := by
  refine CI_of (by decide) (Nat.le_of_ble_eq_true rfl) ?_
  intro Z hZl hZD hZI X hR
  subst hZl; subst hZD; subst hZI
  unfold wp_M_next at hw
  show VV Z 0 0 (wM (zI Z) q σ) [(0, .ref (q 0)), (1, .int x1), (2, .int x2)] 0 []
  refine x_aload_n (pc := 0) X d_M_next_0 0 rfl ?_
  refine x_get (pc := 1) X tb_M 0 8 (by decide) mw_81 (atM_0 _ _ _) rfl d_M_next_1 ?_
  refine x_bipush (pc := 4) (v := (nI 40)) X d_M_next_4 (by decide) ?_
  refine x_aload_n (pc := 6) X d_M_next_6 0 rfl ?_
  refine x_get (pc := 7) X tb_M 0 12 (by decide) mw_84 (atM_0 _ _ _) rfl d_M_next_7 ?_
  refine x_iload_n (pc := 10) X d_M_next_10 1 rfl ?_
  obtain ⟨h1, hw⟩ := hw
  refine x_iald (pc := 11) X 7 (atM_7 _ _ _) h1 d_M_next_11 ?_
  refine x_imul (pc := 12) X d_M_next_12 ?_
  refine x_iload_n (pc := 13) X d_M_next_13 2 rfl ?_
  refine x_iadd (pc := 14) X d_M_next_14 ?_
  obtain ⟨h2, hw⟩ := hw
  refine x_iald (pc := 15) X 3 (atM_3 _ _ _) h2 d_M_next_15 ?_
  refine x_istore_n (pc := 16) (lv' := [(0, .ref (q 0)), (1, .int x1), (2, .int x2), (3, .int (σ.2 2 (((nI 40) * (σ.2 6 x1.toNatClampNeg)) + x2).toNatClampNeg))]) X d_M_next_16 (by decide) [1, 2, 3, 0] rfl ?_
  refine x_iload_n (pc := 17) X d_M_next_17 3 rfl ?_
  refine x_if_ge (pc := 18) (tgt := 25) X d_M_next_18 (by decide) (fun c => ?_) (fun c => ?_)
  · have hw := hw.1 c
    refine x_aload_n (pc := 25) X d_M_next_25 0 rfl ?_
    refine x_get (pc := 26) X tb_M 0 11 (by decide) mw_83 (atM_0 _ _ _) rfl d_M_next_26 ?_
    refine x_iload_n (pc := 29) X d_M_next_29 3 rfl ?_
    obtain ⟨h3, hw⟩ := hw
    refine x_iald (pc := 30) X 6 (atM_6 _ _ _) h3 d_M_next_30 ?_
    exact hR _ _ _ _ d_M_next_31 (vp_nar_int _) hw
  · have hw := hw.2 c
    refine x_iconst (pc := 21) (v := (-1)) X d_M_next_21 (by decide) ?_
    refine x_goto (pc := 22) (tgt := 31) X d_M_next_22 (by decide) ?_
    exact hR _ _ _ _ d_M_next_31 (vp_nar_int _) hw
def rm_M_go : Room := { frames := 1, cells := 0, slots := 0, locals := 23 }
set_option maxHeartbeats 4000000 in
set_option maxRecDepth 100000 in
theorem c_M_go (l : Launch) (D : va_G) (cI : ClassId) (q : Nat → Nat) (σ : St) (x1 : Int32) (post : Int32 → St → Prop) (hw : wp_M_go x1 σ post) : CI l D cI (wM cI q) y_M_go b_M_go 3 .int rm_M_go [.ref (q 0), .int x1] σ post := by
  refine CI_of (by decide) (Nat.le_of_ble_eq_true rfl) ?_
  intro Z hZl hZD hZI X hR
  subst hZl; subst hZD; subst hZI
  unfold wp_M_go at hw
  show VV Z 0 0 (wM (zI Z) q σ) [(0, .ref (q 0)), (1, .int x1)] 0 []
  refine x_aload_n (pc := 0) X d_M_go_0 0 rfl ?_
  refine x_iconst (pc := 1) (v := 0) X d_M_go_1 (by decide) ?_
  refine x_put (pc := 2) (ws' := (wM (zI Z) q (us σ 0 0))) X tb_M 0 0 (by decide) mw_7 (atM_0 _ _ _) rfl pI (Nat.le_of_ble_eq_true rfl) (ptM_0 _ _ _ _) d_M_go_2 ?_
  refine x_iload_n (pc := 5) X d_M_go_5 1 rfl ?_
  refine x_if_lt (pc := 6) (tgt := 17) X d_M_go_6 (by decide) (fun c => ?_) (fun c => ?_)
  · have hw := hw.1 c
    refine x_iconst (pc := 17) (v := (-1)) X d_M_go_17 (by decide) ?_
    refine x_goto (pc := 18) (tgt := 30) X d_M_go_18 (by decide) ?_
    refine x_istore_n (pc := 30) (lv' := [(0, .ref (q 0)), (1, .int x1), (2, .int (-1))]) X d_M_go_30 (by decide) [1, 2, 0] rfl ?_
    refine x_aload_n (pc := 31) X d_M_go_31 0 rfl ?_
    refine x_iload_n (pc := 32) X d_M_go_32 2 rfl ?_
    refine x_if_ge (pc := 33) (tgt := 43) X d_M_go_33 (by decide) (fun c => absurd c (by decide)) (fun _ => ?_)
    refine x_aload_n (pc := 36) X d_M_go_36 0 rfl ?_
    refine x_get (pc := 37) X tb_M 0 14 (by decide) mw_86 (atM_0 _ _ _) rfl d_M_go_37 ?_
    refine x_goto (pc := 40) (tgt := 44) X d_M_go_40 (by decide) ?_
    refine x_put (pc := 44) (ws' := (wM (zI Z) q (us (us σ 0 0) 7 ((us σ 0 0).1 7)))) X tb_M 0 14 (by decide) mw_86 (atM_0 _ _ _) rfl pI (Nat.le_of_ble_eq_true rfl) (ptM_7 _ _ _ _) d_M_go_44 ?_
    refine x_iload_n (pc := 47) X d_M_go_47 2 rfl ?_
    exact hR _ _ _ _ d_M_go_48 (vp_nar_int _) hw
  · have hw := hw.2 c
    refine x_iload_n (pc := 9) X d_M_go_9 1 rfl ?_
    refine x_aload_n (pc := 10) X d_M_go_10 0 rfl ?_
    refine x_get (pc := 11) X tb_M 0 6 (by decide) mw_78 (atM_0 _ _ _) rfl d_M_go_11 ?_
    refine x_icmp_lt (pc := 14) (tgt := 21) X d_M_go_14 (by decide) (fun c => ?_) (fun c => ?_)
    · have hw := hw.1 c
      refine x_aload_n (pc := 21) X d_M_go_21 0 rfl ?_
      refine x_aload_n (pc := 22) X d_M_go_22 0 rfl ?_
      refine x_get (pc := 23) X tb_M 0 14 (by decide) mw_86 (atM_0 _ _ _) rfl d_M_go_23 ?_
      refine x_iload_n (pc := 26) X d_M_go_26 1 rfl ?_
      refine x_cvi (pc := 27) X [.int ((us σ 0 0).1 7), .int x1] (c_M_next (zl Z) (zD Z) (zI Z) q (us σ 0 0) ((us σ 0 0).1 7) x1 _ hw) mv_M_next tb_M 0 (atM_0 _ _ _) mw_93 d_M_go_27 rfl (Nat.le_of_ble_eq_true rfl) ⟨Nat.le_of_ble_eq_true rfl, Nat.le_of_ble_eq_true rfl⟩ ⟨rfl, rfl⟩ ⟨Nat.zero_le _, Nat.zero_le _⟩ ?_
      intro r1 σ1 hw
      refine x_istore_n (pc := 30) (lv' := [(0, .ref (q 0)), (1, .int x1), (2, .int r1)]) X d_M_go_30 (by decide) [1, 2, 0] rfl ?_
      refine x_aload_n (pc := 31) X d_M_go_31 0 rfl ?_
      refine x_iload_n (pc := 32) X d_M_go_32 2 rfl ?_
      refine x_if_ge (pc := 33) (tgt := 43) X d_M_go_33 (by decide) (fun c => ?_) (fun c => ?_)
      · have hw := hw.1 c
        refine x_iload_n (pc := 43) X d_M_go_43 2 rfl ?_
        refine x_put (pc := 44) (ws' := (wM (zI Z) q (us σ1 7 r1))) X tb_M 0 14 (by decide) mw_86 (atM_0 _ _ _) rfl pI (Nat.le_of_ble_eq_true rfl) (ptM_7 _ _ _ _) d_M_go_44 ?_
        refine x_iload_n (pc := 47) X d_M_go_47 2 rfl ?_
        exact hR _ _ _ _ d_M_go_48 (vp_nar_int _) hw
      · have hw := hw.2 c
        refine x_aload_n (pc := 36) X d_M_go_36 0 rfl ?_
        refine x_get (pc := 37) X tb_M 0 14 (by decide) mw_86 (atM_0 _ _ _) rfl d_M_go_37 ?_
        refine x_goto (pc := 40) (tgt := 44) X d_M_go_40 (by decide) ?_
        refine x_put (pc := 44) (ws' := (wM (zI Z) q (us σ1 7 (σ1.1 7)))) X tb_M 0 14 (by decide) mw_86 (atM_0 _ _ _) rfl pI (Nat.le_of_ble_eq_true rfl) (ptM_7 _ _ _ _) d_M_go_44 ?_
        refine x_iload_n (pc := 47) X d_M_go_47 2 rfl ?_
        exact hR _ _ _ _ d_M_go_48 (vp_nar_int _) hw
    · have hw := hw.2 c
      refine x_iconst (pc := 17) (v := (-1)) X d_M_go_17 (by decide) ?_
      refine x_goto (pc := 18) (tgt := 30) X d_M_go_18 (by decide) ?_
      refine x_istore_n (pc := 30) (lv' := [(0, .ref (q 0)), (1, .int x1), (2, .int (-1))]) X d_M_go_30 (by decide) [1, 2, 0] rfl ?_
      refine x_aload_n (pc := 31) X d_M_go_31 0 rfl ?_
      refine x_iload_n (pc := 32) X d_M_go_32 2 rfl ?_
      refine x_if_ge (pc := 33) (tgt := 43) X d_M_go_33 (by decide) (fun c => absurd c (by decide)) (fun _ => ?_)
      refine x_aload_n (pc := 36) X d_M_go_36 0 rfl ?_
      refine x_get (pc := 37) X tb_M 0 14 (by decide) mw_86 (atM_0 _ _ _) rfl d_M_go_37 ?_
      refine x_goto (pc := 40) (tgt := 44) X d_M_go_40 (by decide) ?_
      refine x_put (pc := 44) (ws' := (wM (zI Z) q (us (us σ 0 0) 7 ((us σ 0 0).1 7)))) X tb_M 0 14 (by decide) mw_86 (atM_0 _ _ _) rfl pI (Nat.le_of_ble_eq_true rfl) (ptM_7 _ _ _ _) d_M_go_44 ?_
      refine x_iload_n (pc := 47) X d_M_go_47 2 rfl ?_
      exact hR _ _ _ _ d_M_go_48 (vp_nar_int _) hw
def rm_M_isState : Room := { frames := 0, cells := 0, slots := 0, locals := 0 }
set_option maxHeartbeats 4000000 in
set_option maxRecDepth 100000 in
theorem c_M_isState (l : Launch) (D : va_G) (cI : ClassId) (q : Nat → Nat) (σ : St) (x1 : Int32) (post : Int32 → St → Prop) (hw : wp_M_isState x1 σ post) : CI l D cI (wM cI q) y_M_isState b_M_isState 2 .boolean rm_M_isState [.ref (q 0), .int x1] σ post := by
  refine CI_of (by decide) (Nat.le_of_ble_eq_true rfl) ?_
  intro Z hZl hZD hZI X hR
  subst hZl; subst hZD; subst hZI
  unfold wp_M_isState at hw
  show VV Z 0 0 (wM (zI Z) q σ) [(0, .ref (q 0)), (1, .int x1)] 0 []
  refine x_iload_n (pc := 0) X d_M_isState_0 1 rfl ?_
  refine x_if_lt (pc := 1) (tgt := 16) X d_M_isState_1 (by decide) (fun c => ?_) (fun c => ?_)
  · have hw := hw.1 c
    refine x_iconst (pc := 16) (v := 0) X d_M_isState_16 (by decide) ?_
    exact hR _ _ _ _ d_M_isState_17 rfl hw
  · have hw := hw.2 c
    refine x_iload_n (pc := 4) X d_M_isState_4 1 rfl ?_
    refine x_aload_n (pc := 5) X d_M_isState_5 0 rfl ?_
    refine x_get (pc := 6) X tb_M 0 13 (by decide) mw_85 (atM_0 _ _ _) rfl d_M_isState_6 ?_
    refine x_icmp_ge (pc := 9) (tgt := 16) X d_M_isState_9 (by decide) (fun c => ?_) (fun c => ?_)
    · have hw := hw.1 c
      refine x_iconst (pc := 16) (v := 0) X d_M_isState_16 (by decide) ?_
      exact hR _ _ _ _ d_M_isState_17 rfl hw
    · have hw := hw.2 c
      refine x_iconst (pc := 12) (v := 1) X d_M_isState_12 (by decide) ?_
      refine x_goto (pc := 13) (tgt := 17) X d_M_isState_13 (by decide) ?_
      exact hR _ _ _ _ d_M_isState_17 rfl hw
def rm_M_to : Room := { frames := 1, cells := 0, slots := 0, locals := 23 }
set_option maxHeartbeats 4000000 in
set_option maxRecDepth 100000 in
theorem c_M_to (l : Launch) (D : va_G) (cI : ClassId) (q : Nat → Nat) (σ : St) (x1 x2 : Int32) (post : Int32 → St → Prop) (hw : wp_M_to x1 x2 σ post) : CI l D cI (wM cI q) y_M_to b_M_to 3 .int rm_M_to [.ref (q 0), .int x1, .int x2] σ post := by
  refine CI_of (by decide) (Nat.le_of_ble_eq_true rfl) ?_
  intro Z hZl hZD hZI X hR
  subst hZl; subst hZD; subst hZI
  unfold wp_M_to at hw
  show VV Z 0 0 (wM (zI Z) q σ) [(0, .ref (q 0)), (1, .int x1), (2, .int x2)] 0 []
  refine x_aload_n (pc := 0) X d_M_to_0 0 rfl ?_
  refine x_iconst (pc := 1) (v := 0) X d_M_to_1 (by decide) ?_
  refine x_put (pc := 2) (ws' := (wM (zI Z) q (us σ 0 0))) X tb_M 0 0 (by decide) mw_7 (atM_0 _ _ _) rfl pI (Nat.le_of_ble_eq_true rfl) (ptM_0 _ _ _ _) d_M_to_2 ?_
  refine x_aload_n (pc := 5) X d_M_to_5 0 rfl ?_
  refine x_iload_n (pc := 6) X d_M_to_6 1 rfl ?_
  refine x_cvi (pc := 7) X [.int x1] (c_M_isState (zl Z) (zD Z) (zI Z) q (us σ 0 0) x1 _ hw) mv_M_isState tb_M 0 (atM_0 _ _ _) mw_94 d_M_to_7 rfl (Nat.le_of_ble_eq_true rfl) ⟨Nat.le_of_ble_eq_true rfl, Nat.le_of_ble_eq_true rfl⟩ ⟨rfl, rfl⟩ ⟨Nat.zero_le _, Nat.zero_le _⟩ ?_
  intro r1 σ1 hw
  refine x_if_eq (pc := 10) (tgt := 25) X d_M_to_10 (by decide) (fun c => ?_) (fun c => ?_)
  · have hw := hw.1 c
    refine x_iconst (pc := 25) (v := (-1)) X d_M_to_25 (by decide) ?_
    refine x_goto (pc := 26) (tgt := 35) X d_M_to_26 (by decide) ?_
    exact hR _ _ _ _ d_M_to_35 (vp_nar_int _) hw
  · have hw := hw.2 c
    refine x_iload_n (pc := 13) X d_M_to_13 2 rfl ?_
    refine x_if_lt (pc := 14) (tgt := 25) X d_M_to_14 (by decide) (fun c => ?_) (fun c => ?_)
    · have hw := hw.1 c
      refine x_iconst (pc := 25) (v := (-1)) X d_M_to_25 (by decide) ?_
      refine x_goto (pc := 26) (tgt := 35) X d_M_to_26 (by decide) ?_
      exact hR _ _ _ _ d_M_to_35 (vp_nar_int _) hw
    · have hw := hw.2 c
      refine x_iload_n (pc := 17) X d_M_to_17 2 rfl ?_
      refine x_aload_n (pc := 18) X d_M_to_18 0 rfl ?_
      refine x_get (pc := 19) X tb_M 0 6 (by decide) mw_78 (atM_0 _ _ _) rfl d_M_to_19 ?_
      refine x_icmp_lt (pc := 22) (tgt := 29) X d_M_to_22 (by decide) (fun c => ?_) (fun c => ?_)
      · have hw := hw.1 c
        refine x_aload_n (pc := 29) X d_M_to_29 0 rfl ?_
        refine x_iload_n (pc := 30) X d_M_to_30 1 rfl ?_
        refine x_iload_n (pc := 31) X d_M_to_31 2 rfl ?_
        refine x_cvi (pc := 32) X [.int x1, .int x2] (c_M_next (zl Z) (zD Z) (zI Z) q σ1 x1 x2 _ hw) mv_M_next tb_M 0 (atM_0 _ _ _) mw_93 d_M_to_32 rfl (Nat.le_of_ble_eq_true rfl) ⟨Nat.le_of_ble_eq_true rfl, Nat.le_of_ble_eq_true rfl⟩ ⟨rfl, rfl⟩ ⟨Nat.zero_le _, Nat.zero_le _⟩ ?_
        intro r2 σ2 hw
        exact hR _ _ _ _ d_M_to_35 (vp_nar_int _) hw
      · have hw := hw.2 c
        refine x_iconst (pc := 25) (v := (-1)) X d_M_to_25 (by decide) ?_
        refine x_goto (pc := 26) (tgt := 35) X d_M_to_26 (by decide) ?_
        exact hR _ _ _ _ d_M_to_35 (vp_nar_int _) hw
def rm_T_hasSet : Room := { frames := 0, cells := 0, slots := 0, locals := 0 }
set_option maxHeartbeats 4000000 in
set_option maxRecDepth 100000 in
theorem c_T_hasSet (l : Launch) (D : va_G) (cI : ClassId) (q : Nat → Nat) (σ : St) (x1 : Int32) (post : Int32 → St → Prop) (hw : wp_T_hasSet x1 σ post) : CI l D cI (wC cI q) y_T_hasSet b_T_hasSet 2 .boolean rm_T_hasSet [.ref (q 3), .int x1] σ post := by
  refine CI_of (by decide) (Nat.le_of_ble_eq_true rfl) ?_
  intro Z hZl hZD hZI X hR
  subst hZl; subst hZD; subst hZI
  unfold wp_T_hasSet at hw
  show VV Z 0 0 (wC (zI Z) q σ) [(0, .ref (q 3)), (1, .int x1)] 0 []
  refine x_iload_n (pc := 0) X d_T_hasSet_0 1 rfl ?_
  refine x_if_lt (pc := 1) (tgt := 16) X d_T_hasSet_1 (by decide) (fun c => ?_) (fun c => ?_)
  · have hw := hw.1 c
    refine x_iconst (pc := 16) (v := 0) X d_T_hasSet_16 (by decide) ?_
    exact hR _ _ _ _ d_T_hasSet_17 rfl hw
  · have hw := hw.2 c
    refine x_iload_n (pc := 4) X d_T_hasSet_4 1 rfl ?_
    refine x_aload_n (pc := 5) X d_T_hasSet_5 0 rfl ?_
    refine x_get (pc := 6) X tb_T 3 1 (by decide) mw_38 (atC_3 _ _ _) rfl d_T_hasSet_6 ?_
    refine x_icmp_ge (pc := 9) (tgt := 16) X d_T_hasSet_9 (by decide) (fun c => ?_) (fun c => ?_)
    · have hw := hw.1 c
      refine x_iconst (pc := 16) (v := 0) X d_T_hasSet_16 (by decide) ?_
      exact hR _ _ _ _ d_T_hasSet_17 rfl hw
    · have hw := hw.2 c
      refine x_iconst (pc := 12) (v := 1) X d_T_hasSet_12 (by decide) ?_
      refine x_goto (pc := 13) (tgt := 17) X d_T_hasSet_13 (by decide) ?_
      exact hR _ _ _ _ d_T_hasSet_17 rfl hw
def rm_W_nodes : Room := { frames := 1, cells := 0, slots := 0, locals := 21 }
set_option maxHeartbeats 4000000 in
set_option maxRecDepth 100000 in
theorem c_W_nodes (l : Launch) (D : va_G) (cI : ClassId) (q : Nat → Nat) (σ : St) (x1 : Int32) (post : Int32 → St → Prop) (hw : wp_W_nodes x1 σ post) : CI l D cI (wC cI q) y_W_nodes b_W_nodes 2 .int rm_W_nodes [.ref (q 0), .int x1] σ post := by
  refine CI_of (by decide) (Nat.le_of_ble_eq_true rfl) ?_
  intro Z hZl hZD hZI X hR
  subst hZl; subst hZD; subst hZI
  unfold wp_W_nodes at hw
  show VV Z 0 0 (wC (zI Z) q σ) [(0, .ref (q 0)), (1, .int x1)] 0 []
  refine x_aload_n (pc := 0) X d_W_nodes_0 0 rfl ?_
  refine x_get (pc := 1) X tb_W 0 1 (by decide) mw_30 (atC_0 _ _ _) rfl d_W_nodes_1 ?_
  refine x_iload_n (pc := 4) X d_W_nodes_4 1 rfl ?_
  refine x_cni (pc := 5) X [.int x1] (c_T_hasSet (zl Z) (zD Z) (zI Z) q σ x1 _ hw) mv_T_hasSet tb_T 3 (atC_3 _ _ _) nw_95 d_W_nodes_5 rfl (Nat.le_of_ble_eq_true rfl) ⟨Nat.le_of_ble_eq_true rfl, Nat.le_of_ble_eq_true rfl⟩ ⟨rfl, rfl⟩ ⟨Nat.zero_le _, Nat.zero_le _⟩ ?_
  intro r1 σ1 hw
  refine x_if_eq (pc := 8) (tgt := 23) X d_W_nodes_8 (by decide) (fun c => ?_) (fun c => ?_)
  · have hw := hw.1 c
    refine x_iconst (pc := 23) (v := 0) X d_W_nodes_23 (by decide) ?_
    exact hR _ _ _ _ d_W_nodes_24 (vp_nar_int _) hw
  · have hw := hw.2 c
    refine x_aload_n (pc := 11) X d_W_nodes_11 0 rfl ?_
    refine x_get (pc := 12) X tb_W 0 1 (by decide) mw_30 (atC_0 _ _ _) rfl d_W_nodes_12 ?_
    refine x_getN (pc := 15) X tb_T 3 4 (by decide) nw_96 (atC_3 _ _ _) rfl d_W_nodes_15 ?_
    refine x_iload_n (pc := 18) X d_W_nodes_18 1 rfl ?_
    obtain ⟨h2, hw⟩ := hw
    refine x_iald (pc := 19) X 4 (atC_4 _ _ _) h2 d_W_nodes_19 ?_
    refine x_goto (pc := 20) (tgt := 24) X d_W_nodes_20 (by decide) ?_
    exact hR _ _ _ _ d_W_nodes_24 (vp_nar_int _) hw
def rm_M_nodes : Room := { frames := 0, cells := 0, slots := 0, locals := 0 }
set_option maxHeartbeats 4000000 in
set_option maxRecDepth 100000 in
theorem c_M_nodes (l : Launch) (D : va_G) (cI : ClassId) (q : Nat → Nat) (σ : St) (x1 : Int32) (post : Int32 → St → Prop) (hw : wp_M_nodes x1 σ post) : CI l D cI (wM cI q) y_M_nodes b_M_nodes 2 .int rm_M_nodes [.ref (q 0), .int x1] σ post := by
  refine CI_of (by decide) (Nat.le_of_ble_eq_true rfl) ?_
  intro Z hZl hZD hZI X hR
  subst hZl; subst hZD; subst hZI
  unfold wp_M_nodes at hw
  show VV Z 0 0 (wM (zI Z) q σ) [(0, .ref (q 0)), (1, .int x1)] 0 []
  refine x_aload_n (pc := 0) X d_M_nodes_0 0 rfl ?_
  refine x_iconst (pc := 1) (v := 0) X d_M_nodes_1 (by decide) ?_
  refine x_put (pc := 2) (ws' := (wM (zI Z) q (us σ 0 0))) X tb_M 0 0 (by decide) mw_7 (atM_0 _ _ _) rfl pI (Nat.le_of_ble_eq_true rfl) (ptM_0 _ _ _ _) d_M_nodes_2 ?_
  refine x_iload_n (pc := 5) X d_M_nodes_5 1 rfl ?_
  refine x_if_lt (pc := 6) (tgt := 17) X d_M_nodes_6 (by decide) (fun c => ?_) (fun c => ?_)
  · have hw := hw.1 c
    refine x_iconst (pc := 17) (v := 0) X d_M_nodes_17 (by decide) ?_
    refine x_goto (pc := 18) (tgt := 27) X d_M_nodes_18 (by decide) ?_
    exact hR _ _ _ _ d_M_nodes_27 (vp_nar_int _) hw
  · have hw := hw.2 c
    refine x_iload_n (pc := 9) X d_M_nodes_9 1 rfl ?_
    refine x_aload_n (pc := 10) X d_M_nodes_10 0 rfl ?_
    refine x_get (pc := 11) X tb_M 0 5 (by decide) mw_77 (atM_0 _ _ _) rfl d_M_nodes_11 ?_
    refine x_icmp_lt (pc := 14) (tgt := 21) X d_M_nodes_14 (by decide) (fun c => ?_) (fun c => ?_)
    · have hw := hw.1 c
      refine x_aload_n (pc := 21) X d_M_nodes_21 0 rfl ?_
      refine x_get (pc := 22) X tb_M 0 7 (by decide) mw_88 (atM_0 _ _ _) rfl d_M_nodes_22 ?_
      refine x_iload_n (pc := 25) X d_M_nodes_25 1 rfl ?_
      obtain ⟨h1, hw⟩ := hw
      refine x_iald (pc := 26) X 2 (atM_2 _ _ _) h1 d_M_nodes_26 ?_
      exact hR _ _ _ _ d_M_nodes_27 (vp_nar_int _) hw
    · have hw := hw.2 c
      refine x_iconst (pc := 17) (v := 0) X d_M_nodes_17 (by decide) ?_
      refine x_goto (pc := 18) (tgt := 27) X d_M_nodes_18 (by decide) ?_
      exact hR _ _ _ _ d_M_nodes_27 (vp_nar_int _) hw
def rm_W_state : Room := { frames := 1, cells := 0, slots := 0, locals := 21 }
set_option maxHeartbeats 4000000 in
set_option maxRecDepth 100000 in
theorem c_W_state (l : Launch) (D : va_G) (cI : ClassId) (q : Nat → Nat) (σ : St) (x1 : Int32) (post : Int32 → St → Prop) (hw : wp_W_state x1 σ post) : CI l D cI (wC cI q) y_W_state b_W_state 2 .int rm_W_state [.ref (q 0), .int x1] σ post := by
  refine CI_of (by decide) (Nat.le_of_ble_eq_true rfl) ?_
  intro Z hZl hZD hZI X hR
  subst hZl; subst hZD; subst hZI
  unfold wp_W_state at hw
  show VV Z 0 0 (wC (zI Z) q σ) [(0, .ref (q 0)), (1, .int x1)] 0 []
  refine x_aload_n (pc := 0) X d_W_state_0 0 rfl ?_
  refine x_get (pc := 1) X tb_W 0 1 (by decide) mw_30 (atC_0 _ _ _) rfl d_W_state_1 ?_
  refine x_iload_n (pc := 4) X d_W_state_4 1 rfl ?_
  refine x_cni (pc := 5) X [.int x1] (c_T_hasSet (zl Z) (zD Z) (zI Z) q σ x1 _ hw) mv_T_hasSet tb_T 3 (atC_3 _ _ _) nw_95 d_W_state_5 rfl (Nat.le_of_ble_eq_true rfl) ⟨Nat.le_of_ble_eq_true rfl, Nat.le_of_ble_eq_true rfl⟩ ⟨rfl, rfl⟩ ⟨Nat.zero_le _, Nat.zero_le _⟩ ?_
  intro r1 σ1 hw
  refine x_if_eq (pc := 8) (tgt := 23) X d_W_state_8 (by decide) (fun c => ?_) (fun c => ?_)
  · have hw := hw.1 c
    refine x_iconst (pc := 23) (v := (-1)) X d_W_state_23 (by decide) ?_
    exact hR _ _ _ _ d_W_state_24 (vp_nar_int _) hw
  · have hw := hw.2 c
    refine x_aload_n (pc := 11) X d_W_state_11 0 rfl ?_
    refine x_get (pc := 12) X tb_W 0 1 (by decide) mw_30 (atC_0 _ _ _) rfl d_W_state_12 ?_
    refine x_getN (pc := 15) X tb_T 3 9 (by decide) nw_97 (atC_3 _ _ _) rfl d_W_state_15 ?_
    refine x_iload_n (pc := 18) X d_W_state_18 1 rfl ?_
    obtain ⟨h2, hw⟩ := hw
    refine x_iald (pc := 19) X 9 (atC_9 _ _ _) h2 d_W_state_19 ?_
    refine x_goto (pc := 20) (tgt := 24) X d_W_state_20 (by decide) ?_
    exact hR _ _ _ _ d_W_state_24 (vp_nar_int _) hw
def rm_M_state : Room := { frames := 0, cells := 0, slots := 0, locals := 0 }
set_option maxHeartbeats 4000000 in
set_option maxRecDepth 100000 in
theorem c_M_state (l : Launch) (D : va_G) (cI : ClassId) (q : Nat → Nat) (σ : St) (x1 : Int32) (post : Int32 → St → Prop) (hw : wp_M_state x1 σ post) : CI l D cI (wM cI q) y_M_state b_M_state 2 .int rm_M_state [.ref (q 0), .int x1] σ post := by
  refine CI_of (by decide) (Nat.le_of_ble_eq_true rfl) ?_
  intro Z hZl hZD hZI X hR
  subst hZl; subst hZD; subst hZI
  unfold wp_M_state at hw
  show VV Z 0 0 (wM (zI Z) q σ) [(0, .ref (q 0)), (1, .int x1)] 0 []
  refine x_aload_n (pc := 0) X d_M_state_0 0 rfl ?_
  refine x_iconst (pc := 1) (v := 0) X d_M_state_1 (by decide) ?_
  refine x_put (pc := 2) (ws' := (wM (zI Z) q (us σ 0 0))) X tb_M 0 0 (by decide) mw_7 (atM_0 _ _ _) rfl pI (Nat.le_of_ble_eq_true rfl) (ptM_0 _ _ _ _) d_M_state_2 ?_
  refine x_iload_n (pc := 5) X d_M_state_5 1 rfl ?_
  refine x_if_lt (pc := 6) (tgt := 17) X d_M_state_6 (by decide) (fun c => ?_) (fun c => ?_)
  · have hw := hw.1 c
    refine x_iconst (pc := 17) (v := (-1)) X d_M_state_17 (by decide) ?_
    refine x_goto (pc := 18) (tgt := 27) X d_M_state_18 (by decide) ?_
    exact hR _ _ _ _ d_M_state_27 (vp_nar_int _) hw
  · have hw := hw.2 c
    refine x_iload_n (pc := 9) X d_M_state_9 1 rfl ?_
    refine x_aload_n (pc := 10) X d_M_state_10 0 rfl ?_
    refine x_get (pc := 11) X tb_M 0 5 (by decide) mw_77 (atM_0 _ _ _) rfl d_M_state_11 ?_
    refine x_icmp_lt (pc := 14) (tgt := 21) X d_M_state_14 (by decide) (fun c => ?_) (fun c => ?_)
    · have hw := hw.1 c
      refine x_aload_n (pc := 21) X d_M_state_21 0 rfl ?_
      refine x_get (pc := 22) X tb_M 0 11 (by decide) mw_83 (atM_0 _ _ _) rfl d_M_state_22 ?_
      refine x_iload_n (pc := 25) X d_M_state_25 1 rfl ?_
      obtain ⟨h1, hw⟩ := hw
      refine x_iald (pc := 26) X 6 (atM_6 _ _ _) h1 d_M_state_26 ?_
      exact hR _ _ _ _ d_M_state_27 (vp_nar_int _) hw
    · have hw := hw.2 c
      refine x_iconst (pc := 17) (v := (-1)) X d_M_state_17 (by decide) ?_
      refine x_goto (pc := 18) (tgt := 27) X d_M_state_18 (by decide) ?_
      exact hR _ _ _ _ d_M_state_27 (vp_nar_int _) hw
def rm_T_rowLength : Room := { frames := 2, cells := 0, slots := 0, locals := 43 }
set_option maxHeartbeats 4000000 in
set_option maxRecDepth 100000 in
theorem c_T_rowLength (l : Launch) (D : va_G) (cI : ClassId) (q : Nat → Nat) (σ : St) (x1 x2 : Int32) (post : Int32 → St → Prop) (hw : wp_T_rowLength x1 x2 σ post) : CI l D cI (wC cI q) y_T_rowLength b_T_rowLength 3 .int rm_T_rowLength [.ref (q 3), .int x1, .int x2] σ post := by
  refine CI_of (by decide) (Nat.le_of_ble_eq_true rfl) ?_
  intro Z hZl hZD hZI X hR
  subst hZl; subst hZD; subst hZI
  unfold wp_T_rowLength at hw
  show VV Z 0 0 (wC (zI Z) q σ) [(0, .ref (q 3)), (1, .int x1), (2, .int x2)] 0 []
  refine x_iload_n (pc := 0) X d_T_rowLength_0 1 rfl ?_
  refine x_iload_n (pc := 1) X d_T_rowLength_1 2 rfl ?_
  refine x_icmp_ne (pc := 2) (tgt := 9) X d_T_rowLength_2 (by decide) (fun c => ?_) (fun c => ?_)
  · have hw := hw.1 c
    refine x_aload_n (pc := 9) X d_T_rowLength_9 0 rfl ?_
    refine x_get (pc := 10) X tb_T 3 11 (by decide) mw_54 (atC_3 _ _ _) rfl d_T_rowLength_10 ?_
    refine x_aload_n (pc := 13) X d_T_rowLength_13 0 rfl ?_
    refine x_get (pc := 14) X tb_T 3 10 (by decide) mw_68 (atC_3 _ _ _) rfl d_T_rowLength_14 ?_
    refine x_iload_n (pc := 17) X d_T_rowLength_17 1 rfl ?_
    obtain ⟨h1, hw⟩ := hw
    refine x_iald (pc := 18) X 10 (atC_10 _ _ _) h1 d_T_rowLength_18 ?_
    refine x_aload_n (pc := 19) X d_T_rowLength_19 0 rfl ?_
    refine x_get (pc := 20) X tb_T 3 10 (by decide) mw_68 (atC_3 _ _ _) rfl d_T_rowLength_20 ?_
    refine x_iload_n (pc := 23) X d_T_rowLength_23 2 rfl ?_
    obtain ⟨h2, hw⟩ := hw
    refine x_iald (pc := 24) X 10 (atC_10 _ _ _) h2 d_T_rowLength_24 ?_
    refine x_csi (pc := 25) X [.int (σ.2 7 x1.toNatClampNeg), .int (σ.2 7 x2.toNatClampNeg)] (c_T_pair (zl Z) (zD Z) (zI Z) q σ (σ.2 7 x1.toNatClampNeg) (σ.2 7 x2.toNatClampNeg) _ hw) ms_T_pair mw_62 d_T_rowLength_25 rfl (Nat.le_of_ble_eq_true rfl) ⟨Nat.le_of_ble_eq_true rfl, Nat.le_of_ble_eq_true rfl⟩ ⟨rfl, rfl⟩ ⟨Nat.zero_le _, Nat.zero_le _⟩ ?_
    intro r3 σ3 hw
    obtain ⟨h4, hw⟩ := hw
    refine x_iald (pc := 28) X 11 (atC_11 _ _ _) h4 d_T_rowLength_28 ?_
    exact hR _ _ _ _ d_T_rowLength_29 (vp_nar_int _) hw
  · have hw := hw.2 c
    refine x_iconst (pc := 5) (v := 0) X d_T_rowLength_5 (by decide) ?_
    refine x_goto (pc := 6) (tgt := 29) X d_T_rowLength_6 (by decide) ?_
    exact hR _ _ _ _ d_T_rowLength_29 (vp_nar_int _) hw
def rm_W_apart : Room := { frames := 3, cells := 0, slots := 0, locals := 65 }
set_option maxHeartbeats 4000000 in
set_option maxRecDepth 100000 in
theorem c_W_apart (l : Launch) (D : va_G) (cI : ClassId) (q : Nat → Nat) (σ : St) (x1 x2 : Int32) (post : Int32 → St → Prop) (hw : wp_W_apart x1 x2 σ post) : CI l D cI (wC cI q) y_W_apart b_W_apart 3 .int rm_W_apart [.ref (q 0), .int x1, .int x2] σ post := by
  refine CI_of (by decide) (Nat.le_of_ble_eq_true rfl) ?_
  intro Z hZl hZD hZI X hR
  subst hZl; subst hZD; subst hZI
  unfold wp_W_apart at hw
  show VV Z 0 0 (wC (zI Z) q σ) [(0, .ref (q 0)), (1, .int x1), (2, .int x2)] 0 []
  refine x_aload_n (pc := 0) X d_W_apart_0 0 rfl ?_
  refine x_get (pc := 1) X tb_W 0 1 (by decide) mw_30 (atC_0 _ _ _) rfl d_W_apart_1 ?_
  refine x_iload_n (pc := 4) X d_W_apart_4 1 rfl ?_
  refine x_cni (pc := 5) X [.int x1] (c_T_hasState (zl Z) (zD Z) (zI Z) q σ x1 _ hw) mv_T_hasState tb_T 3 (atC_3 _ _ _) nw_89 d_W_apart_5 rfl (Nat.le_of_ble_eq_true rfl) ⟨Nat.le_of_ble_eq_true rfl, Nat.le_of_ble_eq_true rfl⟩ ⟨rfl, rfl⟩ ⟨Nat.zero_le _, Nat.zero_le _⟩ ?_
  intro r1 σ1 hw
  refine x_if_eq (pc := 8) (tgt := 22) X d_W_apart_8 (by decide) (fun c => ?_) (fun c => ?_)
  · have hw := hw.1 c
    refine x_iconst (pc := 22) (v := (-1)) X d_W_apart_22 (by decide) ?_
    exact hR _ _ _ _ d_W_apart_23 (vp_nar_int _) hw
  · have hw := hw.2 c
    refine x_aload_n (pc := 11) X d_W_apart_11 0 rfl ?_
    refine x_get (pc := 12) X tb_W 0 1 (by decide) mw_30 (atC_0 _ _ _) rfl d_W_apart_12 ?_
    refine x_iload_n (pc := 15) X d_W_apart_15 2 rfl ?_
    refine x_cni (pc := 16) X [.int x2] (c_T_hasState (zl Z) (zD Z) (zI Z) q σ1 x2 _ hw) mv_T_hasState tb_T 3 (atC_3 _ _ _) nw_89 d_W_apart_16 rfl (Nat.le_of_ble_eq_true rfl) ⟨Nat.le_of_ble_eq_true rfl, Nat.le_of_ble_eq_true rfl⟩ ⟨rfl, rfl⟩ ⟨Nat.zero_le _, Nat.zero_le _⟩ ?_
    intro r2 σ2 hw
    refine x_if_ne (pc := 19) (tgt := 24) X d_W_apart_19 (by decide) (fun c => ?_) (fun c => ?_)
    · have hw := hw.1 c
      refine x_aload_n (pc := 24) X d_W_apart_24 0 rfl ?_
      refine x_get (pc := 25) X tb_W 0 1 (by decide) mw_30 (atC_0 _ _ _) rfl d_W_apart_25 ?_
      refine x_iload_n (pc := 28) X d_W_apart_28 1 rfl ?_
      refine x_iload_n (pc := 29) X d_W_apart_29 2 rfl ?_
      refine x_cni (pc := 30) X [.int x1, .int x2] (c_T_rowLength (zl Z) (zD Z) (zI Z) q σ2 x1 x2 _ hw) mv_T_rowLength tb_T 3 (atC_3 _ _ _) nw_98 d_W_apart_30 rfl (Nat.le_of_ble_eq_true rfl) ⟨Nat.le_of_ble_eq_true rfl, Nat.le_of_ble_eq_true rfl⟩ ⟨rfl, rfl⟩ ⟨Nat.zero_le _, Nat.zero_le _⟩ ?_
      intro r3 σ3 hw
      exact hR _ _ _ _ d_W_apart_33 (vp_nar_int _) hw
    · have hw := hw.2 c
      refine x_iconst (pc := 22) (v := (-1)) X d_W_apart_22 (by decide) ?_
      exact hR _ _ _ _ d_W_apart_23 (vp_nar_int _) hw
def rm_M_apart : Room := { frames := 1, cells := 0, slots := 0, locals := 21 }
set_option maxHeartbeats 4000000 in
set_option maxRecDepth 100000 in
theorem c_M_apart (l : Launch) (D : va_G) (cI : ClassId) (q : Nat → Nat) (σ : St) (x1 x2 : Int32) (post : Int32 → St → Prop) (hw : wp_M_apart x1 x2 σ post) : CI l D cI (wM cI q) y_M_apart b_M_apart 3 .int rm_M_apart [.ref (q 0), .int x1, .int x2] σ post := by
  refine CI_of (by decide) (Nat.le_of_ble_eq_true rfl) ?_
  intro Z hZl hZD hZI X hR
  subst hZl; subst hZD; subst hZI
  unfold wp_M_apart at hw
  show VV Z 0 0 (wM (zI Z) q σ) [(0, .ref (q 0)), (1, .int x1), (2, .int x2)] 0 []
  refine x_aload_n (pc := 0) X d_M_apart_0 0 rfl ?_
  refine x_iconst (pc := 1) (v := 0) X d_M_apart_1 (by decide) ?_
  refine x_put (pc := 2) (ws' := (wM (zI Z) q (us σ 0 0))) X tb_M 0 0 (by decide) mw_7 (atM_0 _ _ _) rfl pI (Nat.le_of_ble_eq_true rfl) (ptM_0 _ _ _ _) d_M_apart_2 ?_
  refine x_aload_n (pc := 5) X d_M_apart_5 0 rfl ?_
  refine x_iload_n (pc := 6) X d_M_apart_6 1 rfl ?_
  refine x_cvi (pc := 7) X [.int x1] (c_M_isState (zl Z) (zD Z) (zI Z) q (us σ 0 0) x1 _ hw) mv_M_isState tb_M 0 (atM_0 _ _ _) mw_94 d_M_apart_7 rfl (Nat.le_of_ble_eq_true rfl) ⟨Nat.le_of_ble_eq_true rfl, Nat.le_of_ble_eq_true rfl⟩ ⟨rfl, rfl⟩ ⟨Nat.zero_le _, Nat.zero_le _⟩ ?_
  intro r1 σ1 hw
  refine x_if_eq (pc := 10) (tgt := 69) X d_M_apart_10 (by decide) (fun c => ?_) (fun c => ?_)
  · have hw := hw.1 c
    refine x_iconst (pc := 69) (v := (-1)) X d_M_apart_69 (by decide) ?_
    exact hR _ _ _ _ d_M_apart_70 (vp_nar_int _) hw
  · have hw := hw.2 c
    refine x_aload_n (pc := 13) X d_M_apart_13 0 rfl ?_
    refine x_iload_n (pc := 14) X d_M_apart_14 2 rfl ?_
    refine x_cvi (pc := 15) X [.int x2] (c_M_isState (zl Z) (zD Z) (zI Z) q σ1 x2 _ hw) mv_M_isState tb_M 0 (atM_0 _ _ _) mw_94 d_M_apart_15 rfl (Nat.le_of_ble_eq_true rfl) ⟨Nat.le_of_ble_eq_true rfl, Nat.le_of_ble_eq_true rfl⟩ ⟨rfl, rfl⟩ ⟨Nat.zero_le _, Nat.zero_le _⟩ ?_
    intro r2 σ2 hw
    refine x_if_eq (pc := 18) (tgt := 69) X d_M_apart_18 (by decide) (fun c => ?_) (fun c => ?_)
    · have hw := hw.1 c
      refine x_iconst (pc := 69) (v := (-1)) X d_M_apart_69 (by decide) ?_
      exact hR _ _ _ _ d_M_apart_70 (vp_nar_int _) hw
    · have hw := hw.2 c
      refine x_aload_n (pc := 21) X d_M_apart_21 0 rfl ?_
      refine x_get (pc := 22) X tb_M 0 9 (by decide) mw_79 (atM_0 _ _ _) rfl d_M_apart_22 ?_
      refine x_bipush (pc := 25) (v := (nI 120)) X d_M_apart_25 (by decide) ?_
      refine x_aload_n (pc := 27) X d_M_apart_27 0 rfl ?_
      refine x_get (pc := 28) X tb_M 0 12 (by decide) mw_84 (atM_0 _ _ _) rfl d_M_apart_28 ?_
      refine x_aload_n (pc := 31) X d_M_apart_31 0 rfl ?_
      refine x_iload_n (pc := 32) X d_M_apart_32 1 rfl ?_
      refine x_cvi (pc := 33) X [.int x1] (c_M_isState (zl Z) (zD Z) (zI Z) q σ2 x1 _ hw) mv_M_isState tb_M 0 (atM_0 _ _ _) mw_94 d_M_apart_33 rfl (Nat.le_of_ble_eq_true rfl) ⟨Nat.le_of_ble_eq_true rfl, Nat.le_of_ble_eq_true rfl⟩ ⟨rfl, rfl⟩ ⟨Nat.zero_le _, Nat.zero_le _⟩ ?_
      intro r3 σ3 hw
      refine x_if_eq (pc := 36) (tgt := 43) X d_M_apart_36 (by decide) (fun c => ?_) (fun c => ?_)
      · have hw := hw.1 c
        refine x_iconst (pc := 43) (v := 0) X d_M_apart_43 (by decide) ?_
        obtain ⟨h4, hw⟩ := hw
        refine x_iald (pc := 44) X 7 (atM_7 _ _ _) h4 d_M_apart_44 ?_
        refine x_imul (pc := 45) X d_M_apart_45 ?_
        refine x_aload_n (pc := 46) X d_M_apart_46 0 rfl ?_
        refine x_get (pc := 47) X tb_M 0 12 (by decide) mw_84 (atM_0 _ _ _) rfl d_M_apart_47 ?_
        refine x_aload_n (pc := 50) X d_M_apart_50 0 rfl ?_
        refine x_iload_n (pc := 51) X d_M_apart_51 2 rfl ?_
        refine x_cvi (pc := 52) X [.int x2] (c_M_isState (zl Z) (zD Z) (zI Z) q σ3 x2 _ hw) mv_M_isState tb_M 0 (atM_0 _ _ _) mw_94 d_M_apart_52 rfl (Nat.le_of_ble_eq_true rfl) ⟨Nat.le_of_ble_eq_true rfl, Nat.le_of_ble_eq_true rfl⟩ ⟨rfl, rfl⟩ ⟨Nat.zero_le _, Nat.zero_le _⟩ ?_
        intro r5 σ5 hw
        refine x_if_eq (pc := 55) (tgt := 62) X d_M_apart_55 (by decide) (fun c => ?_) (fun c => ?_)
        · have hw := hw.1 c
          refine x_iconst (pc := 62) (v := 0) X d_M_apart_62 (by decide) ?_
          obtain ⟨h6, hw⟩ := hw
          refine x_iald (pc := 63) X 7 (atM_7 _ _ _) h6 d_M_apart_63 ?_
          refine x_iadd (pc := 64) X d_M_apart_64 ?_
          obtain ⟨h7, hw⟩ := hw
          refine x_iald (pc := 65) X 4 (atM_4 _ _ _) h7 d_M_apart_65 ?_
          refine x_goto (pc := 66) (tgt := 70) X d_M_apart_66 (by decide) ?_
          exact hR _ _ _ _ d_M_apart_70 (vp_nar_int _) hw
        · have hw := hw.2 c
          refine x_iload_n (pc := 58) X d_M_apart_58 2 rfl ?_
          refine x_goto (pc := 59) (tgt := 63) X d_M_apart_59 (by decide) ?_
          obtain ⟨h8, hw⟩ := hw
          refine x_iald (pc := 63) X 7 (atM_7 _ _ _) h8 d_M_apart_63 ?_
          refine x_iadd (pc := 64) X d_M_apart_64 ?_
          obtain ⟨h9, hw⟩ := hw
          refine x_iald (pc := 65) X 4 (atM_4 _ _ _) h9 d_M_apart_65 ?_
          refine x_goto (pc := 66) (tgt := 70) X d_M_apart_66 (by decide) ?_
          exact hR _ _ _ _ d_M_apart_70 (vp_nar_int _) hw
      · have hw := hw.2 c
        refine x_iload_n (pc := 39) X d_M_apart_39 1 rfl ?_
        refine x_goto (pc := 40) (tgt := 44) X d_M_apart_40 (by decide) ?_
        obtain ⟨h10, hw⟩ := hw
        refine x_iald (pc := 44) X 7 (atM_7 _ _ _) h10 d_M_apart_44 ?_
        refine x_imul (pc := 45) X d_M_apart_45 ?_
        refine x_aload_n (pc := 46) X d_M_apart_46 0 rfl ?_
        refine x_get (pc := 47) X tb_M 0 12 (by decide) mw_84 (atM_0 _ _ _) rfl d_M_apart_47 ?_
        refine x_aload_n (pc := 50) X d_M_apart_50 0 rfl ?_
        refine x_iload_n (pc := 51) X d_M_apart_51 2 rfl ?_
        refine x_cvi (pc := 52) X [.int x2] (c_M_isState (zl Z) (zD Z) (zI Z) q σ3 x2 _ hw) mv_M_isState tb_M 0 (atM_0 _ _ _) mw_94 d_M_apart_52 rfl (Nat.le_of_ble_eq_true rfl) ⟨Nat.le_of_ble_eq_true rfl, Nat.le_of_ble_eq_true rfl⟩ ⟨rfl, rfl⟩ ⟨Nat.zero_le _, Nat.zero_le _⟩ ?_
        intro r11 σ11 hw
        refine x_if_eq (pc := 55) (tgt := 62) X d_M_apart_55 (by decide) (fun c => ?_) (fun c => ?_)
        · have hw := hw.1 c
          refine x_iconst (pc := 62) (v := 0) X d_M_apart_62 (by decide) ?_
          obtain ⟨h12, hw⟩ := hw
          refine x_iald (pc := 63) X 7 (atM_7 _ _ _) h12 d_M_apart_63 ?_
          refine x_iadd (pc := 64) X d_M_apart_64 ?_
          obtain ⟨h13, hw⟩ := hw
          refine x_iald (pc := 65) X 4 (atM_4 _ _ _) h13 d_M_apart_65 ?_
          refine x_goto (pc := 66) (tgt := 70) X d_M_apart_66 (by decide) ?_
          exact hR _ _ _ _ d_M_apart_70 (vp_nar_int _) hw
        · have hw := hw.2 c
          refine x_iload_n (pc := 58) X d_M_apart_58 2 rfl ?_
          refine x_goto (pc := 59) (tgt := 63) X d_M_apart_59 (by decide) ?_
          obtain ⟨h14, hw⟩ := hw
          refine x_iald (pc := 63) X 7 (atM_7 _ _ _) h14 d_M_apart_63 ?_
          refine x_iadd (pc := 64) X d_M_apart_64 ?_
          obtain ⟨h15, hw⟩ := hw
          refine x_iald (pc := 65) X 4 (atM_4 _ _ _) h15 d_M_apart_65 ?_
          refine x_goto (pc := 66) (tgt := 70) X d_M_apart_66 (by decide) ?_
          exact hR _ _ _ _ d_M_apart_70 (vp_nar_int _) hw
def rm_T_leaderAfter_7 : Room := { frames := 0, cells := 0, slots := 0, locals := 0 }
set_option maxHeartbeats 4000000 in
set_option maxRecDepth 100000 in
theorem c_T_leaderAfter_7 (l : Launch) (D : va_G) (cI : ClassId) (q : Nat → Nat) (σ : St) (x2 x3 : Int32) (post : Int32 → St → Prop) (hw : wp_T_leaderAfter_7 x2 x3 σ post) : CI l D cI (wC cI q) y_T_leaderAfter b_T_leaderAfter 5 .int rm_T_leaderAfter_7 [.ref (q 3), .ref (q 7), .int x2, .int x3] σ post := by
  refine CI_of (by decide) (Nat.le_of_ble_eq_true rfl) ?_
  intro Z hZl hZD hZI X hR
  subst hZl; subst hZD; subst hZI
  unfold wp_T_leaderAfter_7 at hw
  show VV Z 0 0 (wC (zI Z) q σ) [(0, .ref (q 3)), (1, .ref (q 7)), (2, .int x2), (3, .int x3)] 0 []
  refine x_aload_n (pc := 0) X d_T_leaderAfter_0 0 rfl ?_
  refine x_get (pc := 1) X tb_T 3 6 (by decide) mw_44 (atC_3 _ _ _) rfl d_T_leaderAfter_1 ?_
  refine x_iload_n (pc := 4) X d_T_leaderAfter_4 2 rfl ?_
  refine x_bipush (pc := 5) (v := (nI 40)) X d_T_leaderAfter_5 (by decide) ?_
  refine x_imul (pc := 7) X d_T_leaderAfter_7 ?_
  refine x_iload_n (pc := 8) X d_T_leaderAfter_8 3 rfl ?_
  refine x_iadd (pc := 9) X d_T_leaderAfter_9 ?_
  obtain ⟨h1, hw⟩ := hw
  refine x_iald (pc := 10) X 6 (atC_6 _ _ _) h1 d_T_leaderAfter_10 ?_
  refine x_istore (pc := 11) (lv' := [(0, .ref (q 3)), (1, .ref (q 7)), (2, .int x2), (3, .int x3), (4, .int (σ.2 3 ((x2 * (nI 40)) + x3).toNatClampNeg))]) X d_T_leaderAfter_11 (by decide) [1, 2, 3, 4, 0] rfl ?_
  refine x_iload (pc := 13) X d_T_leaderAfter_13 4 rfl ?_
  refine x_iconst (pc := 15) (v := (-1)) X d_T_leaderAfter_15 (by decide) ?_
  refine x_icmp_ne (pc := 16) (tgt := 23) X d_T_leaderAfter_16 (by decide) (fun c => ?_) (fun c => ?_)
  · have hw := hw.1 c
    refine x_aload_n (pc := 23) X d_T_leaderAfter_23 1 rfl ?_
    refine x_iload (pc := 24) X d_T_leaderAfter_24 4 rfl ?_
    obtain ⟨h2, hw⟩ := hw
    refine x_iald (pc := 26) X 7 (atC_7 _ _ _) h2 d_T_leaderAfter_26 ?_
    exact hR _ _ _ _ d_T_leaderAfter_27 (vp_nar_int _) hw
  · have hw := hw.2 c
    refine x_iconst (pc := 19) (v := (-1)) X d_T_leaderAfter_19 (by decide) ?_
    refine x_goto (pc := 20) (tgt := 27) X d_T_leaderAfter_20 (by decide) ?_
    exact hR _ _ _ _ d_T_leaderAfter_27 (vp_nar_int _) hw
def rm_T_lengthBehind : Room := { frames := 2, cells := 0, slots := 0, locals := 43 }
set_option maxHeartbeats 4000000 in
set_option maxRecDepth 100000 in
theorem c_T_lengthBehind (l : Launch) (D : va_G) (cI : ClassId) (q : Nat → Nat) (σ : St) (x1 x2 : Int32) (post : Int32 → St → Prop) (hw : wp_T_lengthBehind x1 x2 σ post) : CI l D cI (wC cI q) y_T_lengthBehind b_T_lengthBehind 3 .int rm_T_lengthBehind [.ref (q 3), .int x1, .int x2] σ post := by
  refine CI_of (by decide) (Nat.le_of_ble_eq_true rfl) ?_
  intro Z hZl hZD hZI X hR
  subst hZl; subst hZD; subst hZI
  unfold wp_T_lengthBehind at hw
  show VV Z 0 0 (wC (zI Z) q σ) [(0, .ref (q 3)), (1, .int x1), (2, .int x2)] 0 []
  refine x_iload_n (pc := 0) X d_T_lengthBehind_0 1 rfl ?_
  refine x_iconst (pc := 1) (v := (-1)) X d_T_lengthBehind_1 (by decide) ?_
  refine x_icmp_eq (pc := 2) (tgt := 10) X d_T_lengthBehind_2 (by decide) (fun c => ?_) (fun c => ?_)
  · have hw := hw.1 c
    refine x_iconst (pc := 10) (v := 0) X d_T_lengthBehind_10 (by decide) ?_
    exact hR _ _ _ _ d_T_lengthBehind_11 (vp_nar_int _) hw
  · have hw := hw.2 c
    refine x_iload_n (pc := 5) X d_T_lengthBehind_5 2 rfl ?_
    refine x_iconst (pc := 6) (v := (-1)) X d_T_lengthBehind_6 (by decide) ?_
    refine x_icmp_ne (pc := 7) (tgt := 12) X d_T_lengthBehind_7 (by decide) (fun c => ?_) (fun c => ?_)
    · have hw := hw.1 c
      refine x_aload_n (pc := 12) X d_T_lengthBehind_12 0 rfl ?_
      refine x_get (pc := 13) X tb_T 3 11 (by decide) mw_54 (atC_3 _ _ _) rfl d_T_lengthBehind_13 ?_
      refine x_iload_n (pc := 16) X d_T_lengthBehind_16 1 rfl ?_
      refine x_iload_n (pc := 17) X d_T_lengthBehind_17 2 rfl ?_
      refine x_csi (pc := 18) X [.int x1, .int x2] (c_T_pair (zl Z) (zD Z) (zI Z) q σ x1 x2 _ hw) ms_T_pair mw_62 d_T_lengthBehind_18 rfl (Nat.le_of_ble_eq_true rfl) ⟨Nat.le_of_ble_eq_true rfl, Nat.le_of_ble_eq_true rfl⟩ ⟨rfl, rfl⟩ ⟨Nat.zero_le _, Nat.zero_le _⟩ ?_
      intro r1 σ1 hw
      obtain ⟨h2, hw⟩ := hw
      refine x_iald (pc := 21) X 11 (atC_11 _ _ _) h2 d_T_lengthBehind_21 ?_
      exact hR _ _ _ _ d_T_lengthBehind_22 (vp_nar_int _) hw
    · have hw := hw.2 c
      refine x_iconst (pc := 10) (v := 0) X d_T_lengthBehind_10 (by decide) ?_
      exact hR _ _ _ _ d_T_lengthBehind_11 (vp_nar_int _) hw
def rm_T_leastLetter : Room := { frames := 3, cells := 0, slots := 0, locals := 65 }
set_option maxHeartbeats 4000000 in
set_option maxRecDepth 100000 in
theorem wL_T_leastLetter_3 {Z : ZT} {q : Nat → Nat} {post : Int32 → St → Prop} (X : Cx Z "WayTable$Table" b_T_leastLetter rm_T_leastLetter 7) (hR : RI Z b_T_leastLetter .int (wC (zI Z) q) post) : ∀ (n : Nat) (x1 x2 x3 x4 : Int32) (σ : St), L_T_leastLetter_3 post n x1 x2 x3 x4 σ → VV Z 0 0 (wC (zI Z) q σ) [(0, .ref (q 3)), (1, .int x1), (2, .int x2), (3, .int x3), (4, .int x4)] 3 [] := by
  intro n
  induction n with
  | zero => intro x1 x2 x3 x4 σ hw; exact False.elim hw
  | succ n ih =>
    intro x1 x2 x3 x4 σ hw
    unfold L_T_leastLetter_3 at hw
    refine x_iload (pc := 3) X d_T_leastLetter_3 4 rfl ?_
    refine x_aload_n (pc := 5) X d_T_leastLetter_5 0 rfl ?_
    refine x_get (pc := 6) X tb_T 3 0 (by decide) mw_37 (atC_3 _ _ _) rfl d_T_leastLetter_6 ?_
    refine x_icmp_ge (pc := 9) (tgt := 66) X d_T_leastLetter_9 (by decide) (fun c => ?_) (fun c => ?_)
    · have hw := hw.1 c
      refine x_iconst (pc := 66) (v := (-1)) X d_T_leastLetter_66 (by decide) ?_
      exact hR _ _ _ _ d_T_leastLetter_67 (vp_nar_int _) hw
    · have hw := hw.2 c
      refine x_aload_n (pc := 12) X d_T_leastLetter_12 0 rfl ?_
      refine x_aload_n (pc := 13) X d_T_leastLetter_13 0 rfl ?_
      refine x_get (pc := 14) X tb_T 3 7 (by decide) mw_46 (atC_3 _ _ _) rfl d_T_leastLetter_14 ?_
      refine x_iload_n (pc := 17) X d_T_leastLetter_17 1 rfl ?_
      refine x_iload (pc := 18) X d_T_leastLetter_18 4 rfl ?_
      refine x_cvi (pc := 20) X [.ref (q 7), .int x1, .int x4] (c_T_leaderAfter_7 (zl Z) (zD Z) (zI Z) q σ x1 x4 _ hw) mv_T_leaderAfter tb_T 3 (atC_3 _ _ _) mw_51 d_T_leastLetter_20 rfl (Nat.le_of_ble_eq_true rfl) ⟨Nat.le_of_ble_eq_true rfl, Nat.le_of_ble_eq_true rfl⟩ ⟨rfl, rfl⟩ ⟨Nat.zero_le _, Nat.zero_le _⟩ ?_
      intro r1 σ1 hw
      refine x_istore (pc := 23) (lv' := [(0, .ref (q 3)), (1, .int x1), (2, .int x2), (3, .int x3), (4, .int x4), (5, .int r1)]) X d_T_leastLetter_23 (by decide) [1, 2, 3, 4, 5, 0] rfl ?_
      refine x_aload_n (pc := 25) X d_T_leastLetter_25 0 rfl ?_
      refine x_aload_n (pc := 26) X d_T_leastLetter_26 0 rfl ?_
      refine x_get (pc := 27) X tb_T 3 7 (by decide) mw_46 (atC_3 _ _ _) rfl d_T_leastLetter_27 ?_
      refine x_iload_n (pc := 30) X d_T_leastLetter_30 2 rfl ?_
      refine x_iload (pc := 31) X d_T_leastLetter_31 4 rfl ?_
      refine x_cvi (pc := 33) X [.ref (q 7), .int x2, .int x4] (c_T_leaderAfter_7 (zl Z) (zD Z) (zI Z) q σ1 x2 x4 _ hw) mv_T_leaderAfter tb_T 3 (atC_3 _ _ _) mw_51 d_T_leastLetter_33 rfl (Nat.le_of_ble_eq_true rfl) ⟨Nat.le_of_ble_eq_true rfl, Nat.le_of_ble_eq_true rfl⟩ ⟨rfl, rfl⟩ ⟨Nat.zero_le _, Nat.zero_le _⟩ ?_
      intro r2 σ2 hw
      refine x_istore (pc := 36) (lv' := [(0, .ref (q 3)), (1, .int x1), (2, .int x2), (3, .int x3), (4, .int x4), (5, .int r1), (6, .int r2)]) X d_T_leastLetter_36 (by decide) [1, 2, 3, 4, 5, 6, 0] rfl ?_
      refine x_iload (pc := 38) X d_T_leastLetter_38 5 rfl ?_
      refine x_iload (pc := 40) X d_T_leastLetter_40 6 rfl ?_
      refine x_icmp_eq (pc := 42) (tgt := 60) X d_T_leastLetter_42 (by decide) (fun c => ?_) (fun c => ?_)
      · have hw := hw.1 c
        refine x_iinc (pc := 60) (d := 1) (lv' := [(0, .ref (q 3)), (1, .int x1), (2, .int x2), (3, .int x3), (4, .int (x4 + 1)), (5, .int r1), (6, .int r2)]) X d_T_leastLetter_60 4 rfl (by decide) (by decide) [1, 2, 3, 4, 0, 5, 6] rfl ?_
        refine x_goto (pc := 63) (tgt := 3) X d_T_leastLetter_63 (by decide) ?_
        refine x_drop [0, 1, 2, 3, 4] rfl ?_
        exact ih x1 x2 x3 (x4 + 1) σ2 hw
      · have hw := hw.2 c
        refine x_aload_n (pc := 45) X d_T_leastLetter_45 0 rfl ?_
        refine x_iload (pc := 46) X d_T_leastLetter_46 5 rfl ?_
        refine x_iload (pc := 48) X d_T_leastLetter_48 6 rfl ?_
        refine x_cvi (pc := 50) X [.int r1, .int r2] (c_T_lengthBehind (zl Z) (zD Z) (zI Z) q σ2 r1 r2 _ hw) mv_T_lengthBehind tb_T 3 (atC_3 _ _ _) mw_101 d_T_leastLetter_50 rfl (Nat.le_of_ble_eq_true rfl) ⟨Nat.le_of_ble_eq_true rfl, Nat.le_of_ble_eq_true rfl⟩ ⟨rfl, rfl⟩ ⟨Nat.zero_le _, Nat.zero_le _⟩ ?_
        intro r3 σ3 hw
        refine x_iload_n (pc := 53) X d_T_leastLetter_53 3 rfl ?_
        refine x_icmp_ne (pc := 54) (tgt := 60) X d_T_leastLetter_54 (by decide) (fun c => ?_) (fun c => ?_)
        · have hw := hw.1 c
          refine x_iinc (pc := 60) (d := 1) (lv' := [(0, .ref (q 3)), (1, .int x1), (2, .int x2), (3, .int x3), (4, .int (x4 + 1)), (5, .int r1), (6, .int r2)]) X d_T_leastLetter_60 4 rfl (by decide) (by decide) [1, 2, 3, 4, 0, 5, 6] rfl ?_
          refine x_goto (pc := 63) (tgt := 3) X d_T_leastLetter_63 (by decide) ?_
          refine x_drop [0, 1, 2, 3, 4] rfl ?_
          exact ih x1 x2 x3 (x4 + 1) σ3 hw
        · have hw := hw.2 c
          refine x_iload (pc := 57) X d_T_leastLetter_57 4 rfl ?_
          exact hR _ _ _ _ d_T_leastLetter_59 (vp_nar_int _) hw
set_option maxHeartbeats 4000000 in
set_option maxRecDepth 100000 in
theorem c_T_leastLetter (l : Launch) (D : va_G) (cI : ClassId) (q : Nat → Nat) (σ : St) (x1 x2 x3 : Int32) (post : Int32 → St → Prop) (hw : wp_T_leastLetter x1 x2 x3 σ post) : CI l D cI (wC cI q) y_T_leastLetter b_T_leastLetter 7 .int rm_T_leastLetter [.ref (q 3), .int x1, .int x2, .int x3] σ post := by
  refine CI_of (by decide) (Nat.le_of_ble_eq_true rfl) ?_
  intro Z hZl hZD hZI X hR
  subst hZl; subst hZD; subst hZI
  unfold wp_T_leastLetter at hw
  show VV Z 0 0 (wC (zI Z) q σ) [(0, .ref (q 3)), (1, .int x1), (2, .int x2), (3, .int x3)] 0 []
  refine x_iconst (pc := 0) (v := 0) X d_T_leastLetter_0 (by decide) ?_
  refine x_istore (pc := 1) (lv' := [(0, .ref (q 3)), (1, .int x1), (2, .int x2), (3, .int x3), (4, .int 0)]) X d_T_leastLetter_1 (by decide) [1, 2, 3, 4, 0] rfl ?_
  obtain ⟨n2, hw⟩ := hw
  exact wL_T_leastLetter_3 X hR n2 x1 x2 x3 0 σ hw
