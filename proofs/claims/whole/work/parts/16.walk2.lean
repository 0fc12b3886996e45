def rm_W_fill : Room := { frames := 2, cells := 0, slots := 0, locals := 44 }
set_option maxHeartbeats 4000000 in
set_option maxRecDepth 100000 in
theorem wL_W_fill_29 {Z : ZT} {q : Nat → Nat} {post : Int32 → St → Prop} (X : Cx Z "WayTable" b_W_fill rm_W_fill 5) (hR : RI Z b_W_fill .int (wC (zI Z) q) post) : ∀ (n : Nat) (x1 x2 x3 x4 : Int32) (σ : St), L_W_fill_29 post n x1 x2 x3 x4 σ → VV Z 0 0 (wC (zI Z) q σ) [(0, .ref (q 0)), (1, .int x1), (2, .int x2), (3, .int x3), (4, .int x4)] 29 [] := by
  intro n
  induction n with
  | zero => intro x1 x2 x3 x4 σ hw; exact False.elim hw
  | succ n ih =>
    intro x1 x2 x3 x4 σ hw
    unfold L_W_fill_29 at hw
    refine x_iload (pc := 29) X d_W_fill_29 4 rfl ?_
    refine x_aload_n (pc := 31) X d_W_fill_31 0 rfl ?_
    refine x_get (pc := 32) X tb_W 0 0 (by decide) mw_0 (atC_0 _ _ _) rfl d_W_fill_32 ?_
    refine x_getN (pc := 35) X tb_G 1 0 (by decide) nw_23 (atC_1 _ _ _) rfl d_W_fill_35 ?_
    refine x_icmp_ge (pc := 38) (tgt := 75) X d_W_fill_38 (by decide) (fun c => ?_) (fun c => ?_)
    · have hw := hw.1 c
      refine x_iload_n (pc := 75) X d_W_fill_75 3 rfl ?_
      exact hR _ _ _ _ d_W_fill_76 (vp_nar_int _) hw
    · have hw := hw.2 c
      refine x_aload_n (pc := 41) X d_W_fill_41 0 rfl ?_
      refine x_get (pc := 42) X tb_W 0 0 (by decide) mw_0 (atC_0 _ _ _) rfl d_W_fill_42 ?_
      refine x_iload (pc := 45) X d_W_fill_45 4 rfl ?_
      refine x_iload_n (pc := 47) X d_W_fill_47 1 rfl ?_
      refine x_iload_n (pc := 48) X d_W_fill_48 2 rfl ?_
      refine x_cni (pc := 49) X [.int x4, .int x1, .int x2] (c_G_holds (zl Z) (zD Z) (zI Z) q σ x4 x1 x2 _ hw) mv_G_holds tb_G 1 (atC_1 _ _ _) nw_16 d_W_fill_49 rfl (Nat.le_of_ble_eq_true rfl) ⟨Nat.le_of_ble_eq_true rfl, Nat.le_of_ble_eq_true rfl⟩ ⟨rfl, rfl⟩ ⟨Nat.zero_le _, Nat.zero_le _⟩ ?_
      intro r3 σ3 hw
      refine x_if_ne (pc := 52) (tgt := 69) X d_W_fill_52 (by decide) (fun c => ?_) (fun c => ?_)
      · have hw := hw.1 c
        refine x_iinc (pc := 69) (d := 1) (lv' := [(0, .ref (q 0)), (1, .int x1), (2, .int x2), (3, .int x3), (4, .int (x4 + 1))]) X d_W_fill_69 4 rfl (by decide) (by decide) [1, 2, 3, 4, 0] rfl ?_
        refine x_goto (pc := 72) (tgt := 29) X d_W_fill_72 (by decide) ?_
        exact ih x1 x2 x3 (x4 + 1) σ3 hw
      · have hw := hw.2 c
        refine x_aload_n (pc := 55) X d_W_fill_55 0 rfl ?_
        refine x_get (pc := 56) X tb_W 0 0 (by decide) mw_0 (atC_0 _ _ _) rfl d_W_fill_56 ?_
        refine x_iload (pc := 59) X d_W_fill_59 4 rfl ?_
        refine x_iload_n (pc := 61) X d_W_fill_61 1 rfl ?_
        refine x_iload_n (pc := 62) X d_W_fill_62 2 rfl ?_
        refine x_cnv (pc := 63) X [.int x4, .int x1, .int x2] (c_G_flip (zl Z) (zD Z) (zI Z) q σ3 x4 x1 x2 _ hw) mv_G_flip tb_G 1 (atC_1 _ _ _) nw_17 d_W_fill_63 rfl (Nat.le_of_ble_eq_true rfl) ⟨Nat.le_of_ble_eq_true rfl, Nat.le_of_ble_eq_true rfl⟩ ⟨rfl, rfl⟩ ⟨Nat.zero_le _, Nat.zero_le _⟩ ?_
        intro σ4 hw
        refine x_iinc (pc := 66) (d := 1) (lv' := [(0, .ref (q 0)), (1, .int x1), (2, .int x2), (3, .int (x3 + 1)), (4, .int x4)]) X d_W_fill_66 3 rfl (by decide) (by decide) [1, 2, 3, 0, 4] rfl ?_
        refine x_iinc (pc := 69) (d := 1) (lv' := [(0, .ref (q 0)), (1, .int x1), (2, .int x2), (3, .int (x3 + 1)), (4, .int (x4 + 1))]) X d_W_fill_69 4 rfl (by decide) (by decide) [1, 2, 3, 4, 0] rfl ?_
        refine x_goto (pc := 72) (tgt := 29) X d_W_fill_72 (by decide) ?_
        exact ih x1 x2 (x3 + 1) (x4 + 1) σ4 hw
set_option maxHeartbeats 4000000 in
set_option maxRecDepth 100000 in
theorem c_W_fill (l : Launch) (D : va_G) (cI : ClassId) (q : Nat → Nat) (σ : St) (x1 x2 : Int32) (post : Int32 → St → Prop) (hw : wp_W_fill x1 x2 σ post) : CI l D cI (wC cI q) y_W_fill b_W_fill 5 .int rm_W_fill [.ref (q 0), .int x1, .int x2] σ post := by
  refine CI_of (by decide) (Nat.le_of_ble_eq_true rfl) ?_
  intro Z hZl hZD hZI X hR
  subst hZl; subst hZD; subst hZI
  unfold wp_W_fill at hw
  show VV Z 0 0 (wC (zI Z) q σ) [(0, .ref (q 0)), (1, .int x1), (2, .int x2)] 0 []
  refine x_aload_n (pc := 0) X d_W_fill_0 0 rfl ?_
  refine x_get (pc := 1) X tb_W 0 0 (by decide) mw_0 (atC_0 _ _ _) rfl d_W_fill_1 ?_
  refine x_iload_n (pc := 4) X d_W_fill_4 1 rfl ?_
  refine x_cni (pc := 5) X [.int x1] (c_G_hasLetter (zl Z) (zD Z) (zI Z) q σ x1 _ hw) mv_G_hasLetter tb_G 1 (atC_1 _ _ _) nw_21 d_W_fill_5 rfl (Nat.le_of_ble_eq_true rfl) ⟨Nat.le_of_ble_eq_true rfl, Nat.le_of_ble_eq_true rfl⟩ ⟨rfl, rfl⟩ ⟨Nat.zero_le _, Nat.zero_le _⟩ ?_
  intro r1 σ1 hw
  refine x_if_eq (pc := 8) (tgt := 22) X d_W_fill_8 (by decide) (fun c => ?_) (fun c => ?_)
  · have hw := hw.1 c
    refine x_iconst (pc := 22) (v := (-1)) X d_W_fill_22 (by decide) ?_
    exact hR _ _ _ _ d_W_fill_23 (vp_nar_int _) hw
  · have hw := hw.2 c
    refine x_aload_n (pc := 11) X d_W_fill_11 0 rfl ?_
    refine x_get (pc := 12) X tb_W 0 0 (by decide) mw_0 (atC_0 _ _ _) rfl d_W_fill_12 ?_
    refine x_iload_n (pc := 15) X d_W_fill_15 2 rfl ?_
    refine x_cni (pc := 16) X [.int x2] (c_G_hasNode (zl Z) (zD Z) (zI Z) q σ1 x2 _ hw) mv_G_hasNode tb_G 1 (atC_1 _ _ _) nw_22 d_W_fill_16 rfl (Nat.le_of_ble_eq_true rfl) ⟨Nat.le_of_ble_eq_true rfl, Nat.le_of_ble_eq_true rfl⟩ ⟨rfl, rfl⟩ ⟨Nat.zero_le _, Nat.zero_le _⟩ ?_
    intro r2 σ2 hw
    refine x_if_ne (pc := 19) (tgt := 24) X d_W_fill_19 (by decide) (fun c => ?_) (fun c => ?_)
    · have hw := hw.1 c
      refine x_iconst (pc := 24) (v := 0) X d_W_fill_24 (by decide) ?_
      refine x_istore_n (pc := 25) (lv' := [(0, .ref (q 0)), (1, .int x1), (2, .int x2), (3, .int 0)]) X d_W_fill_25 (by decide) [1, 2, 3, 0] rfl ?_
      refine x_iconst (pc := 26) (v := 0) X d_W_fill_26 (by decide) ?_
      refine x_istore (pc := 27) (lv' := [(0, .ref (q 0)), (1, .int x1), (2, .int x2), (3, .int 0), (4, .int 0)]) X d_W_fill_27 (by decide) [1, 2, 3, 4, 0] rfl ?_
      obtain ⟨n2, hw⟩ := hw
      exact wL_W_fill_29 X hR n2 x1 x2 0 0 σ2 hw
    · have hw := hw.2 c
      refine x_iconst (pc := 22) (v := (-1)) X d_W_fill_22 (by decide) ?_
      exact hR _ _ _ _ d_W_fill_23 (vp_nar_int _) hw
def rm_M_fill : Room := { frames := 3, cells := 0, slots := 0, locals := 68 }
set_option maxHeartbeats 4000000 in
set_option maxRecDepth 100000 in
theorem wL_M_fill_28 {Z : ZT} {q : Nat → Nat} {post : Int32 → St → Prop} (X : Cx Z "WayTableModel" b_M_fill rm_M_fill 5) (hR : RI Z b_M_fill .int (wM (zI Z) q) post) : ∀ (n : Nat) (x1 x2 x3 x4 : Int32) (σ : St), L_M_fill_28 post n x1 x2 x3 x4 σ → VV Z 0 0 (wM (zI Z) q σ) [(0, .ref (q 0)), (1, .int x1), (2, .int x2), (3, .int x3), (4, .int x4)] 28 [] := by
  intro n
  induction n with
  | zero => intro x1 x2 x3 x4 σ hw; exact False.elim hw
  | succ n ih =>
    intro x1 x2 x3 x4 σ hw
    unfold L_M_fill_28 at hw
    refine x_iload (pc := 28) X d_M_fill_28 4 rfl ?_
    refine x_aload_n (pc := 30) X d_M_fill_30 0 rfl ?_
    refine x_get (pc := 31) X tb_M 0 1 (by decide) mw_8 (atM_0 _ _ _) rfl d_M_fill_31 ?_
    refine x_icmp_ge (pc := 34) (tgt := 63) X d_M_fill_34 (by decide) (fun c => ?_) (fun c => ?_)
    · have hw := hw.1 c
      refine x_iload_n (pc := 63) X d_M_fill_63 3 rfl ?_
      exact hR _ _ _ _ d_M_fill_64 (vp_nar_int _) hw
    · have hw := hw.2 c
      refine x_iload_n (pc := 37) X d_M_fill_37 3 rfl ?_
      refine x_aload_n (pc := 38) X d_M_fill_38 0 rfl ?_
      refine x_iload (pc := 39) X d_M_fill_39 4 rfl ?_
      refine x_iload_n (pc := 41) X d_M_fill_41 1 rfl ?_
      refine x_iload_n (pc := 42) X d_M_fill_42 2 rfl ?_
      refine x_iconst (pc := 43) (v := 1) X d_M_fill_43 (by decide) ?_
      refine x_cvi (pc := 44) X [.int x4, .int x1, .int x2, .int 1] (c_M_way (zl Z) (zD Z) (zI Z) q σ x4 x1 x2 1 _ hw) mv_M_way tb_M 0 (atM_0 _ _ _) mw_24 d_M_fill_44 rfl (Nat.le_of_ble_eq_true rfl) ⟨Nat.le_of_ble_eq_true rfl, Nat.le_of_ble_eq_true rfl⟩ ⟨rfl, rfl⟩ ⟨Nat.zero_le _, Nat.zero_le _⟩ ?_
      intro r3 σ3 hw
      refine x_if_eq (pc := 47) (tgt := 54) X d_M_fill_47 (by decide) (fun c => ?_) (fun c => ?_)
      · have hw := hw.1 c
        refine x_iconst (pc := 54) (v := 0) X d_M_fill_54 (by decide) ?_
        refine x_iadd (pc := 55) X d_M_fill_55 ?_
        refine x_istore_n (pc := 56) (lv' := [(0, .ref (q 0)), (1, .int x1), (2, .int x2), (3, .int (x3 + 0)), (4, .int x4)]) X d_M_fill_56 (by decide) [1, 2, 3, 0, 4] rfl ?_
        refine x_iinc (pc := 57) (d := 1) (lv' := [(0, .ref (q 0)), (1, .int x1), (2, .int x2), (3, .int (x3 + 0)), (4, .int (x4 + 1))]) X d_M_fill_57 4 rfl (by decide) (by decide) [1, 2, 3, 4, 0] rfl ?_
        refine x_goto (pc := 60) (tgt := 28) X d_M_fill_60 (by decide) ?_
        exact ih x1 x2 (x3 + 0) (x4 + 1) σ3 hw
      · have hw := hw.2 c
        refine x_iconst (pc := 50) (v := 1) X d_M_fill_50 (by decide) ?_
        refine x_goto (pc := 51) (tgt := 55) X d_M_fill_51 (by decide) ?_
        refine x_iadd (pc := 55) X d_M_fill_55 ?_
        refine x_istore_n (pc := 56) (lv' := [(0, .ref (q 0)), (1, .int x1), (2, .int x2), (3, .int (x3 + 1)), (4, .int x4)]) X d_M_fill_56 (by decide) [1, 2, 3, 0, 4] rfl ?_
        refine x_iinc (pc := 57) (d := 1) (lv' := [(0, .ref (q 0)), (1, .int x1), (2, .int x2), (3, .int (x3 + 1)), (4, .int (x4 + 1))]) X d_M_fill_57 4 rfl (by decide) (by decide) [1, 2, 3, 4, 0] rfl ?_
        refine x_goto (pc := 60) (tgt := 28) X d_M_fill_60 (by decide) ?_
        exact ih x1 x2 (x3 + 1) (x4 + 1) σ3 hw
set_option maxHeartbeats 4000000 in
set_option maxRecDepth 100000 in
theorem c_M_fill (l : Launch) (D : va_G) (cI : ClassId) (q : Nat → Nat) (σ : St) (x1 x2 : Int32) (post : Int32 → St → Prop) (hw : wp_M_fill x1 x2 σ post) : CI l D cI (wM cI q) y_M_fill b_M_fill 5 .int rm_M_fill [.ref (q 0), .int x1, .int x2] σ post := by
  refine CI_of (by decide) (Nat.le_of_ble_eq_true rfl) ?_
  intro Z hZl hZD hZI X hR
  subst hZl; subst hZD; subst hZI
  unfold wp_M_fill at hw
  show VV Z 0 0 (wM (zI Z) q σ) [(0, .ref (q 0)), (1, .int x1), (2, .int x2)] 0 []
  refine x_aload_n (pc := 0) X d_M_fill_0 0 rfl ?_
  refine x_iconst (pc := 1) (v := 0) X d_M_fill_1 (by decide) ?_
  refine x_put (pc := 2) (ws' := (wM (zI Z) q (us σ 0 0))) X tb_M 0 0 (by decide) mw_7 (atM_0 _ _ _) rfl pI (Nat.le_of_ble_eq_true rfl) (ptM_0 _ _ _ _) d_M_fill_2 ?_
  refine x_aload_n (pc := 5) X d_M_fill_5 0 rfl ?_
  refine x_iload_n (pc := 6) X d_M_fill_6 1 rfl ?_
  refine x_cvi (pc := 7) X [.int x1] (c_M_isLetter (zl Z) (zD Z) (zI Z) q (us σ 0 0) x1 _ hw) mv_M_isLetter tb_M 0 (atM_0 _ _ _) mw_19 d_M_fill_7 rfl (Nat.le_of_ble_eq_true rfl) ⟨Nat.le_of_ble_eq_true rfl, Nat.le_of_ble_eq_true rfl⟩ ⟨rfl, rfl⟩ ⟨Nat.zero_le _, Nat.zero_le _⟩ ?_
  intro r1 σ1 hw
  refine x_if_eq (pc := 10) (tgt := 21) X d_M_fill_10 (by decide) (fun c => ?_) (fun c => ?_)
  · have hw := hw.1 c
    refine x_iconst (pc := 21) (v := (-1)) X d_M_fill_21 (by decide) ?_
    exact hR _ _ _ _ d_M_fill_22 (vp_nar_int _) hw
  · have hw := hw.2 c
    refine x_aload_n (pc := 13) X d_M_fill_13 0 rfl ?_
    refine x_iload_n (pc := 14) X d_M_fill_14 2 rfl ?_
    refine x_cvi (pc := 15) X [.int x2] (c_M_isNode (zl Z) (zD Z) (zI Z) q σ1 x2 _ hw) mv_M_isNode tb_M 0 (atM_0 _ _ _) mw_18 d_M_fill_15 rfl (Nat.le_of_ble_eq_true rfl) ⟨Nat.le_of_ble_eq_true rfl, Nat.le_of_ble_eq_true rfl⟩ ⟨rfl, rfl⟩ ⟨Nat.zero_le _, Nat.zero_le _⟩ ?_
    intro r2 σ2 hw
    refine x_if_ne (pc := 18) (tgt := 23) X d_M_fill_18 (by decide) (fun c => ?_) (fun c => ?_)
    · have hw := hw.1 c
      refine x_iconst (pc := 23) (v := 0) X d_M_fill_23 (by decide) ?_
      refine x_istore_n (pc := 24) (lv' := [(0, .ref (q 0)), (1, .int x1), (2, .int x2), (3, .int 0)]) X d_M_fill_24 (by decide) [1, 2, 3, 0] rfl ?_
      refine x_iconst (pc := 25) (v := 0) X d_M_fill_25 (by decide) ?_
      refine x_istore (pc := 26) (lv' := [(0, .ref (q 0)), (1, .int x1), (2, .int x2), (3, .int 0), (4, .int 0)]) X d_M_fill_26 (by decide) [1, 2, 3, 4, 0] rfl ?_
      obtain ⟨n2, hw⟩ := hw
      exact wL_M_fill_28 X hR n2 x1 x2 0 0 σ2 hw
    · have hw := hw.2 c
      refine x_iconst (pc := 21) (v := (-1)) X d_M_fill_21 (by decide) ?_
      exact hR _ _ _ _ d_M_fill_22 (vp_nar_int _) hw
def rm_G_transpose : Room := { frames := 2, cells := 0, slots := 0, locals := 44 }
set_option maxHeartbeats 4000000 in
set_option maxRecDepth 100000 in
theorem wL_G_transpose_12 {Z : ZT} {q : Nat → Nat} {post : St → Prop} {K : Int32 → Int32 → St → Prop} (X : Cx Z "WayTable$Graph" b_G_transpose rm_G_transpose 4) (hR : RV Z b_G_transpose (wC (zI Z) q) post) (hK : ∀ (x1 x2 : Int32) (σ : St), K x1 x2 σ → VV Z 0 0 (wC (zI Z) q σ) [(0, .ref (q 1)), (1, .int x1), (2, .int x2)] 2 []) : ∀ (n : Nat) (x1 x2 x3 : Int32) (σ : St), L_G_transpose_12 post K n x1 x2 x3 σ → VV Z 0 0 (wC (zI Z) q σ) [(0, .ref (q 1)), (1, .int x1), (2, .int x2), (3, .int x3)] 12 [] := by
  intro n
  induction n with
  | zero => intro x1 x2 x3 σ hw; exact False.elim hw
  | succ n ih =>
    intro x1 x2 x3 σ hw
    unfold L_G_transpose_12 at hw
    refine x_iload_n (pc := 12) X d_G_transpose_12 3 rfl ?_
    refine x_iload_n (pc := 13) X d_G_transpose_13 2 rfl ?_
    refine x_icmp_ge (pc := 14) (tgt := 54) X d_G_transpose_14 (by decide) (fun c => ?_) (fun c => ?_)
    · have hw := hw.1 c
      refine x_iinc (pc := 54) (d := 1) (lv' := [(0, .ref (q 1)), (1, .int x1), (2, .int (x2 + 1)), (3, .int x3)]) X d_G_transpose_54 2 rfl (by decide) (by decide) [1, 2, 0, 3] rfl ?_
      refine x_goto (pc := 57) (tgt := 2) X d_G_transpose_57 (by decide) ?_
      refine x_drop [0, 1, 2] rfl ?_
      exact hK x1 (x2 + 1) σ hw
    · have hw := hw.2 c
      refine x_aload_n (pc := 17) X d_G_transpose_17 0 rfl ?_
      refine x_iload_n (pc := 18) X d_G_transpose_18 2 rfl ?_
      refine x_iload_n (pc := 19) X d_G_transpose_19 1 rfl ?_
      refine x_iload_n (pc := 20) X d_G_transpose_20 3 rfl ?_
      refine x_cvi (pc := 21) X [.int x2, .int x1, .int x3] (c_G_holds (zl Z) (zD Z) (zI Z) q σ x2 x1 x3 _ hw) mv_G_holds tb_G 1 (atC_1 _ _ _) mw_26 d_G_transpose_21 rfl (Nat.le_of_ble_eq_true rfl) ⟨Nat.le_of_ble_eq_true rfl, Nat.le_of_ble_eq_true rfl⟩ ⟨rfl, rfl⟩ ⟨Nat.zero_le _, Nat.zero_le _⟩ ?_
      intro r1 σ1 hw
      refine x_aload_n (pc := 24) X d_G_transpose_24 0 rfl ?_
      refine x_iload_n (pc := 25) X d_G_transpose_25 3 rfl ?_
      refine x_iload_n (pc := 26) X d_G_transpose_26 1 rfl ?_
      refine x_iload_n (pc := 27) X d_G_transpose_27 2 rfl ?_
      refine x_cvi (pc := 28) X [.int x3, .int x1, .int x2] (c_G_holds (zl Z) (zD Z) (zI Z) q σ1 x3 x1 x2 _ hw) mv_G_holds tb_G 1 (atC_1 _ _ _) mw_26 d_G_transpose_28 rfl (Nat.le_of_ble_eq_true rfl) ⟨Nat.le_of_ble_eq_true rfl, Nat.le_of_ble_eq_true rfl⟩ ⟨rfl, rfl⟩ ⟨Nat.zero_le _, Nat.zero_le _⟩ ?_
      intro r2 σ2 hw
      refine x_icmp_eq (pc := 31) (tgt := 48) X d_G_transpose_31 (by decide) (fun c => ?_) (fun c => ?_)
      · have hw := hw.1 c
        refine x_iinc (pc := 48) (d := 1) (lv' := [(0, .ref (q 1)), (1, .int x1), (2, .int x2), (3, .int (x3 + 1))]) X d_G_transpose_48 3 rfl (by decide) (by decide) [1, 2, 3, 0] rfl ?_
        refine x_goto (pc := 51) (tgt := 12) X d_G_transpose_51 (by decide) ?_
        exact ih x1 x2 (x3 + 1) σ2 hw
      · have hw := hw.2 c
        refine x_aload_n (pc := 34) X d_G_transpose_34 0 rfl ?_
        refine x_iload_n (pc := 35) X d_G_transpose_35 2 rfl ?_
        refine x_iload_n (pc := 36) X d_G_transpose_36 1 rfl ?_
        refine x_iload_n (pc := 37) X d_G_transpose_37 3 rfl ?_
        refine x_cvv (pc := 38) X [.int x2, .int x1, .int x3] (c_G_flip (zl Z) (zD Z) (zI Z) q σ2 x2 x1 x3 _ hw) mv_G_flip tb_G 1 (atC_1 _ _ _) mw_27 d_G_transpose_38 rfl (Nat.le_of_ble_eq_true rfl) ⟨Nat.le_of_ble_eq_true rfl, Nat.le_of_ble_eq_true rfl⟩ ⟨rfl, rfl⟩ ⟨Nat.zero_le _, Nat.zero_le _⟩ ?_
        intro σ3 hw
        refine x_aload_n (pc := 41) X d_G_transpose_41 0 rfl ?_
        refine x_iload_n (pc := 42) X d_G_transpose_42 3 rfl ?_
        refine x_iload_n (pc := 43) X d_G_transpose_43 1 rfl ?_
        refine x_iload_n (pc := 44) X d_G_transpose_44 2 rfl ?_
        refine x_cvv (pc := 45) X [.int x3, .int x1, .int x2] (c_G_flip (zl Z) (zD Z) (zI Z) q σ3 x3 x1 x2 _ hw) mv_G_flip tb_G 1 (atC_1 _ _ _) mw_27 d_G_transpose_45 rfl (Nat.le_of_ble_eq_true rfl) ⟨Nat.le_of_ble_eq_true rfl, Nat.le_of_ble_eq_true rfl⟩ ⟨rfl, rfl⟩ ⟨Nat.zero_le _, Nat.zero_le _⟩ ?_
        intro σ4 hw
        refine x_iinc (pc := 48) (d := 1) (lv' := [(0, .ref (q 1)), (1, .int x1), (2, .int x2), (3, .int (x3 + 1))]) X d_G_transpose_48 3 rfl (by decide) (by decide) [1, 2, 3, 0] rfl ?_
        refine x_goto (pc := 51) (tgt := 12) X d_G_transpose_51 (by decide) ?_
        exact ih x1 x2 (x3 + 1) σ4 hw
set_option maxHeartbeats 4000000 in
set_option maxRecDepth 100000 in
theorem wL_G_transpose_2 {Z : ZT} {q : Nat → Nat} {post : St → Prop} (X : Cx Z "WayTable$Graph" b_G_transpose rm_G_transpose 4) (hR : RV Z b_G_transpose (wC (zI Z) q) post) : ∀ (n : Nat) (x1 x2 : Int32) (σ : St), L_G_transpose_2 post n x1 x2 σ → VV Z 0 0 (wC (zI Z) q σ) [(0, .ref (q 1)), (1, .int x1), (2, .int x2)] 2 [] := by
  intro n
  induction n with
  | zero => intro x1 x2 σ hw; exact False.elim hw
  | succ n ih =>
    intro x1 x2 σ hw
    unfold L_G_transpose_2 at hw
    refine x_iload_n (pc := 2) X d_G_transpose_2 2 rfl ?_
    refine x_aload_n (pc := 3) X d_G_transpose_3 0 rfl ?_
    refine x_get (pc := 4) X tb_G 1 0 (by decide) mw_1 (atC_1 _ _ _) rfl d_G_transpose_4 ?_
    refine x_icmp_ge (pc := 7) (tgt := 60) X d_G_transpose_7 (by decide) (fun c => ?_) (fun c => ?_)
    · have hw := hw.1 c
      exact hR _ _ _ d_G_transpose_60 hw
    · have hw := hw.2 c
      refine x_iconst (pc := 10) (v := 0) X d_G_transpose_10 (by decide) ?_
      refine x_istore_n (pc := 11) (lv' := [(0, .ref (q 1)), (1, .int x1), (2, .int x2), (3, .int 0)]) X d_G_transpose_11 (by decide) [1, 2, 3, 0] rfl ?_
      obtain ⟨n2, hw⟩ := hw
      exact wL_G_transpose_12 X hR ih n2 x1 x2 0 σ hw
set_option maxHeartbeats 4000000 in
set_option maxRecDepth 100000 in
theorem c_G_transpose (l : Launch) (D : va_G) (cI : ClassId) (q : Nat → Nat) (σ : St) (x1 : Int32) (post : St → Prop) (hw : wp_G_transpose x1 σ post) : CV l D cI (wC cI q) y_G_transpose b_G_transpose 4 rm_G_transpose [.ref (q 1), .int x1] σ post := by
  refine CV_of (by decide) (Nat.le_of_ble_eq_true rfl) ?_
  intro Z hZl hZD hZI X hR
  subst hZl; subst hZD; subst hZI
  unfold wp_G_transpose at hw
  show VV Z 0 0 (wC (zI Z) q σ) [(0, .ref (q 1)), (1, .int x1)] 0 []
  refine x_iconst (pc := 0) (v := 1) X d_G_transpose_0 (by decide) ?_
  refine x_istore_n (pc := 1) (lv' := [(0, .ref (q 1)), (1, .int x1), (2, .int 1)]) X d_G_transpose_1 (by decide) [1, 2, 0] rfl ?_
  obtain ⟨n2, hw⟩ := hw
  exact wL_G_transpose_2 X hR n2 x1 1 σ hw
def rm_W_turn : Room := { frames := 3, cells := 0, slots := 0, locals := 67 }
set_option maxHeartbeats 4000000 in
set_option maxRecDepth 100000 in
theorem wL_W_turn_2 {Z : ZT} {q : Nat → Nat} {post : St → Prop} (X : Cx Z "WayTable" b_W_turn rm_W_turn 2) (hR : RV Z b_W_turn (wC (zI Z) q) post) : ∀ (n : Nat) (x1 : Int32) (σ : St), L_W_turn_2 post n x1 σ → VV Z 0 0 (wC (zI Z) q σ) [(0, .ref (q 0)), (1, .int x1)] 2 [] := by
  intro n
  induction n with
  | zero => intro x1 σ hw; exact False.elim hw
  | succ n ih =>
    intro x1 σ hw
    unfold L_W_turn_2 at hw
    refine x_iload_n (pc := 2) X d_W_turn_2 1 rfl ?_
    refine x_aload_n (pc := 3) X d_W_turn_3 0 rfl ?_
    refine x_get (pc := 4) X tb_W 0 0 (by decide) mw_0 (atC_0 _ _ _) rfl d_W_turn_4 ?_
    refine x_getN (pc := 7) X tb_G 1 1 (by decide) nw_25 (atC_1 _ _ _) rfl d_W_turn_7 ?_
    refine x_icmp_ge (pc := 10) (tgt := 27) X d_W_turn_10 (by decide) (fun c => ?_) (fun c => ?_)
    · have hw := hw.1 c
      exact hR _ _ _ d_W_turn_27 hw
    · have hw := hw.2 c
      refine x_aload_n (pc := 13) X d_W_turn_13 0 rfl ?_
      refine x_get (pc := 14) X tb_W 0 0 (by decide) mw_0 (atC_0 _ _ _) rfl d_W_turn_14 ?_
      refine x_iload_n (pc := 17) X d_W_turn_17 1 rfl ?_
      refine x_cnv (pc := 18) X [.int x1] (c_G_transpose (zl Z) (zD Z) (zI Z) q σ x1 _ hw) mv_G_transpose tb_G 1 (atC_1 _ _ _) nw_28 d_W_turn_18 rfl (Nat.le_of_ble_eq_true rfl) ⟨Nat.le_of_ble_eq_true rfl, Nat.le_of_ble_eq_true rfl⟩ ⟨rfl, rfl⟩ ⟨Nat.zero_le _, Nat.zero_le _⟩ ?_
      intro σ1 hw
      refine x_iinc (pc := 21) (d := 1) (lv' := [(0, .ref (q 0)), (1, .int (x1 + 1))]) X d_W_turn_21 1 rfl (by decide) (by decide) [1, 0] rfl ?_
      refine x_goto (pc := 24) (tgt := 2) X d_W_turn_24 (by decide) ?_
      exact ih (x1 + 1) σ1 hw
set_option maxHeartbeats 4000000 in
set_option maxRecDepth 100000 in
theorem c_W_turn (l : Launch) (D : va_G) (cI : ClassId) (q : Nat → Nat) (σ : St) (post : St → Prop) (hw : wp_W_turn σ post) : CV l D cI (wC cI q) y_W_turn b_W_turn 2 rm_W_turn [.ref (q 0)] σ post := by
  refine CV_of (by decide) (Nat.le_of_ble_eq_true rfl) ?_
  intro Z hZl hZD hZI X hR
  subst hZl; subst hZD; subst hZI
  unfold wp_W_turn at hw
  show VV Z 0 0 (wC (zI Z) q σ) [(0, .ref (q 0))] 0 []
  refine x_iconst (pc := 0) (v := 0) X d_W_turn_0 (by decide) ?_
  refine x_istore_n (pc := 1) (lv' := [(0, .ref (q 0)), (1, .int 0)]) X d_W_turn_1 (by decide) [1, 0] rfl ?_
  obtain ⟨n2, hw⟩ := hw
  exact wL_W_turn_2 X hR n2 0 σ hw
def rm_M_turn : Room := { frames := 0, cells := 0, slots := 0, locals := 0 }
set_option maxHeartbeats 4000000 in
set_option maxRecDepth 100000 in
theorem wL_M_turn_27 {Z : ZT} {q : Nat → Nat} {post : St → Prop} {K : Int32 → Int32 → St → Prop} (X : Cx Z "WayTableModel" b_M_turn rm_M_turn 6) (hR : RV Z b_M_turn (wM (zI Z) q) post) (hK : ∀ (x1 x2 : Int32) (σ : St), K x1 x2 σ → VV Z 0 0 (wM (zI Z) q σ) [(0, .ref (q 0)), (1, .int x1), (2, .int x2)] 17 []) : ∀ (n : Nat) (x1 x2 x3 : Int32) (σ : St), L_M_turn_27 post K n x1 x2 x3 σ → VV Z 0 0 (wM (zI Z) q σ) [(0, .ref (q 0)), (1, .int x1), (2, .int x2), (3, .int x3)] 27 [] := by
  intro n
  induction n with
  | zero => intro x1 x2 x3 σ hw; exact False.elim hw
  | succ n ih =>
    intro x1 x2 x3 σ hw
    unfold L_M_turn_27 at hw
    refine x_iload_n (pc := 27) X d_M_turn_27 3 rfl ?_
    refine x_iload_n (pc := 28) X d_M_turn_28 2 rfl ?_
    refine x_icmp_ge (pc := 29) (tgt := 113) X d_M_turn_29 (by decide) (fun c => ?_) (fun c => ?_)
    · have hw := hw.1 c
      refine x_iinc (pc := 113) (d := 1) (lv' := [(0, .ref (q 0)), (1, .int x1), (2, .int (x2 + 1)), (3, .int x3)]) X d_M_turn_113 2 rfl (by decide) (by decide) [1, 2, 0, 3] rfl ?_
      refine x_goto (pc := 116) (tgt := 17) X d_M_turn_116 (by decide) ?_
      refine x_drop [0, 1, 2] rfl ?_
      exact hK x1 (x2 + 1) σ hw
    · have hw := hw.2 c
      refine x_aload_n (pc := 32) X d_M_turn_32 0 rfl ?_
      refine x_get (pc := 33) X tb_M 0 4 (by decide) mw_11 (atM_0 _ _ _) rfl d_M_turn_33 ?_
      refine x_bipush (pc := 36) (v := (nI 24)) X d_M_turn_36 (by decide) ?_
      refine x_iload_n (pc := 38) X d_M_turn_38 1 rfl ?_
      refine x_imul (pc := 39) X d_M_turn_39 ?_
      refine x_iload_n (pc := 40) X d_M_turn_40 2 rfl ?_
      refine x_iadd (pc := 41) X d_M_turn_41 ?_
      obtain ⟨h1, hw⟩ := hw
      refine x_iald (pc := 42) X 1 (atM_1 _ _ _) h1 d_M_turn_42 ?_
      refine x_iload_n (pc := 43) X d_M_turn_43 3 rfl ?_
      refine x_ishr (pc := 44) X d_M_turn_44 ?_
      refine x_iconst (pc := 45) (v := 1) X d_M_turn_45 (by decide) ?_
      refine x_iand (pc := 46) X d_M_turn_46 ?_
      refine x_istore (pc := 47) (lv' := [(0, .ref (q 0)), (1, .int x1), (2, .int x2), (3, .int x3), (4, .int (((σ.2 0 (((nI 24) * x1) + x2).toNatClampNeg) >>> (x3 &&& 31)) &&& 1))]) X d_M_turn_47 (by decide) [1, 2, 3, 4, 0] rfl ?_
      refine x_aload_n (pc := 49) X d_M_turn_49 0 rfl ?_
      refine x_get (pc := 50) X tb_M 0 4 (by decide) mw_11 (atM_0 _ _ _) rfl d_M_turn_50 ?_
      refine x_bipush (pc := 53) (v := (nI 24)) X d_M_turn_53 (by decide) ?_
      refine x_iload_n (pc := 55) X d_M_turn_55 1 rfl ?_
      refine x_imul (pc := 56) X d_M_turn_56 ?_
      refine x_iload_n (pc := 57) X d_M_turn_57 3 rfl ?_
      refine x_iadd (pc := 58) X d_M_turn_58 ?_
      obtain ⟨h2, hw⟩ := hw
      refine x_iald (pc := 59) X 1 (atM_1 _ _ _) h2 d_M_turn_59 ?_
      refine x_iload_n (pc := 60) X d_M_turn_60 2 rfl ?_
      refine x_ishr (pc := 61) X d_M_turn_61 ?_
      refine x_iconst (pc := 62) (v := 1) X d_M_turn_62 (by decide) ?_
      refine x_iand (pc := 63) X d_M_turn_63 ?_
      refine x_istore (pc := 64) (lv' := [(0, .ref (q 0)), (1, .int x1), (2, .int x2), (3, .int x3), (4, .int (((σ.2 0 (((nI 24) * x1) + x2).toNatClampNeg) >>> (x3 &&& 31)) &&& 1)), (5, .int (((σ.2 0 (((nI 24) * x1) + x3).toNatClampNeg) >>> (x2 &&& 31)) &&& 1))]) X d_M_turn_64 (by decide) [1, 2, 3, 4, 5, 0] rfl ?_
      refine x_iload (pc := 66) X d_M_turn_66 4 rfl ?_
      refine x_iload (pc := 68) X d_M_turn_68 5 rfl ?_
      refine x_icmp_eq (pc := 70) (tgt := 107) X d_M_turn_70 (by decide) (fun c => ?_) (fun c => ?_)
      · have hw := hw.1 c
        refine x_iinc (pc := 107) (d := 1) (lv' := [(0, .ref (q 0)), (1, .int x1), (2, .int x2), (3, .int (x3 + 1)), (4, .int (((σ.2 0 (((nI 24) * x1) + x2).toNatClampNeg) >>> (x3 &&& 31)) &&& 1)), (5, .int (((σ.2 0 (((nI 24) * x1) + x3).toNatClampNeg) >>> (x2 &&& 31)) &&& 1))]) X d_M_turn_107 3 rfl (by decide) (by decide) [1, 2, 3, 0, 4, 5] rfl ?_
        refine x_goto (pc := 110) (tgt := 27) X d_M_turn_110 (by decide) ?_
        refine x_drop [0, 1, 2, 3] rfl ?_
        exact ih x1 x2 (x3 + 1) σ hw
      · have hw := hw.2 c
        refine x_aload_n (pc := 73) X d_M_turn_73 0 rfl ?_
        refine x_get (pc := 74) X tb_M 0 4 (by decide) mw_11 (atM_0 _ _ _) rfl d_M_turn_74 ?_
        refine x_bipush (pc := 77) (v := (nI 24)) X d_M_turn_77 (by decide) ?_
        refine x_iload_n (pc := 79) X d_M_turn_79 1 rfl ?_
        refine x_imul (pc := 80) X d_M_turn_80 ?_
        refine x_iload_n (pc := 81) X d_M_turn_81 2 rfl ?_
        refine x_iadd (pc := 82) X d_M_turn_82 ?_
        refine x_dup2 (pc := 83) X d_M_turn_83 rfl rfl ?_
        obtain ⟨h3, hw⟩ := hw
        refine x_iald (pc := 84) X 1 (atM_1 _ _ _) h3 d_M_turn_84 ?_
        refine x_iconst (pc := 85) (v := 1) X d_M_turn_85 (by decide) ?_
        refine x_iload_n (pc := 86) X d_M_turn_86 3 rfl ?_
        refine x_ishl (pc := 87) X d_M_turn_87 ?_
        refine x_ixor (pc := 88) X d_M_turn_88 ?_
        obtain ⟨h4, hw⟩ := hw
        refine x_iast (pc := 89) (ws' := (wM (zI Z) q (ua σ 0 (((nI 24) * x1) + x2).toNatClampNeg ((σ.2 0 (((nI 24) * x1) + x2).toNatClampNeg) ^^^ (1 <<< (x3 &&& 31)))))) X 1 (atM_1 _ _ _) h4 (stM_1 _ _ _ _) d_M_turn_89 ?_
        refine x_aload_n (pc := 90) X d_M_turn_90 0 rfl ?_
        refine x_get (pc := 91) X tb_M 0 4 (by decide) mw_11 (atM_0 _ _ _) rfl d_M_turn_91 ?_
        refine x_bipush (pc := 94) (v := (nI 24)) X d_M_turn_94 (by decide) ?_
        refine x_iload_n (pc := 96) X d_M_turn_96 1 rfl ?_
        refine x_imul (pc := 97) X d_M_turn_97 ?_
        refine x_iload_n (pc := 98) X d_M_turn_98 3 rfl ?_
        refine x_iadd (pc := 99) X d_M_turn_99 ?_
        refine x_dup2 (pc := 100) X d_M_turn_100 rfl rfl ?_
        obtain ⟨h5, hw⟩ := hw
        refine x_iald (pc := 101) X 1 (atM_1 _ _ _) h5 d_M_turn_101 ?_
        refine x_iconst (pc := 102) (v := 1) X d_M_turn_102 (by decide) ?_
        refine x_iload_n (pc := 103) X d_M_turn_103 2 rfl ?_
        refine x_ishl (pc := 104) X d_M_turn_104 ?_
        refine x_ixor (pc := 105) X d_M_turn_105 ?_
        obtain ⟨h6, hw⟩ := hw
        refine x_iast (pc := 106) (ws' := (wM (zI Z) q (ua (ua σ 0 (((nI 24) * x1) + x2).toNatClampNeg ((σ.2 0 (((nI 24) * x1) + x2).toNatClampNeg) ^^^ (1 <<< (x3 &&& 31)))) 0 (((nI 24) * x1) + x3).toNatClampNeg (((ua σ 0 (((nI 24) * x1) + x2).toNatClampNeg ((σ.2 0 (((nI 24) * x1) + x2).toNatClampNeg) ^^^ (1 <<< (x3 &&& 31)))).2 0 (((nI 24) * x1) + x3).toNatClampNeg) ^^^ (1 <<< (x2 &&& 31)))))) X 1 (atM_1 _ _ _) h6 (stM_1 _ _ _ _) d_M_turn_106 ?_
        refine x_iinc (pc := 107) (d := 1) (lv' := [(0, .ref (q 0)), (1, .int x1), (2, .int x2), (3, .int (x3 + 1)), (4, .int (((σ.2 0 (((nI 24) * x1) + x2).toNatClampNeg) >>> (x3 &&& 31)) &&& 1)), (5, .int (((σ.2 0 (((nI 24) * x1) + x3).toNatClampNeg) >>> (x2 &&& 31)) &&& 1))]) X d_M_turn_107 3 rfl (by decide) (by decide) [1, 2, 3, 0, 4, 5] rfl ?_
        refine x_goto (pc := 110) (tgt := 27) X d_M_turn_110 (by decide) ?_
        refine x_drop [0, 1, 2, 3] rfl ?_
        exact ih x1 x2 (x3 + 1) (ua (ua σ 0 (((nI 24) * x1) + x2).toNatClampNeg ((σ.2 0 (((nI 24) * x1) + x2).toNatClampNeg) ^^^ (1 <<< (x3 &&& 31)))) 0 (((nI 24) * x1) + x3).toNatClampNeg (((ua σ 0 (((nI 24) * x1) + x2).toNatClampNeg ((σ.2 0 (((nI 24) * x1) + x2).toNatClampNeg) ^^^ (1 <<< (x3 &&& 31)))).2 0 (((nI 24) * x1) + x3).toNatClampNeg) ^^^ (1 <<< (x2 &&& 31)))) hw
set_option maxHeartbeats 4000000 in
set_option maxRecDepth 100000 in
theorem wL_M_turn_17 {Z : ZT} {q : Nat → Nat} {post : St → Prop} {K : Int32 → St → Prop} (X : Cx Z "WayTableModel" b_M_turn rm_M_turn 6) (hR : RV Z b_M_turn (wM (zI Z) q) post) (hK : ∀ (x1 : Int32) (σ : St), K x1 σ → VV Z 0 0 (wM (zI Z) q σ) [(0, .ref (q 0)), (1, .int x1)] 7 []) : ∀ (n : Nat) (x1 x2 : Int32) (σ : St), L_M_turn_17 post K n x1 x2 σ → VV Z 0 0 (wM (zI Z) q σ) [(0, .ref (q 0)), (1, .int x1), (2, .int x2)] 17 [] := by
  intro n
  induction n with
  | zero => intro x1 x2 σ hw; exact False.elim hw
  | succ n ih =>
    intro x1 x2 σ hw
    unfold L_M_turn_17 at hw
    refine x_iload_n (pc := 17) X d_M_turn_17 2 rfl ?_
    refine x_aload_n (pc := 18) X d_M_turn_18 0 rfl ?_
    refine x_get (pc := 19) X tb_M 0 1 (by decide) mw_8 (atM_0 _ _ _) rfl d_M_turn_19 ?_
    refine x_icmp_ge (pc := 22) (tgt := 119) X d_M_turn_22 (by decide) (fun c => ?_) (fun c => ?_)
    · have hw := hw.1 c
      refine x_iinc (pc := 119) (d := 1) (lv' := [(0, .ref (q 0)), (1, .int (x1 + 1)), (2, .int x2)]) X d_M_turn_119 1 rfl (by decide) (by decide) [1, 0, 2] rfl ?_
      refine x_goto (pc := 122) (tgt := 7) X d_M_turn_122 (by decide) ?_
      refine x_drop [0, 1] rfl ?_
      exact hK (x1 + 1) σ hw
    · have hw := hw.2 c
      refine x_iconst (pc := 25) (v := 0) X d_M_turn_25 (by decide) ?_
      refine x_istore_n (pc := 26) (lv' := [(0, .ref (q 0)), (1, .int x1), (2, .int x2), (3, .int 0)]) X d_M_turn_26 (by decide) [1, 2, 3, 0] rfl ?_
      obtain ⟨n2, hw⟩ := hw
      exact wL_M_turn_27 X hR ih n2 x1 x2 0 σ hw
set_option maxHeartbeats 4000000 in
set_option maxRecDepth 100000 in
theorem wL_M_turn_7 {Z : ZT} {q : Nat → Nat} {post : St → Prop} (X : Cx Z "WayTableModel" b_M_turn rm_M_turn 6) (hR : RV Z b_M_turn (wM (zI Z) q) post) : ∀ (n : Nat) (x1 : Int32) (σ : St), L_M_turn_7 post n x1 σ → VV Z 0 0 (wM (zI Z) q σ) [(0, .ref (q 0)), (1, .int x1)] 7 [] := by
  intro n
  induction n with
  | zero => intro x1 σ hw; exact False.elim hw
  | succ n ih =>
    intro x1 σ hw
    unfold L_M_turn_7 at hw
    refine x_iload_n (pc := 7) X d_M_turn_7 1 rfl ?_
    refine x_aload_n (pc := 8) X d_M_turn_8 0 rfl ?_
    refine x_get (pc := 9) X tb_M 0 2 (by decide) mw_9 (atM_0 _ _ _) rfl d_M_turn_9 ?_
    refine x_icmp_ge (pc := 12) (tgt := 125) X d_M_turn_12 (by decide) (fun c => ?_) (fun c => ?_)
    · have hw := hw.1 c
      exact hR _ _ _ d_M_turn_125 hw
    · have hw := hw.2 c
      refine x_iconst (pc := 15) (v := 0) X d_M_turn_15 (by decide) ?_
      refine x_istore_n (pc := 16) (lv' := [(0, .ref (q 0)), (1, .int x1), (2, .int 0)]) X d_M_turn_16 (by decide) [1, 2, 0] rfl ?_
      obtain ⟨n2, hw⟩ := hw
      exact wL_M_turn_17 X hR ih n2 x1 0 σ hw
set_option maxHeartbeats 4000000 in
set_option maxRecDepth 100000 in
theorem c_M_turn (l : Launch) (D : va_G) (cI : ClassId) (q : Nat → Nat) (σ : St) (post : St → Prop) (hw : wp_M_turn σ post) : CV l D cI (wM cI q) y_M_turn b_M_turn 6 rm_M_turn [.ref (q 0)] σ post := by
  refine CV_of (by decide) (Nat.le_of_ble_eq_true rfl) ?_
  intro Z hZl hZD hZI X hR
  subst hZl; subst hZD; subst hZI
  unfold wp_M_turn at hw
  show VV Z 0 0 (wM (zI Z) q σ) [(0, .ref (q 0))] 0 []
  refine x_aload_n (pc := 0) X d_M_turn_0 0 rfl ?_
  refine x_iconst (pc := 1) (v := 0) X d_M_turn_1 (by decide) ?_
  refine x_put (pc := 2) (ws' := (wM (zI Z) q (us σ 0 0))) X tb_M 0 0 (by decide) mw_7 (atM_0 _ _ _) rfl pI (Nat.le_of_ble_eq_true rfl) (ptM_0 _ _ _ _) d_M_turn_2 ?_
  refine x_iconst (pc := 5) (v := 0) X d_M_turn_5 (by decide) ?_
  refine x_istore_n (pc := 6) (lv' := [(0, .ref (q 0)), (1, .int 0)]) X d_M_turn_6 (by decide) [1, 0] rfl ?_
  obtain ⟨n2, hw⟩ := hw
  exact wL_M_turn_7 X hR n2 0 (us σ 0 0) hw
def rm_W_start : Room := { frames := 1, cells := 0, slots := 0, locals := 21 }
set_option maxHeartbeats 4000000 in
set_option maxRecDepth 100000 in
theorem c_W_start (l : Launch) (D : va_G) (cI : ClassId) (q : Nat → Nat) (σ : St) (x1 : Int32) (post : Int32 → St → Prop) (hw : wp_W_start x1 σ post) : CI l D cI (wC cI q) y_W_start b_W_start 2 .boolean rm_W_start [.ref (q 0), .int x1] σ post := by
  refine CI_of (by decide) (Nat.le_of_ble_eq_true rfl) ?_
  intro Z hZl hZD hZI X hR
  subst hZl; subst hZD; subst hZI
  unfold wp_W_start at hw
  show VV Z 0 0 (wC (zI Z) q σ) [(0, .ref (q 0)), (1, .int x1)] 0 []
  refine x_aload_n (pc := 0) X d_W_start_0 0 rfl ?_
  refine x_get (pc := 1) X tb_W 0 0 (by decide) mw_0 (atC_0 _ _ _) rfl d_W_start_1 ?_
  refine x_iload_n (pc := 4) X d_W_start_4 1 rfl ?_
  refine x_cni (pc := 5) X [.int x1] (c_G_hasNode (zl Z) (zD Z) (zI Z) q σ x1 _ hw) mv_G_hasNode tb_G 1 (atC_1 _ _ _) nw_22 d_W_start_5 rfl (Nat.le_of_ble_eq_true rfl) ⟨Nat.le_of_ble_eq_true rfl, Nat.le_of_ble_eq_true rfl⟩ ⟨rfl, rfl⟩ ⟨Nat.zero_le _, Nat.zero_le _⟩ ?_
  intro r1 σ1 hw
  refine x_if_ne (pc := 8) (tgt := 13) X d_W_start_8 (by decide) (fun c => ?_) (fun c => ?_)
  · have hw := hw.1 c
    refine x_aload_n (pc := 13) X d_W_start_13 0 rfl ?_
    refine x_get (pc := 14) X tb_W 0 0 (by decide) mw_0 (atC_0 _ _ _) rfl d_W_start_14 ?_
    refine x_iload_n (pc := 17) X d_W_start_17 1 rfl ?_
    refine x_putN (pc := 18) (ws' := (wC (zI Z) q (us σ1 3 x1))) X tb_G 1 2 (by decide) nw_29 (atC_1 _ _ _) rfl pI (Nat.le_of_ble_eq_true rfl) (ptC_3 _ _ _ _) d_W_start_18 ?_
    refine x_iconst (pc := 21) (v := 1) X d_W_start_21 (by decide) ?_
    exact hR _ _ _ _ d_W_start_22 rfl hw
  · have hw := hw.2 c
    refine x_iconst (pc := 11) (v := 0) X d_W_start_11 (by decide) ?_
    exact hR _ _ _ _ d_W_start_12 rfl hw
def rm_M_start : Room := { frames := 1, cells := 0, slots := 0, locals := 21 }
set_option maxHeartbeats 4000000 in
set_option maxRecDepth 100000 in
theorem c_M_start (l : Launch) (D : va_G) (cI : ClassId) (q : Nat → Nat) (σ : St) (x1 : Int32) (post : Int32 → St → Prop) (hw : wp_M_start x1 σ post) : CI l D cI (wM cI q) y_M_start b_M_start 2 .boolean rm_M_start [.ref (q 0), .int x1] σ post := by
  refine CI_of (by decide) (Nat.le_of_ble_eq_true rfl) ?_
  intro Z hZl hZD hZI X hR
  subst hZl; subst hZD; subst hZI
  unfold wp_M_start at hw
  show VV Z 0 0 (wM (zI Z) q σ) [(0, .ref (q 0)), (1, .int x1)] 0 []
  refine x_aload_n (pc := 0) X d_M_start_0 0 rfl ?_
  refine x_iconst (pc := 1) (v := 0) X d_M_start_1 (by decide) ?_
  refine x_put (pc := 2) (ws' := (wM (zI Z) q (us σ 0 0))) X tb_M 0 0 (by decide) mw_7 (atM_0 _ _ _) rfl pI (Nat.le_of_ble_eq_true rfl) (ptM_0 _ _ _ _) d_M_start_2 ?_
  refine x_aload_n (pc := 5) X d_M_start_5 0 rfl ?_
  refine x_iload_n (pc := 6) X d_M_start_6 1 rfl ?_
  refine x_cvi (pc := 7) X [.int x1] (c_M_isNode (zl Z) (zD Z) (zI Z) q (us σ 0 0) x1 _ hw) mv_M_isNode tb_M 0 (atM_0 _ _ _) mw_18 d_M_start_7 rfl (Nat.le_of_ble_eq_true rfl) ⟨Nat.le_of_ble_eq_true rfl, Nat.le_of_ble_eq_true rfl⟩ ⟨rfl, rfl⟩ ⟨Nat.zero_le _, Nat.zero_le _⟩ ?_
  intro r1 σ1 hw
  refine x_if_ne (pc := 10) (tgt := 15) X d_M_start_10 (by decide) (fun c => ?_) (fun c => ?_)
  · have hw := hw.1 c
    refine x_aload_n (pc := 15) X d_M_start_15 0 rfl ?_
    refine x_iload_n (pc := 16) X d_M_start_16 1 rfl ?_
    refine x_put (pc := 17) (ws' := (wM (zI Z) q (us σ1 3 x1))) X tb_M 0 3 (by decide) mw_10 (atM_0 _ _ _) rfl pI (Nat.le_of_ble_eq_true rfl) (ptM_3 _ _ _ _) d_M_start_17 ?_
    refine x_iconst (pc := 20) (v := 1) X d_M_start_20 (by decide) ?_
    exact hR _ _ _ _ d_M_start_21 rfl hw
  · have hw := hw.2 c
    refine x_iconst (pc := 13) (v := 0) X d_M_start_13 (by decide) ?_
    exact hR _ _ _ _ d_M_start_14 rfl hw
def rm_G_reach : Room := { frames := 1, cells := 0, slots := 0, locals := 21 }
set_option maxHeartbeats 4000000 in
set_option maxRecDepth 100000 in
theorem wL_G_reach_5 {Z : ZT} {q : Nat → Nat} {post : Int32 → St → Prop} (X : Cx Z "WayTable$Graph" b_G_reach rm_G_reach 5) (hR : RI Z b_G_reach .int (wC (zI Z) q) post) : ∀ (n : Nat) (x1 x2 x3 x4 : Int32) (σ : St), L_G_reach_5 post n x1 x2 x3 x4 σ → VV Z 0 0 (wC (zI Z) q σ) [(0, .ref (q 1)), (1, .int x1), (2, .int x2), (3, .int x3), (4, .int x4)] 5 [] := by
  intro n
  induction n with
  | zero => intro x1 x2 x3 x4 σ hw; exact False.elim hw
  | succ n ih =>
    intro x1 x2 x3 x4 σ hw
    unfold L_G_reach_5 at hw
    refine x_iload (pc := 5) X d_G_reach_5 4 rfl ?_
    refine x_aload_n (pc := 7) X d_G_reach_7 0 rfl ?_
    refine x_get (pc := 8) X tb_G 1 0 (by decide) mw_1 (atC_1 _ _ _) rfl d_G_reach_8 ?_
    refine x_icmp_ge (pc := 11) (tgt := 43) X d_G_reach_11 (by decide) (fun c => ?_) (fun c => ?_)
    · have hw := hw.1 c
      refine x_iload_n (pc := 43) X d_G_reach_43 3 rfl ?_
      exact hR _ _ _ _ d_G_reach_44 (vp_nar_int _) hw
    · have hw := hw.2 c
      refine x_iload_n (pc := 14) X d_G_reach_14 1 rfl ?_
      refine x_iload (pc := 15) X d_G_reach_15 4 rfl ?_
      refine x_iushr (pc := 17) X d_G_reach_17 ?_
      refine x_iconst (pc := 18) (v := 1) X d_G_reach_18 (by decide) ?_
      refine x_iand (pc := 19) X d_G_reach_19 ?_
      refine x_if_eq (pc := 20) (tgt := 37) X d_G_reach_20 (by decide) (fun c => ?_) (fun c => ?_)
      · have hw := hw.1 c
        refine x_iinc (pc := 37) (d := 1) (lv' := [(0, .ref (q 1)), (1, .int x1), (2, .int x2), (3, .int x3), (4, .int (x4 + 1))]) X d_G_reach_37 4 rfl (by decide) (by decide) [1, 2, 3, 4, 0] rfl ?_
        refine x_goto (pc := 40) (tgt := 5) X d_G_reach_40 (by decide) ?_
        exact ih x1 x2 x3 (x4 + 1) σ hw
      · have hw := hw.2 c
        refine x_iload_n (pc := 23) X d_G_reach_23 3 rfl ?_
        refine x_aload_n (pc := 24) X d_G_reach_24 0 rfl ?_
        refine x_get (pc := 25) X tb_G 1 3 (by decide) mw_4 (atC_1 _ _ _) rfl d_G_reach_25 ?_
        refine x_iload (pc := 28) X d_G_reach_28 4 rfl ?_
        refine x_iload_n (pc := 30) X d_G_reach_30 2 rfl ?_
        refine x_csi (pc := 31) X [.int x4, .int x2] (c_G_place (zl Z) (zD Z) (zI Z) q σ x4 x2 _ hw) ms_G_place mw_15 d_G_reach_31 rfl (Nat.le_of_ble_eq_true rfl) ⟨Nat.le_of_ble_eq_true rfl, Nat.le_of_ble_eq_true rfl⟩ ⟨rfl, rfl⟩ ⟨Nat.zero_le _, Nat.zero_le _⟩ ?_
        intro r1 σ1 hw
        obtain ⟨h2, hw⟩ := hw
        refine x_iald (pc := 34) X 2 (atC_2 _ _ _) h2 d_G_reach_34 ?_
        refine x_ior (pc := 35) X d_G_reach_35 ?_
        refine x_istore_n (pc := 36) (lv' := [(0, .ref (q 1)), (1, .int x1), (2, .int x2), (3, .int (x3 ||| (σ1.2 0 r1.toNatClampNeg))), (4, .int x4)]) X d_G_reach_36 (by decide) [1, 2, 3, 0, 4] rfl ?_
        refine x_iinc (pc := 37) (d := 1) (lv' := [(0, .ref (q 1)), (1, .int x1), (2, .int x2), (3, .int (x3 ||| (σ1.2 0 r1.toNatClampNeg))), (4, .int (x4 + 1))]) X d_G_reach_37 4 rfl (by decide) (by decide) [1, 2, 3, 4, 0] rfl ?_
        refine x_goto (pc := 40) (tgt := 5) X d_G_reach_40 (by decide) ?_
        exact ih x1 x2 (x3 ||| (σ1.2 0 r1.toNatClampNeg)) (x4 + 1) σ1 hw
set_option maxHeartbeats 4000000 in
set_option maxRecDepth 100000 in
theorem c_G_reach (l : Launch) (D : va_G) (cI : ClassId) (q : Nat → Nat) (σ : St) (x1 x2 : Int32) (post : Int32 → St → Prop) (hw : wp_G_reach x1 x2 σ post) : CI l D cI (wC cI q) y_G_reach b_G_reach 5 .int rm_G_reach [.ref (q 1), .int x1, .int x2] σ post := by
  refine CI_of (by decide) (Nat.le_of_ble_eq_true rfl) ?_
  intro Z hZl hZD hZI X hR
  subst hZl; subst hZD; subst hZI
  unfold wp_G_reach at hw
  show VV Z 0 0 (wC (zI Z) q σ) [(0, .ref (q 1)), (1, .int x1), (2, .int x2)] 0 []
  refine x_iconst (pc := 0) (v := 0) X d_G_reach_0 (by decide) ?_
  refine x_istore_n (pc := 1) (lv' := [(0, .ref (q 1)), (1, .int x1), (2, .int x2), (3, .int 0)]) X d_G_reach_1 (by decide) [1, 2, 3, 0] rfl ?_
  refine x_iconst (pc := 2) (v := 0) X d_G_reach_2 (by decide) ?_
  refine x_istore (pc := 3) (lv' := [(0, .ref (q 1)), (1, .int x1), (2, .int x2), (3, .int 0), (4, .int 0)]) X d_G_reach_3 (by decide) [1, 2, 3, 4, 0] rfl ?_
  obtain ⟨n2, hw⟩ := hw
  exact wL_G_reach_5 X hR n2 x1 x2 0 0 σ hw
def rm_T_indexOf_5 : Room := { frames := 0, cells := 0, slots := 0, locals := 0 }
set_option maxHeartbeats 4000000 in
set_option maxRecDepth 100000 in
theorem wL_T_indexOf_5_2 {Z : ZT} {q : Nat → Nat} {post : Int32 → St → Prop} (X : Cx Z "WayTable$Table" b_T_indexOf rm_T_indexOf_5 4) (hR : RI Z b_T_indexOf .int (wC (zI Z) q) post) : ∀ (n : Nat) (x1 x2 x3 : Int32) (σ : St), L_T_indexOf_5_2 post n x1 x2 x3 σ → VV Z 0 0 (wC (zI Z) q σ) [(0, .ref (q 5)), (1, .int x1), (2, .int x2), (3, .int x3)] 2 [] := by
  intro n
  induction n with
  | zero => intro x1 x2 x3 σ hw; exact False.elim hw
  | succ n ih =>
    intro x1 x2 x3 σ hw
    unfold L_T_indexOf_5_2 at hw
    refine x_iload_n (pc := 2) X d_T_indexOf_2 3 rfl ?_
    refine x_iload_n (pc := 3) X d_T_indexOf_3 1 rfl ?_
    refine x_icmp_ge (pc := 4) (tgt := 22) X d_T_indexOf_4 (by decide) (fun c => ?_) (fun c => ?_)
    · have hw := hw.1 c
      refine x_iconst (pc := 22) (v := (-1)) X d_T_indexOf_22 (by decide) ?_
      exact hR _ _ _ _ d_T_indexOf_23 (vp_nar_int _) hw
    · have hw := hw.2 c
      refine x_aload_n (pc := 7) X d_T_indexOf_7 0 rfl ?_
      refine x_iload_n (pc := 8) X d_T_indexOf_8 3 rfl ?_
      obtain ⟨h1, hw⟩ := hw
      refine x_iald (pc := 9) X 5 (atC_5 _ _ _) h1 d_T_indexOf_9 ?_
      refine x_iload_n (pc := 10) X d_T_indexOf_10 2 rfl ?_
      refine x_icmp_ne (pc := 11) (tgt := 16) X d_T_indexOf_11 (by decide) (fun c => ?_) (fun c => ?_)
      · have hw := hw.1 c
        refine x_iinc (pc := 16) (d := 1) (lv' := [(0, .ref (q 5)), (1, .int x1), (2, .int x2), (3, .int (x3 + 1))]) X d_T_indexOf_16 3 rfl (by decide) (by decide) [1, 2, 3, 0] rfl ?_
        refine x_goto (pc := 19) (tgt := 2) X d_T_indexOf_19 (by decide) ?_
        exact ih x1 x2 (x3 + 1) σ hw
      · have hw := hw.2 c
        refine x_iload_n (pc := 14) X d_T_indexOf_14 3 rfl ?_
        exact hR _ _ _ _ d_T_indexOf_15 (vp_nar_int _) hw
set_option maxHeartbeats 4000000 in
set_option maxRecDepth 100000 in
theorem c_T_indexOf_5 (l : Launch) (D : va_G) (cI : ClassId) (q : Nat → Nat) (σ : St) (x1 x2 : Int32) (post : Int32 → St → Prop) (hw : wp_T_indexOf_5 x1 x2 σ post) : CI l D cI (wC cI q) y_T_indexOf b_T_indexOf 4 .int rm_T_indexOf_5 [.ref (q 5), .int x1, .int x2] σ post := by
  refine CI_of (by decide) (Nat.le_of_ble_eq_true rfl) ?_
  intro Z hZl hZD hZI X hR
  subst hZl; subst hZD; subst hZI
  unfold wp_T_indexOf_5 at hw
  show VV Z 0 0 (wC (zI Z) q σ) [(0, .ref (q 5)), (1, .int x1), (2, .int x2)] 0 []
  refine x_iconst (pc := 0) (v := 0) X d_T_indexOf_0 (by decide) ?_
  refine x_istore_n (pc := 1) (lv' := [(0, .ref (q 5)), (1, .int x1), (2, .int x2), (3, .int 0)]) X d_T_indexOf_1 (by decide) [1, 2, 3, 0] rfl ?_
  obtain ⟨n2, hw⟩ := hw
  exact wL_T_indexOf_5_2 X hR n2 x1 x2 0 σ hw
