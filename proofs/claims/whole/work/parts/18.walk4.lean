def rm_T_partOnce : Room := { frames := 3, cells := 0, slots := 0, locals := 70 }
set_option maxHeartbeats 4000000 in
set_option maxRecDepth 100000 in
theorem wL_T_partOnce_21 {Z : ZT} {q : Nat → Nat} {post : Int32 → St → Prop} (X : Cx Z "WayTable$Table" b_T_partOnce rm_T_partOnce 4) (hR : RI Z b_T_partOnce .boolean (wC (zI Z) q) post) : ∀ (n : Nat) (x1 x2 x3 : Int32) (σ : St), L_T_partOnce_21 post n x1 x2 x3 σ → VV Z 0 0 (wC (zI Z) q σ) [(0, .ref (q 3)), (1, .int x1), (2, .int x2), (3, .int x3)] 21 [] := by
  intro n
  induction n with
  | zero => intro x1 x2 x3 σ hw; exact False.elim hw
  | succ n ih =>
    intro x1 x2 x3 σ hw
    unfold L_T_partOnce_21 at hw
    refine x_iload_n (pc := 21) X d_T_partOnce_21 3 rfl ?_
    refine x_aload_n (pc := 22) X d_T_partOnce_22 0 rfl ?_
    refine x_get (pc := 23) X tb_T 3 1 (by decide) mw_38 (atC_3 _ _ _) rfl d_T_partOnce_23 ?_
    refine x_icmp_ge (pc := 26) (tgt := 74) X d_T_partOnce_26 (by decide) (fun c => ?_) (fun c => ?_)
    · have hw := hw.1 c
      refine x_iload_n (pc := 74) X d_T_partOnce_74 2 rfl ?_
      exact hR _ _ _ _ d_T_partOnce_75 hw.1 hw.2
    · have hw := hw.2 c
      refine x_aload_n (pc := 29) X d_T_partOnce_29 0 rfl ?_
      refine x_get (pc := 30) X tb_T 3 7 (by decide) mw_46 (atC_3 _ _ _) rfl d_T_partOnce_30 ?_
      refine x_iload_n (pc := 33) X d_T_partOnce_33 3 rfl ?_
      refine x_aload_n (pc := 34) X d_T_partOnce_34 0 rfl ?_
      refine x_iload_n (pc := 35) X d_T_partOnce_35 3 rfl ?_
      refine x_cvi (pc := 36) X [.int x3] (c_T_findLeader (zl Z) (zD Z) (zI Z) q σ x3 _ hw) mv_T_findLeader tb_T 3 (atC_3 _ _ _) mw_53 d_T_partOnce_36 rfl (Nat.le_of_ble_eq_true rfl) ⟨Nat.le_of_ble_eq_true rfl, Nat.le_of_ble_eq_true rfl⟩ ⟨rfl, rfl⟩ ⟨Nat.zero_le _, Nat.zero_le _⟩ ?_
      intro r2 σ2 hw
      obtain ⟨h3, hw⟩ := hw
      refine x_iast (pc := 39) (ws' := (wC (zI Z) q (ua σ2 4 x3.toNatClampNeg r2))) X 7 (atC_7 _ _ _) h3 (stC_7 _ _ _ _) d_T_partOnce_39 ?_
      refine x_aload_n (pc := 40) X d_T_partOnce_40 0 rfl ?_
      refine x_get (pc := 41) X tb_T 3 7 (by decide) mw_46 (atC_3 _ _ _) rfl d_T_partOnce_41 ?_
      refine x_iload_n (pc := 44) X d_T_partOnce_44 3 rfl ?_
      obtain ⟨h4, hw⟩ := hw
      refine x_iald (pc := 45) X 7 (atC_7 _ _ _) h4 d_T_partOnce_45 ?_
      refine x_iload_n (pc := 46) X d_T_partOnce_46 3 rfl ?_
      refine x_icmp_ne (pc := 47) (tgt := 68) X d_T_partOnce_47 (by decide) (fun c => ?_) (fun c => ?_)
      · have hw := hw.1 c
        refine x_iinc (pc := 68) (d := 1) (lv' := [(0, .ref (q 3)), (1, .int x1), (2, .int x2), (3, .int (x3 + 1))]) X d_T_partOnce_68 3 rfl (by decide) (by decide) [1, 2, 3, 0] rfl ?_
        refine x_goto (pc := 71) (tgt := 21) X d_T_partOnce_71 (by decide) ?_
        exact ih x1 x2 (x3 + 1) (ua σ2 4 x3.toNatClampNeg r2) hw
      · have hw := hw.2 c
        refine x_aload_n (pc := 50) X d_T_partOnce_50 0 rfl ?_
        refine x_get (pc := 51) X tb_T 3 8 (by decide) mw_50 (atC_3 _ _ _) rfl d_T_partOnce_51 ?_
        refine x_iload_n (pc := 54) X d_T_partOnce_54 3 rfl ?_
        obtain ⟨h5, hw⟩ := hw
        refine x_iald (pc := 55) X 8 (atC_8 _ _ _) h5 d_T_partOnce_55 ?_
        refine x_iload_n (pc := 56) X d_T_partOnce_56 3 rfl ?_
        refine x_icmp_eq (pc := 57) (tgt := 68) X d_T_partOnce_57 (by decide) (fun c => ?_) (fun c => ?_)
        · have hw := hw.1 c
          refine x_iinc (pc := 68) (d := 1) (lv' := [(0, .ref (q 3)), (1, .int x1), (2, .int x2), (3, .int (x3 + 1))]) X d_T_partOnce_68 3 rfl (by decide) (by decide) [1, 2, 3, 0] rfl ?_
          refine x_goto (pc := 71) (tgt := 21) X d_T_partOnce_71 (by decide) ?_
          exact ih x1 x2 (x3 + 1) (ua σ2 4 x3.toNatClampNeg r2) hw
        · have hw := hw.2 c
          refine x_aload_n (pc := 60) X d_T_partOnce_60 0 rfl ?_
          refine x_iload_n (pc := 61) X d_T_partOnce_61 3 rfl ?_
          refine x_iload_n (pc := 62) X d_T_partOnce_62 1 rfl ?_
          refine x_cvv (pc := 63) X [.int x3, .int x1] (c_T_measure (zl Z) (zD Z) (zI Z) q (ua σ2 4 x3.toNatClampNeg r2) x3 x1 _ hw) mv_T_measure tb_T 3 (atC_3 _ _ _) mw_63 d_T_partOnce_63 rfl (Nat.le_of_ble_eq_true rfl) ⟨Nat.le_of_ble_eq_true rfl, Nat.le_of_ble_eq_true rfl⟩ ⟨rfl, rfl⟩ ⟨Nat.zero_le _, Nat.zero_le _⟩ ?_
          intro σ6 hw
          refine x_iconst (pc := 66) (v := 1) X d_T_partOnce_66 (by decide) ?_
          refine x_istore_n (pc := 67) (lv' := [(0, .ref (q 3)), (1, .int x1), (2, .int 1), (3, .int x3)]) X d_T_partOnce_67 (by decide) [1, 2, 0, 3] rfl ?_
          refine x_iinc (pc := 68) (d := 1) (lv' := [(0, .ref (q 3)), (1, .int x1), (2, .int 1), (3, .int (x3 + 1))]) X d_T_partOnce_68 3 rfl (by decide) (by decide) [1, 2, 3, 0] rfl ?_
          refine x_goto (pc := 71) (tgt := 21) X d_T_partOnce_71 (by decide) ?_
          exact ih x1 1 (x3 + 1) σ6 hw
set_option maxHeartbeats 4000000 in
set_option maxRecDepth 100000 in
theorem c_T_partOnce (l : Launch) (D : va_G) (cI : ClassId) (q : Nat → Nat) (σ : St) (x1 : Int32) (post : Int32 → St → Prop) (hw : wp_T_partOnce x1 σ post) : CI l D cI (wC cI q) y_T_partOnce b_T_partOnce 4 .boolean rm_T_partOnce [.ref (q 3), .int x1] σ post := by
  refine CI_of (by decide) (Nat.le_of_ble_eq_true rfl) ?_
  intro Z hZl hZD hZI X hR
  subst hZl; subst hZD; subst hZI
  unfold wp_T_partOnce at hw
  show VV Z 0 0 (wC (zI Z) q σ) [(0, .ref (q 3)), (1, .int x1)] 0 []
  refine x_aload_n (pc := 0) X d_T_partOnce_0 0 rfl ?_
  refine x_get (pc := 1) X tb_T 3 7 (by decide) mw_46 (atC_3 _ _ _) rfl d_T_partOnce_1 ?_
  refine x_iconst (pc := 4) (v := 0) X d_T_partOnce_4 (by decide) ?_
  refine x_aload_n (pc := 5) X d_T_partOnce_5 0 rfl ?_
  refine x_get (pc := 6) X tb_T 3 8 (by decide) mw_50 (atC_3 _ _ _) rfl d_T_partOnce_6 ?_
  refine x_iconst (pc := 9) (v := 0) X d_T_partOnce_9 (by decide) ?_
  refine x_aload_n (pc := 10) X d_T_partOnce_10 0 rfl ?_
  refine x_get (pc := 11) X tb_T 3 1 (by decide) mw_38 (atC_3 _ _ _) rfl d_T_partOnce_11 ?_
  obtain ⟨h1, hw⟩ := hw
  refine x_copy (pc := 14) (ws' := (wC (zI Z) q (uA σ 5 (va_cpy (σ.2 4) (σ.2 5) ((0 : Int32).toNatClampNeg) ((0 : Int32).toNatClampNeg) (σ.1 5).toNatClampNeg)))) X mw_40 mw_41 mw_42 mw_43 7 8 (atC_7 _ _ _) (atC_8 _ _ _) h1 (Nat.le_of_ble_eq_true rfl) (Nat.le_of_ble_eq_true rfl) (stC_8 _ _ _ _) d_T_partOnce_14 ?_
  refine x_iconst (pc := 17) (v := 0) X d_T_partOnce_17 (by decide) ?_
  refine x_istore_n (pc := 18) (lv' := [(0, .ref (q 3)), (1, .int x1), (2, .int 0)]) X d_T_partOnce_18 (by decide) [1, 2, 0] rfl ?_
  refine x_iconst (pc := 19) (v := 0) X d_T_partOnce_19 (by decide) ?_
  refine x_istore_n (pc := 20) (lv' := [(0, .ref (q 3)), (1, .int x1), (2, .int 0), (3, .int 0)]) X d_T_partOnce_20 (by decide) [1, 2, 3, 0] rfl ?_
  obtain ⟨n2, hw⟩ := hw
  exact wL_T_partOnce_21 X hR n2 x1 0 0 (uA σ 5 (va_cpy (σ.2 4) (σ.2 5) ((0 : Int32).toNatClampNeg) ((0 : Int32).toNatClampNeg) (σ.1 5).toNatClampNeg)) hw
def rm_T_partSets : Room := { frames := 4, cells := 0, slots := 0, locals := 93 }
set_option maxHeartbeats 4000000 in
set_option maxRecDepth 100000 in
theorem wL_T_partSets_20 {Z : ZT} {q : Nat → Nat} {post : St → Prop} (X : Cx Z "WayTable$Table" b_T_partSets rm_T_partSets 2) (hR : RV Z b_T_partSets (wC (zI Z) q) post) : ∀ (n : Nat) (x1 : Int32) (σ : St), L_T_partSets_20 post n x1 σ → VV Z 0 0 (wC (zI Z) q σ) [(0, .ref (q 3)), (1, .int x1)] 20 [] := by
  intro n
  induction n with
  | zero => intro x1 σ hw; exact False.elim hw
  | succ n ih =>
    intro x1 σ hw
    unfold L_T_partSets_20 at hw
    refine x_iload_n (pc := 20) X d_T_partSets_20 1 rfl ?_
    refine x_aload_n (pc := 21) X d_T_partSets_21 0 rfl ?_
    refine x_get (pc := 22) X tb_T 3 1 (by decide) mw_38 (atC_3 _ _ _) rfl d_T_partSets_22 ?_
    refine x_icmp_ge (pc := 25) (tgt := 48) X d_T_partSets_25 (by decide) (fun c => ?_) (fun c => ?_)
    · have hw := hw.1 c
      exact hR _ _ _ d_T_partSets_48 hw
    · have hw := hw.2 c
      refine x_aload_n (pc := 28) X d_T_partSets_28 0 rfl ?_
      refine x_iload_n (pc := 29) X d_T_partSets_29 1 rfl ?_
      refine x_cvi (pc := 30) X [.int x1] (c_T_partOnce (zl Z) (zD Z) (zI Z) q σ x1 _ hw) mv_T_partOnce tb_T 3 (atC_3 _ _ _) mw_64 d_T_partSets_30 rfl (Nat.le_of_ble_eq_true rfl) ⟨Nat.le_of_ble_eq_true rfl, Nat.le_of_ble_eq_true rfl⟩ ⟨rfl, rfl⟩ ⟨Nat.zero_le _, Nat.zero_le _⟩ ?_
      intro r2 σ2 hw
      refine x_if_ne (pc := 33) (tgt := 37) X d_T_partSets_33 (by decide) (fun c => ?_) (fun c => ?_)
      · have hw := hw.1 c
        refine x_aload_n (pc := 37) X d_T_partSets_37 0 rfl ?_
        refine x_iload_n (pc := 38) X d_T_partSets_38 1 rfl ?_
        refine x_put (pc := 39) (ws' := (wC (zI Z) q (us σ2 7 x1))) X tb_T 3 3 (by decide) mw_49 (atC_3 _ _ _) rfl pI (Nat.le_of_ble_eq_true rfl) (ptC_7 _ _ _ _) d_T_partSets_39 ?_
        refine x_iinc (pc := 42) (d := 1) (lv' := [(0, .ref (q 3)), (1, .int (x1 + 1))]) X d_T_partSets_42 1 rfl (by decide) (by decide) [1, 0] rfl ?_
        refine x_goto (pc := 45) (tgt := 20) X d_T_partSets_45 (by decide) ?_
        exact ih (x1 + 1) (us σ2 7 x1) hw
      · have hw := hw.2 c
        exact hR _ _ _ d_T_partSets_36 hw
set_option maxHeartbeats 4000000 in
set_option maxRecDepth 100000 in
theorem c_T_partSets (l : Launch) (D : va_G) (cI : ClassId) (q : Nat → Nat) (σ : St) (post : St → Prop) (hw : wp_T_partSets σ post) : CV l D cI (wC cI q) y_T_partSets b_T_partSets 2 rm_T_partSets [.ref (q 3)] σ post := by
  refine CV_of (by decide) (Nat.le_of_ble_eq_true rfl) ?_
  intro Z hZl hZD hZI X hR
  subst hZl; subst hZD; subst hZI
  unfold wp_T_partSets at hw
  show VV Z 0 0 (wC (zI Z) q σ) [(0, .ref (q 3))] 0 []
  refine x_aload_n (pc := 0) X d_T_partSets_0 0 rfl ?_
  refine x_get (pc := 1) X tb_T 3 7 (by decide) mw_46 (atC_3 _ _ _) rfl d_T_partSets_1 ?_
  refine x_iconst (pc := 4) (v := 0) X d_T_partSets_4 (by decide) ?_
  refine x_aload_n (pc := 5) X d_T_partSets_5 0 rfl ?_
  refine x_get (pc := 6) X tb_T 3 1 (by decide) mw_38 (atC_3 _ _ _) rfl d_T_partSets_6 ?_
  refine x_iconst (pc := 9) (v := 0) X d_T_partSets_9 (by decide) ?_
  refine x_csv (pc := 10) X [.ref (q 7), .int 0, .int (σ.1 5), .int 0] (c_A_fill4_7 (zl Z) (zD Z) (zI Z) q σ 0 (σ.1 5) 0 _ hw) ms_A_fill4 mw_48 d_T_partSets_10 rfl (Nat.le_of_ble_eq_true rfl) ⟨Nat.le_of_ble_eq_true rfl, Nat.le_of_ble_eq_true rfl⟩ ⟨rfl, rfl⟩ ⟨Nat.zero_le _, Nat.zero_le _⟩ ?_
  intro σ1 hw
  refine x_aload_n (pc := 13) X d_T_partSets_13 0 rfl ?_
  refine x_iconst (pc := 14) (v := 0) X d_T_partSets_14 (by decide) ?_
  refine x_put (pc := 15) (ws' := (wC (zI Z) q (us σ1 7 0))) X tb_T 3 3 (by decide) mw_49 (atC_3 _ _ _) rfl pI (Nat.le_of_ble_eq_true rfl) (ptC_7 _ _ _ _) d_T_partSets_15 ?_
  refine x_iconst (pc := 18) (v := 1) X d_T_partSets_18 (by decide) ?_
  refine x_istore_n (pc := 19) (lv' := [(0, .ref (q 3)), (1, .int 1)]) X d_T_partSets_19 (by decide) [1, 0] rfl ?_
  obtain ⟨n2, hw⟩ := hw
  exact wL_T_partSets_20 X hR n2 1 (us σ1 7 0) hw
def rm_T_numberStates : Room := { frames := 0, cells := 0, slots := 0, locals := 0 }
set_option maxHeartbeats 4000000 in
set_option maxRecDepth 100000 in
theorem wL_T_numberStates_7 {Z : ZT} {q : Nat → Nat} {post : St → Prop} (X : Cx Z "WayTable$Table" b_T_numberStates rm_T_numberStates 2) (hR : RV Z b_T_numberStates (wC (zI Z) q) post) : ∀ (n : Nat) (x1 : Int32) (σ : St), L_T_numberStates_7 post n x1 σ → VV Z 0 0 (wC (zI Z) q σ) [(0, .ref (q 3)), (1, .int x1)] 7 [] := by
  intro n
  induction n with
  | zero => intro x1 σ hw; exact False.elim hw
  | succ n ih =>
    intro x1 σ hw
    unfold L_T_numberStates_7 at hw
    refine x_iload_n (pc := 7) X d_T_numberStates_7 1 rfl ?_
    refine x_aload_n (pc := 8) X d_T_numberStates_8 0 rfl ?_
    refine x_get (pc := 9) X tb_T 3 1 (by decide) mw_38 (atC_3 _ _ _) rfl d_T_numberStates_9 ?_
    refine x_icmp_ge (pc := 12) (tgt := 81) X d_T_numberStates_12 (by decide) (fun c => ?_) (fun c => ?_)
    · have hw := hw.1 c
      exact hR _ _ _ d_T_numberStates_81 hw
    · have hw := hw.2 c
      refine x_aload_n (pc := 15) X d_T_numberStates_15 0 rfl ?_
      refine x_get (pc := 16) X tb_T 3 7 (by decide) mw_46 (atC_3 _ _ _) rfl d_T_numberStates_16 ?_
      refine x_iload_n (pc := 19) X d_T_numberStates_19 1 rfl ?_
      obtain ⟨h1, hw⟩ := hw
      refine x_iald (pc := 20) X 7 (atC_7 _ _ _) h1 d_T_numberStates_20 ?_
      refine x_iload_n (pc := 21) X d_T_numberStates_21 1 rfl ?_
      refine x_icmp_ne (pc := 22) (tgt := 58) X d_T_numberStates_22 (by decide) (fun c => ?_) (fun c => ?_)
      · have hw := hw.1 c
        refine x_aload_n (pc := 58) X d_T_numberStates_58 0 rfl ?_
        refine x_get (pc := 59) X tb_T 3 9 (by decide) mw_67 (atC_3 _ _ _) rfl d_T_numberStates_59 ?_
        refine x_iload_n (pc := 62) X d_T_numberStates_62 1 rfl ?_
        refine x_aload_n (pc := 63) X d_T_numberStates_63 0 rfl ?_
        refine x_get (pc := 64) X tb_T 3 9 (by decide) mw_67 (atC_3 _ _ _) rfl d_T_numberStates_64 ?_
        refine x_aload_n (pc := 67) X d_T_numberStates_67 0 rfl ?_
        refine x_get (pc := 68) X tb_T 3 7 (by decide) mw_46 (atC_3 _ _ _) rfl d_T_numberStates_68 ?_
        refine x_iload_n (pc := 71) X d_T_numberStates_71 1 rfl ?_
        obtain ⟨h2, hw⟩ := hw
        refine x_iald (pc := 72) X 7 (atC_7 _ _ _) h2 d_T_numberStates_72 ?_
        obtain ⟨h3, hw⟩ := hw
        refine x_iald (pc := 73) X 9 (atC_9 _ _ _) h3 d_T_numberStates_73 ?_
        obtain ⟨h4, hw⟩ := hw
        refine x_iast (pc := 74) (ws' := (wC (zI Z) q (ua σ 6 x1.toNatClampNeg (σ.2 6 (σ.2 4 x1.toNatClampNeg).toNatClampNeg)))) X 9 (atC_9 _ _ _) h4 (stC_9 _ _ _ _) d_T_numberStates_74 ?_
        refine x_iinc (pc := 75) (d := 1) (lv' := [(0, .ref (q 3)), (1, .int (x1 + 1))]) X d_T_numberStates_75 1 rfl (by decide) (by decide) [1, 0] rfl ?_
        refine x_goto (pc := 78) (tgt := 7) X d_T_numberStates_78 (by decide) ?_
        exact ih (x1 + 1) (ua σ 6 x1.toNatClampNeg (σ.2 6 (σ.2 4 x1.toNatClampNeg).toNatClampNeg)) hw
      · have hw := hw.2 c
        refine x_aload_n (pc := 25) X d_T_numberStates_25 0 rfl ?_
        refine x_get (pc := 26) X tb_T 3 9 (by decide) mw_67 (atC_3 _ _ _) rfl d_T_numberStates_26 ?_
        refine x_iload_n (pc := 29) X d_T_numberStates_29 1 rfl ?_
        refine x_aload_n (pc := 30) X d_T_numberStates_30 0 rfl ?_
        refine x_get (pc := 31) X tb_T 3 2 (by decide) mw_66 (atC_3 _ _ _) rfl d_T_numberStates_31 ?_
        obtain ⟨h5, hw⟩ := hw
        refine x_iast (pc := 34) (ws' := (wC (zI Z) q (ua σ 6 x1.toNatClampNeg (σ.1 6)))) X 9 (atC_9 _ _ _) h5 (stC_9 _ _ _ _) d_T_numberStates_34 ?_
        refine x_aload_n (pc := 35) X d_T_numberStates_35 0 rfl ?_
        refine x_get (pc := 36) X tb_T 3 10 (by decide) mw_68 (atC_3 _ _ _) rfl d_T_numberStates_36 ?_
        refine x_aload_n (pc := 39) X d_T_numberStates_39 0 rfl ?_
        refine x_get (pc := 40) X tb_T 3 2 (by decide) mw_66 (atC_3 _ _ _) rfl d_T_numberStates_40 ?_
        refine x_iload_n (pc := 43) X d_T_numberStates_43 1 rfl ?_
        obtain ⟨h6, hw⟩ := hw
        refine x_iast (pc := 44) (ws' := (wC (zI Z) q (ua (ua σ 6 x1.toNatClampNeg (σ.1 6)) 7 ((ua σ 6 x1.toNatClampNeg (σ.1 6)).1 6).toNatClampNeg x1))) X 10 (atC_10 _ _ _) h6 (stC_10 _ _ _ _) d_T_numberStates_44 ?_
        refine x_aload_n (pc := 45) X d_T_numberStates_45 0 rfl ?_
        refine x_dup (pc := 46) X d_T_numberStates_46 rfl ?_
        refine x_get (pc := 47) X tb_T 3 2 (by decide) mw_66 (atC_3 _ _ _) rfl d_T_numberStates_47 ?_
        refine x_iconst (pc := 50) (v := 1) X d_T_numberStates_50 (by decide) ?_
        refine x_iadd (pc := 51) X d_T_numberStates_51 ?_
        refine x_put (pc := 52) (ws' := (wC (zI Z) q (us (ua (ua σ 6 x1.toNatClampNeg (σ.1 6)) 7 ((ua σ 6 x1.toNatClampNeg (σ.1 6)).1 6).toNatClampNeg x1) 6 (((ua (ua σ 6 x1.toNatClampNeg (σ.1 6)) 7 ((ua σ 6 x1.toNatClampNeg (σ.1 6)).1 6).toNatClampNeg x1).1 6) + 1)))) X tb_T 3 2 (by decide) mw_66 (atC_3 _ _ _) rfl pI (Nat.le_of_ble_eq_true rfl) (ptC_6 _ _ _ _) d_T_numberStates_52 ?_
        refine x_goto (pc := 55) (tgt := 75) X d_T_numberStates_55 (by decide) ?_
        refine x_iinc (pc := 75) (d := 1) (lv' := [(0, .ref (q 3)), (1, .int (x1 + 1))]) X d_T_numberStates_75 1 rfl (by decide) (by decide) [1, 0] rfl ?_
        refine x_goto (pc := 78) (tgt := 7) X d_T_numberStates_78 (by decide) ?_
        exact ih (x1 + 1) (us (ua (ua σ 6 x1.toNatClampNeg (σ.1 6)) 7 ((ua σ 6 x1.toNatClampNeg (σ.1 6)).1 6).toNatClampNeg x1) 6 (((ua (ua σ 6 x1.toNatClampNeg (σ.1 6)) 7 ((ua σ 6 x1.toNatClampNeg (σ.1 6)).1 6).toNatClampNeg x1).1 6) + 1)) hw
set_option maxHeartbeats 4000000 in
set_option maxRecDepth 100000 in
theorem c_T_numberStates (l : Launch) (D : va_G) (cI : ClassId) (q : Nat → Nat) (σ : St) (post : St → Prop) (hw : wp_T_numberStates σ post) : CV l D cI (wC cI q) y_T_numberStates b_T_numberStates 2 rm_T_numberStates [.ref (q 3)] σ post := by
  refine CV_of (by decide) (Nat.le_of_ble_eq_true rfl) ?_
  intro Z hZl hZD hZI X hR
  subst hZl; subst hZD; subst hZI
  unfold wp_T_numberStates at hw
  show VV Z 0 0 (wC (zI Z) q σ) [(0, .ref (q 3))] 0 []
  refine x_aload_n (pc := 0) X d_T_numberStates_0 0 rfl ?_
  refine x_iconst (pc := 1) (v := 0) X d_T_numberStates_1 (by decide) ?_
  refine x_put (pc := 2) (ws' := (wC (zI Z) q (us σ 6 0))) X tb_T 3 2 (by decide) mw_66 (atC_3 _ _ _) rfl pI (Nat.le_of_ble_eq_true rfl) (ptC_6 _ _ _ _) d_T_numberStates_2 ?_
  refine x_iconst (pc := 5) (v := 0) X d_T_numberStates_5 (by decide) ?_
  refine x_istore_n (pc := 6) (lv' := [(0, .ref (q 3)), (1, .int 0)]) X d_T_numberStates_6 (by decide) [1, 0] rfl ?_
  obtain ⟨n2, hw⟩ := hw
  exact wL_T_numberStates_7 X hR n2 0 (us σ 6 0) hw
def rm_T_build_1 : Room := { frames := 5, cells := 0, slots := 0, locals := 114 }
set_option maxHeartbeats 4000000 in
set_option maxRecDepth 100000 in
theorem c_T_build_1 (l : Launch) (D : va_G) (cI : ClassId) (q : Nat → Nat) (σ : St) (post : Int32 → St → Prop) (hw : wp_T_build_1 σ post) : CI l D cI (wC cI q) y_T_build b_T_build 3 .boolean rm_T_build_1 [.ref (q 3), .ref (q 1)] σ post := by
  refine CI_of (by decide) (Nat.le_of_ble_eq_true rfl) ?_
  intro Z hZl hZD hZI X hR
  subst hZl; subst hZD; subst hZI
  unfold wp_T_build_1 at hw
  show VV Z 0 0 (wC (zI Z) q σ) [(0, .ref (q 3)), (1, .ref (q 1))] 0 []
  refine x_aload_n (pc := 0) X d_T_build_0 0 rfl ?_
  refine x_aload_n (pc := 1) X d_T_build_1 1 rfl ?_
  refine x_cvi (pc := 2) X [.ref (q 1)] (c_T_findSets_1 (zl Z) (zD Z) (zI Z) q σ _ hw) mv_T_findSets tb_T 3 (atC_3 _ _ _) mw_36 d_T_build_2 rfl (Nat.le_of_ble_eq_true rfl) ⟨Nat.le_of_ble_eq_true rfl, Nat.le_of_ble_eq_true rfl⟩ ⟨rfl, rfl⟩ ⟨Nat.zero_le _, Nat.zero_le _⟩ ?_
  intro r1 σ1 hw
  refine x_istore_n (pc := 5) (lv' := [(0, .ref (q 3)), (1, .ref (q 1)), (2, .int r1)]) X d_T_build_5 (by decide) [1, 2, 0] rfl ?_
  refine x_iload_n (pc := 6) X d_T_build_6 2 rfl ?_
  refine x_iconst (pc := 7) (v := (-1)) X d_T_build_7 (by decide) ?_
  refine x_icmp_ne (pc := 8) (tgt := 13) X d_T_build_8 (by decide) (fun c => ?_) (fun c => ?_)
  · have hw := hw.1 c
    refine x_aload_n (pc := 13) X d_T_build_13 0 rfl ?_
    refine x_aload_n (pc := 14) X d_T_build_14 1 rfl ?_
    refine x_getN (pc := 15) X tb_G 1 1 (by decide) nw_33 (atC_1 _ _ _) rfl d_T_build_15 ?_
    refine x_put (pc := 18) (ws' := (wC (zI Z) q (us σ1 4 (σ1.1 2)))) X tb_T 3 0 (by decide) mw_37 (atC_3 _ _ _) rfl pI (Nat.le_of_ble_eq_true rfl) (ptC_4 _ _ _ _) d_T_build_18 ?_
    refine x_aload_n (pc := 21) X d_T_build_21 0 rfl ?_
    refine x_iload_n (pc := 22) X d_T_build_22 2 rfl ?_
    refine x_put (pc := 23) (ws' := (wC (zI Z) q (us (us σ1 4 (σ1.1 2)) 5 r1))) X tb_T 3 1 (by decide) mw_38 (atC_3 _ _ _) rfl pI (Nat.le_of_ble_eq_true rfl) (ptC_5 _ _ _ _) d_T_build_23 ?_
    refine x_aload_n (pc := 26) X d_T_build_26 0 rfl ?_
    refine x_get (pc := 27) X tb_T 3 5 (by decide) mw_31 (atC_3 _ _ _) rfl d_T_build_27 ?_
    refine x_iconst (pc := 30) (v := 0) X d_T_build_30 (by decide) ?_
    refine x_aload_n (pc := 31) X d_T_build_31 0 rfl ?_
    refine x_get (pc := 32) X tb_T 3 4 (by decide) mw_39 (atC_3 _ _ _) rfl d_T_build_32 ?_
    refine x_iconst (pc := 35) (v := 0) X d_T_build_35 (by decide) ?_
    refine x_iload_n (pc := 36) X d_T_build_36 2 rfl ?_
    obtain ⟨h2, hw⟩ := hw
    refine x_copy (pc := 37) (ws' := (wC (zI Z) q (uA (us (us σ1 4 (σ1.1 2)) 5 r1) 1 (va_cpy ((us (us σ1 4 (σ1.1 2)) 5 r1).2 2) ((us (us σ1 4 (σ1.1 2)) 5 r1).2 1) ((0 : Int32).toNatClampNeg) ((0 : Int32).toNatClampNeg) r1.toNatClampNeg)))) X mw_40 mw_41 mw_42 mw_43 5 4 (atC_5 _ _ _) (atC_4 _ _ _) h2 (Nat.le_of_ble_eq_true rfl) (Nat.le_of_ble_eq_true rfl) (stC_4 _ _ _ _) d_T_build_37 ?_
    refine x_aload_n (pc := 40) X d_T_build_40 0 rfl ?_
    refine x_aload_n (pc := 41) X d_T_build_41 1 rfl ?_
    refine x_cvv (pc := 42) X [.ref (q 1)] (c_T_laySteps_1 (zl Z) (zD Z) (zI Z) q (uA (us (us σ1 4 (σ1.1 2)) 5 r1) 1 (va_cpy ((us (us σ1 4 (σ1.1 2)) 5 r1).2 2) ((us (us σ1 4 (σ1.1 2)) 5 r1).2 1) ((0 : Int32).toNatClampNeg) ((0 : Int32).toNatClampNeg) r1.toNatClampNeg)) _ hw) mv_T_laySteps tb_T 3 (atC_3 _ _ _) mw_45 d_T_build_42 rfl (Nat.le_of_ble_eq_true rfl) ⟨Nat.le_of_ble_eq_true rfl, Nat.le_of_ble_eq_true rfl⟩ ⟨rfl, rfl⟩ ⟨Nat.zero_le _, Nat.zero_le _⟩ ?_
    intro σ3 hw
    refine x_aload_n (pc := 45) X d_T_build_45 0 rfl ?_
    refine x_cvv (pc := 46) X [] (c_T_partSets (zl Z) (zD Z) (zI Z) q σ3 _ hw) mv_T_partSets tb_T 3 (atC_3 _ _ _) mw_65 d_T_build_46 rfl (Nat.le_of_ble_eq_true rfl) ⟨Nat.le_of_ble_eq_true rfl, Nat.le_of_ble_eq_true rfl⟩ ⟨rfl, rfl⟩ ⟨Nat.zero_le _, Nat.zero_le _⟩ ?_
    intro σ4 hw
    refine x_aload_n (pc := 49) X d_T_build_49 0 rfl ?_
    refine x_cvv (pc := 50) X [] (c_T_numberStates (zl Z) (zD Z) (zI Z) q σ4 _ hw) mv_T_numberStates tb_T 3 (atC_3 _ _ _) mw_69 d_T_build_50 rfl (Nat.le_of_ble_eq_true rfl) ⟨Nat.le_of_ble_eq_true rfl, Nat.le_of_ble_eq_true rfl⟩ ⟨rfl, rfl⟩ ⟨Nat.zero_le _, Nat.zero_le _⟩ ?_
    intro σ5 hw
    refine x_iconst (pc := 53) (v := 1) X d_T_build_53 (by decide) ?_
    exact hR _ _ _ _ d_T_build_54 rfl hw
  · have hw := hw.2 c
    refine x_iconst (pc := 11) (v := 0) X d_T_build_11 (by decide) ?_
    exact hR _ _ _ _ d_T_build_12 rfl hw
def rm_W_make : Room := { frames := 6, cells := 0, slots := 0, locals := 136 }
set_option maxHeartbeats 4000000 in
set_option maxRecDepth 100000 in
theorem c_W_make (l : Launch) (D : va_G) (cI : ClassId) (q : Nat → Nat) (σ : St) (post : Int32 → St → Prop) (hw : wp_W_make σ post) : CI l D cI (wC cI q) y_W_make b_W_make 1 .int rm_W_make [.ref (q 0)] σ post := by
  refine CI_of (by decide) (Nat.le_of_ble_eq_true rfl) ?_
  intro Z hZl hZD hZI X hR
  subst hZl; subst hZD; subst hZI
  unfold wp_W_make at hw
  show VV Z 0 0 (wC (zI Z) q σ) [(0, .ref (q 0))] 0 []
  refine x_aload_n (pc := 0) X d_W_make_0 0 rfl ?_
  refine x_get (pc := 1) X tb_W 0 1 (by decide) mw_30 (atC_0 _ _ _) rfl d_W_make_1 ?_
  refine x_aload_n (pc := 4) X d_W_make_4 0 rfl ?_
  refine x_get (pc := 5) X tb_W 0 0 (by decide) mw_0 (atC_0 _ _ _) rfl d_W_make_5 ?_
  refine x_cni (pc := 8) X [.ref (q 1)] (c_T_build_1 (zl Z) (zD Z) (zI Z) q σ _ hw) mv_T_build tb_T 3 (atC_3 _ _ _) nw_70 d_W_make_8 rfl (Nat.le_of_ble_eq_true rfl) ⟨Nat.le_of_ble_eq_true rfl, Nat.le_of_ble_eq_true rfl⟩ ⟨rfl, rfl⟩ ⟨Nat.zero_le _, Nat.zero_le _⟩ ?_
  intro r1 σ1 hw
  refine x_if_ne (pc := 11) (tgt := 16) X d_W_make_11 (by decide) (fun c => ?_) (fun c => ?_)
  · have hw := hw.1 c
    refine x_aload_n (pc := 16) X d_W_make_16 0 rfl ?_
    refine x_iconst (pc := 17) (v := 0) X d_W_make_17 (by decide) ?_
    refine x_put (pc := 18) (ws' := (wC (zI Z) q (us σ1 0 0))) X tb_W 0 2 (by decide) mw_71 (atC_0 _ _ _) rfl pI (Nat.le_of_ble_eq_true rfl) (ptC_0 _ _ _ _) d_W_make_18 ?_
    refine x_aload_n (pc := 21) X d_W_make_21 0 rfl ?_
    refine x_get (pc := 22) X tb_W 0 1 (by decide) mw_30 (atC_0 _ _ _) rfl d_W_make_22 ?_
    refine x_getN (pc := 25) X tb_T 3 2 (by decide) nw_72 (atC_3 _ _ _) rfl d_W_make_25 ?_
    exact hR _ _ _ _ d_W_make_28 (vp_nar_int _) hw
  · have hw := hw.2 c
    refine x_iconst (pc := 14) (v := (-1)) X d_W_make_14 (by decide) ?_
    exact hR _ _ _ _ d_W_make_15 (vp_nar_int _) hw
def rm_M_led : Room := { frames := 0, cells := 0, slots := 0, locals := 0 }
set_option maxHeartbeats 4000000 in
set_option maxRecDepth 100000 in
theorem wL_M_led_5 {Z : ZT} {q : Nat → Nat} {post : Int32 → St → Prop} (X : Cx Z "WayTableModel" b_M_led rm_M_led 5) (hR : RI Z b_M_led .int (wM (zI Z) q) post) : ∀ (n : Nat) (x1 x2 x3 x4 : Int32) (σ : St), L_M_led_5 post n x1 x2 x3 x4 σ → VV Z 0 0 (wM (zI Z) q σ) [(0, .ref (q 0)), (1, .int x1), (2, .int x2), (3, .int x3), (4, .int x4)] 5 [] := by
  intro n
  induction n with
  | zero => intro x1 x2 x3 x4 σ hw; exact False.elim hw
  | succ n ih =>
    intro x1 x2 x3 x4 σ hw
    unfold L_M_led_5 at hw
    refine x_iload (pc := 5) X d_M_led_5 4 rfl ?_
    refine x_aload_n (pc := 7) X d_M_led_7 0 rfl ?_
    refine x_get (pc := 8) X tb_M 0 1 (by decide) mw_8 (atM_0 _ _ _) rfl d_M_led_8 ?_
    refine x_icmp_ge (pc := 11) (tgt := 49) X d_M_led_11 (by decide) (fun c => ?_) (fun c => ?_)
    · have hw := hw.1 c
      refine x_iload_n (pc := 49) X d_M_led_49 3 rfl ?_
      exact hR _ _ _ _ d_M_led_50 (vp_nar_int _) hw
    · have hw := hw.2 c
      refine x_iload_n (pc := 14) X d_M_led_14 3 rfl ?_
      refine x_iload_n (pc := 15) X d_M_led_15 1 rfl ?_
      refine x_iload (pc := 16) X d_M_led_16 4 rfl ?_
      refine x_ishr (pc := 18) X d_M_led_18 ?_
      refine x_iconst (pc := 19) (v := 1) X d_M_led_19 (by decide) ?_
      refine x_iand (pc := 20) X d_M_led_20 ?_
      refine x_iconst (pc := 21) (v := 1) X d_M_led_21 (by decide) ?_
      refine x_icmp_ne (pc := 22) (tgt := 40) X d_M_led_22 (by decide) (fun c => ?_) (fun c => ?_)
      · have hw := hw.1 c
        refine x_iconst (pc := 40) (v := 0) X d_M_led_40 (by decide) ?_
        refine x_ior (pc := 41) X d_M_led_41 ?_
        refine x_istore_n (pc := 42) (lv' := [(0, .ref (q 0)), (1, .int x1), (2, .int x2), (3, .int (x3 ||| 0)), (4, .int x4)]) X d_M_led_42 (by decide) [1, 2, 3, 0, 4] rfl ?_
        refine x_iinc (pc := 43) (d := 1) (lv' := [(0, .ref (q 0)), (1, .int x1), (2, .int x2), (3, .int (x3 ||| 0)), (4, .int (x4 + 1))]) X d_M_led_43 4 rfl (by decide) (by decide) [1, 2, 3, 4, 0] rfl ?_
        refine x_goto (pc := 46) (tgt := 5) X d_M_led_46 (by decide) ?_
        exact ih x1 x2 (x3 ||| 0) (x4 + 1) σ hw
      · have hw := hw.2 c
        refine x_aload_n (pc := 25) X d_M_led_25 0 rfl ?_
        refine x_get (pc := 26) X tb_M 0 4 (by decide) mw_11 (atM_0 _ _ _) rfl d_M_led_26 ?_
        refine x_bipush (pc := 29) (v := (nI 24)) X d_M_led_29 (by decide) ?_
        refine x_iload_n (pc := 31) X d_M_led_31 2 rfl ?_
        refine x_imul (pc := 32) X d_M_led_32 ?_
        refine x_iload (pc := 33) X d_M_led_33 4 rfl ?_
        refine x_iadd (pc := 35) X d_M_led_35 ?_
        obtain ⟨h1, hw⟩ := hw
        refine x_iald (pc := 36) X 1 (atM_1 _ _ _) h1 d_M_led_36 ?_
        refine x_goto (pc := 37) (tgt := 41) X d_M_led_37 (by decide) ?_
        refine x_ior (pc := 41) X d_M_led_41 ?_
        refine x_istore_n (pc := 42) (lv' := [(0, .ref (q 0)), (1, .int x1), (2, .int x2), (3, .int (x3 ||| (σ.2 0 (((nI 24) * x2) + x4).toNatClampNeg))), (4, .int x4)]) X d_M_led_42 (by decide) [1, 2, 3, 0, 4] rfl ?_
        refine x_iinc (pc := 43) (d := 1) (lv' := [(0, .ref (q 0)), (1, .int x1), (2, .int x2), (3, .int (x3 ||| (σ.2 0 (((nI 24) * x2) + x4).toNatClampNeg))), (4, .int (x4 + 1))]) X d_M_led_43 4 rfl (by decide) (by decide) [1, 2, 3, 4, 0] rfl ?_
        refine x_goto (pc := 46) (tgt := 5) X d_M_led_46 (by decide) ?_
        exact ih x1 x2 (x3 ||| (σ.2 0 (((nI 24) * x2) + x4).toNatClampNeg)) (x4 + 1) σ hw
set_option maxHeartbeats 4000000 in
set_option maxRecDepth 100000 in
theorem c_M_led (l : Launch) (D : va_G) (cI : ClassId) (q : Nat → Nat) (σ : St) (x1 x2 : Int32) (post : Int32 → St → Prop) (hw : wp_M_led x1 x2 σ post) : CI l D cI (wM cI q) y_M_led b_M_led 5 .int rm_M_led [.ref (q 0), .int x1, .int x2] σ post := by
  refine CI_of (by decide) (Nat.le_of_ble_eq_true rfl) ?_
  intro Z hZl hZD hZI X hR
  subst hZl; subst hZD; subst hZI
  unfold wp_M_led at hw
  show VV Z 0 0 (wM (zI Z) q σ) [(0, .ref (q 0)), (1, .int x1), (2, .int x2)] 0 []
  refine x_iconst (pc := 0) (v := 0) X d_M_led_0 (by decide) ?_
  refine x_istore_n (pc := 1) (lv' := [(0, .ref (q 0)), (1, .int x1), (2, .int x2), (3, .int 0)]) X d_M_led_1 (by decide) [1, 2, 3, 0] rfl ?_
  refine x_iconst (pc := 2) (v := 0) X d_M_led_2 (by decide) ?_
  refine x_istore (pc := 3) (lv' := [(0, .ref (q 0)), (1, .int x1), (2, .int x2), (3, .int 0), (4, .int 0)]) X d_M_led_3 (by decide) [1, 2, 3, 4, 0] rfl ?_
  obtain ⟨n2, hw⟩ := hw
  exact wL_M_led_5 X hR n2 x1 x2 0 0 σ hw
