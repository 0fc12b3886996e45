def rm_M_wayMany : Room := { frames := 0, cells := 0, slots := 0, locals := 0 }
set_option maxHeartbeats 4000000 in
set_option maxRecDepth 100000 in
theorem wL_M_wayMany_17 {Z : ZT} {q : Nat → Nat} {post : Int32 → St → Prop} {K : Int32 → Int32 → St → Prop} (X : Cx Z "WayTableModel" b_M_wayMany rm_M_wayMany 4) (hR : RI Z b_M_wayMany .int (wM (zI Z) q) post) (hK : ∀ (x1 x2 : Int32) (σ : St), K x1 x2 σ → VV Z 0 0 (wM (zI Z) q σ) [(0, .ref (q 0)), (1, .int x1), (2, .int x2)] 4 []) : ∀ (n : Nat) (x1 x2 x3 : Int32) (σ : St), L_M_wayMany_17 post K n x1 x2 x3 σ → VV Z 0 0 (wM (zI Z) q σ) [(0, .ref (q 0)), (1, .int x1), (2, .int x2), (3, .int x3)] 17 [] := by
  intro n
  induction n with
  | zero => intro x1 x2 x3 σ hw; exact False.elim hw
  | succ n ih =>
    intro x1 x2 x3 σ hw
    unfold L_M_wayMany_17 at hw
    refine x_iload_n (pc := 17) X d_M_wayMany_17 3 rfl ?_
    refine x_aload_n (pc := 18) X d_M_wayMany_18 0 rfl ?_
    refine x_get (pc := 19) X tb_M 0 1 (by decide) mw_8 (atM_0 _ _ _) rfl d_M_wayMany_19 ?_
    refine x_icmp_ge (pc := 22) (tgt := 44) X d_M_wayMany_22 (by decide) (fun c => ?_) (fun c => ?_)
    · have hw := hw.1 c
      refine x_iinc (pc := 44) (d := 1) (lv' := [(0, .ref (q 0)), (1, .int x1), (2, .int (x2 + 1)), (3, .int x3)]) X d_M_wayMany_44 2 rfl (by decide) (by decide) [1, 2, 0, 3] rfl ?_
      refine x_goto (pc := 47) (tgt := 4) X d_M_wayMany_47 (by decide) ?_
      refine x_drop [0, 1, 2] rfl ?_
      exact hK x1 (x2 + 1) σ hw
    · have hw := hw.2 c
      refine x_iload_n (pc := 25) X d_M_wayMany_25 1 rfl ?_
      refine x_aload_n (pc := 26) X d_M_wayMany_26 0 rfl ?_
      refine x_get (pc := 27) X tb_M 0 4 (by decide) mw_11 (atM_0 _ _ _) rfl d_M_wayMany_27 ?_
      refine x_iload_n (pc := 30) X d_M_wayMany_30 2 rfl ?_
      obtain ⟨h1, hw⟩ := hw
      refine x_iald (pc := 31) X 1 (atM_1 _ _ _) h1 d_M_wayMany_31 ?_
      refine x_iload_n (pc := 32) X d_M_wayMany_32 3 rfl ?_
      refine x_ishr (pc := 33) X d_M_wayMany_33 ?_
      refine x_iconst (pc := 34) (v := 1) X d_M_wayMany_34 (by decide) ?_
      refine x_iand (pc := 35) X d_M_wayMany_35 ?_
      refine x_iadd (pc := 36) X d_M_wayMany_36 ?_
      refine x_istore_n (pc := 37) (lv' := [(0, .ref (q 0)), (1, .int (x1 + (((σ.2 0 x2.toNatClampNeg) >>> (x3 &&& 31)) &&& 1))), (2, .int x2), (3, .int x3)]) X d_M_wayMany_37 (by decide) [1, 0, 2, 3] rfl ?_
      refine x_iinc (pc := 38) (d := 1) (lv' := [(0, .ref (q 0)), (1, .int (x1 + (((σ.2 0 x2.toNatClampNeg) >>> (x3 &&& 31)) &&& 1))), (2, .int x2), (3, .int (x3 + 1))]) X d_M_wayMany_38 3 rfl (by decide) (by decide) [1, 2, 3, 0] rfl ?_
      refine x_goto (pc := 41) (tgt := 17) X d_M_wayMany_41 (by decide) ?_
      exact ih (x1 + (((σ.2 0 x2.toNatClampNeg) >>> (x3 &&& 31)) &&& 1)) x2 (x3 + 1) σ hw
set_option maxHeartbeats 4000000 in
set_option maxRecDepth 100000 in
theorem wL_M_wayMany_4 {Z : ZT} {q : Nat → Nat} {post : Int32 → St → Prop} (X : Cx Z "WayTableModel" b_M_wayMany rm_M_wayMany 4) (hR : RI Z b_M_wayMany .int (wM (zI Z) q) post) : ∀ (n : Nat) (x1 x2 : Int32) (σ : St), L_M_wayMany_4 post n x1 x2 σ → VV Z 0 0 (wM (zI Z) q σ) [(0, .ref (q 0)), (1, .int x1), (2, .int x2)] 4 [] := by
  intro n
  induction n with
  | zero => intro x1 x2 σ hw; exact False.elim hw
  | succ n ih =>
    intro x1 x2 σ hw
    unfold L_M_wayMany_4 at hw
    refine x_iload_n (pc := 4) X d_M_wayMany_4 2 rfl ?_
    refine x_bipush (pc := 5) (v := (nI 24)) X d_M_wayMany_5 (by decide) ?_
    refine x_aload_n (pc := 7) X d_M_wayMany_7 0 rfl ?_
    refine x_get (pc := 8) X tb_M 0 2 (by decide) mw_9 (atM_0 _ _ _) rfl d_M_wayMany_8 ?_
    refine x_imul (pc := 11) X d_M_wayMany_11 ?_
    refine x_icmp_ge (pc := 12) (tgt := 50) X d_M_wayMany_12 (by decide) (fun c => ?_) (fun c => ?_)
    · have hw := hw.1 c
      refine x_iload_n (pc := 50) X d_M_wayMany_50 1 rfl ?_
      exact hR _ _ _ _ d_M_wayMany_51 (vp_nar_int _) hw
    · have hw := hw.2 c
      refine x_iconst (pc := 15) (v := 0) X d_M_wayMany_15 (by decide) ?_
      refine x_istore_n (pc := 16) (lv' := [(0, .ref (q 0)), (1, .int x1), (2, .int x2), (3, .int 0)]) X d_M_wayMany_16 (by decide) [1, 2, 3, 0] rfl ?_
      obtain ⟨n2, hw⟩ := hw
      exact wL_M_wayMany_17 X hR ih n2 x1 x2 0 σ hw
set_option maxHeartbeats 4000000 in
set_option maxRecDepth 100000 in
theorem c_M_wayMany (l : Launch) (D : va_G) (cI : ClassId) (q : Nat → Nat) (σ : St) (post : Int32 → St → Prop) (hw : wp_M_wayMany σ post) : CI l D cI (wM cI q) y_M_wayMany b_M_wayMany 4 .int rm_M_wayMany [.ref (q 0)] σ post := by
  refine CI_of (by decide) (Nat.le_of_ble_eq_true rfl) ?_
  intro Z hZl hZD hZI X hR
  subst hZl; subst hZD; subst hZI
  unfold wp_M_wayMany at hw
  show VV Z 0 0 (wM (zI Z) q σ) [(0, .ref (q 0))] 0 []
  refine x_iconst (pc := 0) (v := 0) X d_M_wayMany_0 (by decide) ?_
  refine x_istore_n (pc := 1) (lv' := [(0, .ref (q 0)), (1, .int 0)]) X d_M_wayMany_1 (by decide) [1, 0] rfl ?_
  refine x_iconst (pc := 2) (v := 0) X d_M_wayMany_2 (by decide) ?_
  refine x_istore_n (pc := 3) (lv' := [(0, .ref (q 0)), (1, .int 0), (2, .int 0)]) X d_M_wayMany_3 (by decide) [1, 2, 0] rfl ?_
  obtain ⟨n2, hw⟩ := hw
  exact wL_M_wayMany_4 X hR n2 0 0 σ hw
def rm_M_somewhere : Room := { frames := 1, cells := 0, slots := 0, locals := 23 }
set_option maxHeartbeats 4000000 in
set_option maxRecDepth 100000 in
theorem wL_M_somewhere_14 {Z : ZT} {q : Nat → Nat} {post : Int32 → St → Prop} {K : Int32 → Int32 → St → Prop} (X : Cx Z "WayTableModel" b_M_somewhere rm_M_somewhere 4) (hR : RI Z b_M_somewhere .int (wM (zI Z) q) post) (hK : ∀ (x1 x2 : Int32) (σ : St), K x1 x2 σ → VV Z 0 0 (wM (zI Z) q σ) [(0, .ref (q 0)), (1, .int x1), (2, .int x2)] 4 []) : ∀ (n : Nat) (x1 x2 x3 : Int32) (σ : St), L_M_somewhere_14 post K n x1 x2 x3 σ → VV Z 0 0 (wM (zI Z) q σ) [(0, .ref (q 0)), (1, .int x1), (2, .int x2), (3, .int x3)] 14 [] := by
  intro n
  induction n with
  | zero => intro x1 x2 x3 σ hw; exact False.elim hw
  | succ n ih =>
    intro x1 x2 x3 σ hw
    unfold L_M_somewhere_14 at hw
    refine x_iload_n (pc := 14) X d_M_somewhere_14 3 rfl ?_
    refine x_aload_n (pc := 15) X d_M_somewhere_15 0 rfl ?_
    refine x_get (pc := 16) X tb_M 0 6 (by decide) mw_78 (atM_0 _ _ _) rfl d_M_somewhere_16 ?_
    refine x_icmp_ge (pc := 19) (tgt := 45) X d_M_somewhere_19 (by decide) (fun c => ?_) (fun c => ?_)
    · have hw := hw.1 c
      refine x_iinc (pc := 45) (d := 1) (lv' := [(0, .ref (q 0)), (1, .int x1), (2, .int (x2 + 1)), (3, .int x3)]) X d_M_somewhere_45 2 rfl (by decide) (by decide) [1, 2, 0, 3] rfl ?_
      refine x_goto (pc := 48) (tgt := 4) X d_M_somewhere_48 (by decide) ?_
      refine x_drop [0, 1, 2] rfl ?_
      exact hK x1 (x2 + 1) σ hw
    · have hw := hw.2 c
      refine x_iload_n (pc := 22) X d_M_somewhere_22 1 rfl ?_
      refine x_aload_n (pc := 23) X d_M_somewhere_23 0 rfl ?_
      refine x_iload_n (pc := 24) X d_M_somewhere_24 2 rfl ?_
      refine x_iload_n (pc := 25) X d_M_somewhere_25 3 rfl ?_
      refine x_cvi (pc := 26) X [.int x2, .int x3] (c_M_next (zl Z) (zD Z) (zI Z) q σ x2 x3 _ hw) mv_M_next tb_M 0 (atM_0 _ _ _) mw_93 d_M_somewhere_26 rfl (Nat.le_of_ble_eq_true rfl) ⟨Nat.le_of_ble_eq_true rfl, Nat.le_of_ble_eq_true rfl⟩ ⟨rfl, rfl⟩ ⟨Nat.zero_le _, Nat.zero_le _⟩ ?_
      intro r1 σ1 hw
      refine x_if_lt (pc := 29) (tgt := 36) X d_M_somewhere_29 (by decide) (fun c => ?_) (fun c => ?_)
      · have hw := hw.1 c
        refine x_iconst (pc := 36) (v := 0) X d_M_somewhere_36 (by decide) ?_
        refine x_iadd (pc := 37) X d_M_somewhere_37 ?_
        refine x_istore_n (pc := 38) (lv' := [(0, .ref (q 0)), (1, .int (x1 + 0)), (2, .int x2), (3, .int x3)]) X d_M_somewhere_38 (by decide) [1, 0, 2, 3] rfl ?_
        refine x_iinc (pc := 39) (d := 1) (lv' := [(0, .ref (q 0)), (1, .int (x1 + 0)), (2, .int x2), (3, .int (x3 + 1))]) X d_M_somewhere_39 3 rfl (by decide) (by decide) [1, 2, 3, 0] rfl ?_
        refine x_goto (pc := 42) (tgt := 14) X d_M_somewhere_42 (by decide) ?_
        exact ih (x1 + 0) x2 (x3 + 1) σ1 hw
      · have hw := hw.2 c
        refine x_iconst (pc := 32) (v := 1) X d_M_somewhere_32 (by decide) ?_
        refine x_goto (pc := 33) (tgt := 37) X d_M_somewhere_33 (by decide) ?_
        refine x_iadd (pc := 37) X d_M_somewhere_37 ?_
        refine x_istore_n (pc := 38) (lv' := [(0, .ref (q 0)), (1, .int (x1 + 1)), (2, .int x2), (3, .int x3)]) X d_M_somewhere_38 (by decide) [1, 0, 2, 3] rfl ?_
        refine x_iinc (pc := 39) (d := 1) (lv' := [(0, .ref (q 0)), (1, .int (x1 + 1)), (2, .int x2), (3, .int (x3 + 1))]) X d_M_somewhere_39 3 rfl (by decide) (by decide) [1, 2, 3, 0] rfl ?_
        refine x_goto (pc := 42) (tgt := 14) X d_M_somewhere_42 (by decide) ?_
        exact ih (x1 + 1) x2 (x3 + 1) σ1 hw
set_option maxHeartbeats 4000000 in
set_option maxRecDepth 100000 in
theorem wL_M_somewhere_4 {Z : ZT} {q : Nat → Nat} {post : Int32 → St → Prop} (X : Cx Z "WayTableModel" b_M_somewhere rm_M_somewhere 4) (hR : RI Z b_M_somewhere .int (wM (zI Z) q) post) : ∀ (n : Nat) (x1 x2 : Int32) (σ : St), L_M_somewhere_4 post n x1 x2 σ → VV Z 0 0 (wM (zI Z) q σ) [(0, .ref (q 0)), (1, .int x1), (2, .int x2)] 4 [] := by
  intro n
  induction n with
  | zero => intro x1 x2 σ hw; exact False.elim hw
  | succ n ih =>
    intro x1 x2 σ hw
    unfold L_M_somewhere_4 at hw
    refine x_iload_n (pc := 4) X d_M_somewhere_4 2 rfl ?_
    refine x_aload_n (pc := 5) X d_M_somewhere_5 0 rfl ?_
    refine x_get (pc := 6) X tb_M 0 13 (by decide) mw_85 (atM_0 _ _ _) rfl d_M_somewhere_6 ?_
    refine x_icmp_ge (pc := 9) (tgt := 51) X d_M_somewhere_9 (by decide) (fun c => ?_) (fun c => ?_)
    · have hw := hw.1 c
      refine x_iload_n (pc := 51) X d_M_somewhere_51 1 rfl ?_
      exact hR _ _ _ _ d_M_somewhere_52 (vp_nar_int _) hw
    · have hw := hw.2 c
      refine x_iconst (pc := 12) (v := 0) X d_M_somewhere_12 (by decide) ?_
      refine x_istore_n (pc := 13) (lv' := [(0, .ref (q 0)), (1, .int x1), (2, .int x2), (3, .int 0)]) X d_M_somewhere_13 (by decide) [1, 2, 3, 0] rfl ?_
      obtain ⟨n2, hw⟩ := hw
      exact wL_M_somewhere_14 X hR ih n2 x1 x2 0 σ hw
set_option maxHeartbeats 4000000 in
set_option maxRecDepth 100000 in
theorem c_M_somewhere (l : Launch) (D : va_G) (cI : ClassId) (q : Nat → Nat) (σ : St) (post : Int32 → St → Prop) (hw : wp_M_somewhere σ post) : CI l D cI (wM cI q) y_M_somewhere b_M_somewhere 4 .int rm_M_somewhere [.ref (q 0)] σ post := by
  refine CI_of (by decide) (Nat.le_of_ble_eq_true rfl) ?_
  intro Z hZl hZD hZI X hR
  subst hZl; subst hZD; subst hZI
  unfold wp_M_somewhere at hw
  show VV Z 0 0 (wM (zI Z) q σ) [(0, .ref (q 0))] 0 []
  refine x_iconst (pc := 0) (v := 0) X d_M_somewhere_0 (by decide) ?_
  refine x_istore_n (pc := 1) (lv' := [(0, .ref (q 0)), (1, .int 0)]) X d_M_somewhere_1 (by decide) [1, 0] rfl ?_
  refine x_iconst (pc := 2) (v := 0) X d_M_somewhere_2 (by decide) ?_
  refine x_istore_n (pc := 3) (lv' := [(0, .ref (q 0)), (1, .int 0), (2, .int 0)]) X d_M_somewhere_3 (by decide) [1, 2, 0] rfl ?_
  obtain ⟨n2, hw⟩ := hw
  exact wL_M_somewhere_4 X hR n2 0 0 σ hw
def rm_M_longest : Room := { frames := 0, cells := 0, slots := 0, locals := 0 }
set_option maxHeartbeats 4000000 in
set_option maxRecDepth 100000 in
theorem wL_M_longest_14 {Z : ZT} {q : Nat → Nat} {post : Int32 → St → Prop} {K : Int32 → Int32 → St → Prop} (X : Cx Z "WayTableModel" b_M_longest rm_M_longest 5) (hR : RI Z b_M_longest .int (wM (zI Z) q) post) (hK : ∀ (x1 x2 : Int32) (σ : St), K x1 x2 σ → VV Z 0 0 (wM (zI Z) q σ) [(0, .ref (q 0)), (1, .int x1), (2, .int x2)] 4 []) : ∀ (n : Nat) (x1 x2 x3 : Int32) (σ : St), L_M_longest_14 post K n x1 x2 x3 σ → VV Z 0 0 (wM (zI Z) q σ) [(0, .ref (q 0)), (1, .int x1), (2, .int x2), (3, .int x3)] 14 [] := by
  intro n
  induction n with
  | zero => intro x1 x2 x3 σ hw; exact False.elim hw
  | succ n ih =>
    intro x1 x2 x3 σ hw
    unfold L_M_longest_14 at hw
    refine x_iload_n (pc := 14) X d_M_longest_14 3 rfl ?_
    refine x_iload_n (pc := 15) X d_M_longest_15 2 rfl ?_
    refine x_icmp_ge (pc := 16) (tgt := 61) X d_M_longest_16 (by decide) (fun c => ?_) (fun c => ?_)
    · have hw := hw.1 c
      refine x_iinc (pc := 61) (d := 1) (lv' := [(0, .ref (q 0)), (1, .int x1), (2, .int (x2 + 1)), (3, .int x3)]) X d_M_longest_61 2 rfl (by decide) (by decide) [1, 2, 0, 3] rfl ?_
      refine x_goto (pc := 64) (tgt := 4) X d_M_longest_64 (by decide) ?_
      refine x_drop [0, 1, 2] rfl ?_
      exact hK x1 (x2 + 1) σ hw
    · have hw := hw.2 c
      refine x_aload_n (pc := 19) X d_M_longest_19 0 rfl ?_
      refine x_get (pc := 20) X tb_M 0 9 (by decide) mw_79 (atM_0 _ _ _) rfl d_M_longest_20 ?_
      refine x_bipush (pc := 23) (v := (nI 120)) X d_M_longest_23 (by decide) ?_
      refine x_aload_n (pc := 25) X d_M_longest_25 0 rfl ?_
      refine x_get (pc := 26) X tb_M 0 12 (by decide) mw_84 (atM_0 _ _ _) rfl d_M_longest_26 ?_
      refine x_iload_n (pc := 29) X d_M_longest_29 2 rfl ?_
      obtain ⟨h1, hw⟩ := hw
      refine x_iald (pc := 30) X 7 (atM_7 _ _ _) h1 d_M_longest_30 ?_
      refine x_imul (pc := 31) X d_M_longest_31 ?_
      refine x_aload_n (pc := 32) X d_M_longest_32 0 rfl ?_
      refine x_get (pc := 33) X tb_M 0 12 (by decide) mw_84 (atM_0 _ _ _) rfl d_M_longest_33 ?_
      refine x_iload_n (pc := 36) X d_M_longest_36 3 rfl ?_
      obtain ⟨h2, hw⟩ := hw
      refine x_iald (pc := 37) X 7 (atM_7 _ _ _) h2 d_M_longest_37 ?_
      refine x_iadd (pc := 38) X d_M_longest_38 ?_
      obtain ⟨h3, hw⟩ := hw
      refine x_iald (pc := 39) X 4 (atM_4 _ _ _) h3 d_M_longest_39 ?_
      refine x_istore (pc := 40) (lv' := [(0, .ref (q 0)), (1, .int x1), (2, .int x2), (3, .int x3), (4, .int (σ.2 3 (((nI 120) * (σ.2 6 x2.toNatClampNeg)) + (σ.2 6 x3.toNatClampNeg)).toNatClampNeg))]) X d_M_longest_40 (by decide) [1, 2, 3, 4, 0] rfl ?_
      refine x_iload (pc := 42) X d_M_longest_42 4 rfl ?_
      refine x_iload_n (pc := 44) X d_M_longest_44 1 rfl ?_
      refine x_icmp_le (pc := 45) (tgt := 53) X d_M_longest_45 (by decide) (fun c => ?_) (fun c => ?_)
      · have hw := hw.1 c
        refine x_iload_n (pc := 53) X d_M_longest_53 1 rfl ?_
        refine x_istore_n (pc := 54) (lv' := [(0, .ref (q 0)), (1, .int x1), (2, .int x2), (3, .int x3), (4, .int (σ.2 3 (((nI 120) * (σ.2 6 x2.toNatClampNeg)) + (σ.2 6 x3.toNatClampNeg)).toNatClampNeg))]) X d_M_longest_54 (by decide) [1, 0, 2, 3, 4] rfl ?_
        refine x_iinc (pc := 55) (d := 1) (lv' := [(0, .ref (q 0)), (1, .int x1), (2, .int x2), (3, .int (x3 + 1)), (4, .int (σ.2 3 (((nI 120) * (σ.2 6 x2.toNatClampNeg)) + (σ.2 6 x3.toNatClampNeg)).toNatClampNeg))]) X d_M_longest_55 3 rfl (by decide) (by decide) [1, 2, 3, 0, 4] rfl ?_
        refine x_goto (pc := 58) (tgt := 14) X d_M_longest_58 (by decide) ?_
        refine x_drop [0, 1, 2, 3] rfl ?_
        exact ih x1 x2 (x3 + 1) σ hw
      · have hw := hw.2 c
        refine x_iload (pc := 48) X d_M_longest_48 4 rfl ?_
        refine x_goto (pc := 50) (tgt := 54) X d_M_longest_50 (by decide) ?_
        refine x_istore_n (pc := 54) (lv' := [(0, .ref (q 0)), (1, .int (σ.2 3 (((nI 120) * (σ.2 6 x2.toNatClampNeg)) + (σ.2 6 x3.toNatClampNeg)).toNatClampNeg)), (2, .int x2), (3, .int x3), (4, .int (σ.2 3 (((nI 120) * (σ.2 6 x2.toNatClampNeg)) + (σ.2 6 x3.toNatClampNeg)).toNatClampNeg))]) X d_M_longest_54 (by decide) [1, 0, 2, 3, 4] rfl ?_
        refine x_iinc (pc := 55) (d := 1) (lv' := [(0, .ref (q 0)), (1, .int (σ.2 3 (((nI 120) * (σ.2 6 x2.toNatClampNeg)) + (σ.2 6 x3.toNatClampNeg)).toNatClampNeg)), (2, .int x2), (3, .int (x3 + 1)), (4, .int (σ.2 3 (((nI 120) * (σ.2 6 x2.toNatClampNeg)) + (σ.2 6 x3.toNatClampNeg)).toNatClampNeg))]) X d_M_longest_55 3 rfl (by decide) (by decide) [1, 2, 3, 0, 4] rfl ?_
        refine x_goto (pc := 58) (tgt := 14) X d_M_longest_58 (by decide) ?_
        refine x_drop [0, 1, 2, 3] rfl ?_
        exact ih (σ.2 3 (((nI 120) * (σ.2 6 x2.toNatClampNeg)) + (σ.2 6 x3.toNatClampNeg)).toNatClampNeg) x2 (x3 + 1) σ hw
set_option maxHeartbeats 4000000 in
set_option maxRecDepth 100000 in
theorem wL_M_longest_4 {Z : ZT} {q : Nat → Nat} {post : Int32 → St → Prop} (X : Cx Z "WayTableModel" b_M_longest rm_M_longest 5) (hR : RI Z b_M_longest .int (wM (zI Z) q) post) : ∀ (n : Nat) (x1 x2 : Int32) (σ : St), L_M_longest_4 post n x1 x2 σ → VV Z 0 0 (wM (zI Z) q σ) [(0, .ref (q 0)), (1, .int x1), (2, .int x2)] 4 [] := by
  intro n
  induction n with
  | zero => intro x1 x2 σ hw; exact False.elim hw
  | succ n ih =>
    intro x1 x2 σ hw
    unfold L_M_longest_4 at hw
    refine x_iload_n (pc := 4) X d_M_longest_4 2 rfl ?_
    refine x_aload_n (pc := 5) X d_M_longest_5 0 rfl ?_
    refine x_get (pc := 6) X tb_M 0 13 (by decide) mw_85 (atM_0 _ _ _) rfl d_M_longest_6 ?_
    refine x_icmp_ge (pc := 9) (tgt := 67) X d_M_longest_9 (by decide) (fun c => ?_) (fun c => ?_)
    · have hw := hw.1 c
      refine x_iload_n (pc := 67) X d_M_longest_67 1 rfl ?_
      exact hR _ _ _ _ d_M_longest_68 (vp_nar_int _) hw
    · have hw := hw.2 c
      refine x_iconst (pc := 12) (v := 0) X d_M_longest_12 (by decide) ?_
      refine x_istore_n (pc := 13) (lv' := [(0, .ref (q 0)), (1, .int x1), (2, .int x2), (3, .int 0)]) X d_M_longest_13 (by decide) [1, 2, 3, 0] rfl ?_
      obtain ⟨n2, hw⟩ := hw
      exact wL_M_longest_14 X hR ih n2 x1 x2 0 σ hw
set_option maxHeartbeats 4000000 in
set_option maxRecDepth 100000 in
theorem c_M_longest (l : Launch) (D : va_G) (cI : ClassId) (q : Nat → Nat) (σ : St) (post : Int32 → St → Prop) (hw : wp_M_longest σ post) : CI l D cI (wM cI q) y_M_longest b_M_longest 5 .int rm_M_longest [.ref (q 0)] σ post := by
  refine CI_of (by decide) (Nat.le_of_ble_eq_true rfl) ?_
  intro Z hZl hZD hZI X hR
  subst hZl; subst hZD; subst hZI
  unfold wp_M_longest at hw
  show VV Z 0 0 (wM (zI Z) q σ) [(0, .ref (q 0))] 0 []
  refine x_iconst (pc := 0) (v := 0) X d_M_longest_0 (by decide) ?_
  refine x_istore_n (pc := 1) (lv' := [(0, .ref (q 0)), (1, .int 0)]) X d_M_longest_1 (by decide) [1, 0] rfl ?_
  refine x_iconst (pc := 2) (v := 0) X d_M_longest_2 (by decide) ?_
  refine x_istore_n (pc := 3) (lv' := [(0, .ref (q 0)), (1, .int 0), (2, .int 0)]) X d_M_longest_3 (by decide) [1, 2, 0] rfl ?_
  obtain ⟨n2, hw⟩ := hw
  exact wL_M_longest_4 X hR n2 0 0 σ hw
def rm_M_look : Room := { frames := 2, cells := 0, slots := 0, locals := 46 }
set_option maxHeartbeats 4000000 in
set_option maxRecDepth 100000 in
theorem c_M_look (l : Launch) (D : va_G) (cI : ClassId) (q : Nat → Nat) (σ : St) (x1 : Int32) (post : Int32 → St → Prop) (hw : wp_M_look x1 σ post) : CI l D cI (wM cI q) y_M_look b_M_look 2 .int rm_M_look [.ref (q 0), .int x1] σ post := by
  refine CI_of (by decide) (Nat.le_of_ble_eq_true rfl) ?_
  intro Z hZl hZD hZI X hR
  subst hZl; subst hZD; subst hZI
  unfold wp_M_look at hw
  show VV Z 0 0 (wM (zI Z) q σ) [(0, .ref (q 0)), (1, .int x1)] 0 []
  refine x_aload_n (pc := 0) X d_M_look_0 0 rfl ?_
  refine x_iconst (pc := 1) (v := 0) X d_M_look_1 (by decide) ?_
  refine x_put (pc := 2) (ws' := (wM (zI Z) q (us σ 0 0))) X tb_M 0 0 (by decide) mw_7 (atM_0 _ _ _) rfl pI (Nat.le_of_ble_eq_true rfl) (ptM_0 _ _ _ _) d_M_look_2 ?_
  refine x_iload_n (pc := 5) X d_M_look_5 1 rfl ?_
  refine x_table (pc := 6) (N := 10) (dt := 110) X (fun j => [60, 65, 70, 75, 80, 85, 90, 95, 100, 105].getD j 0) d_M_look_6 (by decide) (by decide) (by decide) (by decide) (fun j hj hx => ?_) (fun hx => ?_)
  · rcases (show j = 0 ∨ j = 1 ∨ j = 2 ∨ j = 3 ∨ j = 4 ∨ j = 5 ∨ j = 6 ∨ j = 7 ∨ j = 8 ∨ j = 9 by omega) with rfl | rfl | rfl | rfl | rfl | rfl | rfl | rfl | rfl | rfl
    · have hw := hw.1 hx
      show VV Z 0 0 (wM (zI Z) q (us σ 0 0)) [(0, .ref (q 0)), (1, .int x1)] 60 []
      refine x_aload_n (pc := 60) X d_M_look_60 0 rfl ?_
      refine x_get (pc := 61) X tb_M 0 1 (by decide) mw_8 (atM_0 _ _ _) rfl d_M_look_61 ?_
      exact hR _ _ _ _ d_M_look_64 (vp_nar_int _) hw
    · have hw := hw.2.1 hx
      show VV Z 0 0 (wM (zI Z) q (us σ 0 0)) [(0, .ref (q 0)), (1, .int x1)] 65 []
      refine x_aload_n (pc := 65) X d_M_look_65 0 rfl ?_
      refine x_get (pc := 66) X tb_M 0 2 (by decide) mw_9 (atM_0 _ _ _) rfl d_M_look_66 ?_
      exact hR _ _ _ _ d_M_look_69 (vp_nar_int _) hw
    · have hw := hw.2.2.1 hx
      show VV Z 0 0 (wM (zI Z) q (us σ 0 0)) [(0, .ref (q 0)), (1, .int x1)] 70 []
      refine x_aload_n (pc := 70) X d_M_look_70 0 rfl ?_
      refine x_cvi (pc := 71) X [] (c_M_wayMany (zl Z) (zD Z) (zI Z) q (us σ 0 0) _ hw) mv_M_wayMany tb_M 0 (atM_0 _ _ _) mw_114 d_M_look_71 rfl (Nat.le_of_ble_eq_true rfl) ⟨Nat.le_of_ble_eq_true rfl, Nat.le_of_ble_eq_true rfl⟩ ⟨rfl, rfl⟩ ⟨Nat.zero_le _, Nat.zero_le _⟩ ?_
      intro r1 σ1 hw
      exact hR _ _ _ _ d_M_look_74 (vp_nar_int _) hw
    · have hw := hw.2.2.2.1 hx
      show VV Z 0 0 (wM (zI Z) q (us σ 0 0)) [(0, .ref (q 0)), (1, .int x1)] 75 []
      refine x_aload_n (pc := 75) X d_M_look_75 0 rfl ?_
      refine x_get (pc := 76) X tb_M 0 3 (by decide) mw_10 (atM_0 _ _ _) rfl d_M_look_76 ?_
      exact hR _ _ _ _ d_M_look_79 (vp_nar_int _) hw
    · have hw := hw.2.2.2.2.1 hx
      show VV Z 0 0 (wM (zI Z) q (us σ 0 0)) [(0, .ref (q 0)), (1, .int x1)] 80 []
      refine x_aload_n (pc := 80) X d_M_look_80 0 rfl ?_
      refine x_get (pc := 81) X tb_M 0 5 (by decide) mw_77 (atM_0 _ _ _) rfl d_M_look_81 ?_
      exact hR _ _ _ _ d_M_look_84 (vp_nar_int _) hw
    · have hw := hw.2.2.2.2.2.1 hx
      show VV Z 0 0 (wM (zI Z) q (us σ 0 0)) [(0, .ref (q 0)), (1, .int x1)] 85 []
      refine x_aload_n (pc := 85) X d_M_look_85 0 rfl ?_
      refine x_get (pc := 86) X tb_M 0 13 (by decide) mw_85 (atM_0 _ _ _) rfl d_M_look_86 ?_
      exact hR _ _ _ _ d_M_look_89 (vp_nar_int _) hw
    · have hw := hw.2.2.2.2.2.2.1 hx
      show VV Z 0 0 (wM (zI Z) q (us σ 0 0)) [(0, .ref (q 0)), (1, .int x1)] 90 []
      refine x_aload_n (pc := 90) X d_M_look_90 0 rfl ?_
      refine x_get (pc := 91) X tb_M 0 6 (by decide) mw_78 (atM_0 _ _ _) rfl d_M_look_91 ?_
      exact hR _ _ _ _ d_M_look_94 (vp_nar_int _) hw
    · have hw := hw.2.2.2.2.2.2.2.1 hx
      show VV Z 0 0 (wM (zI Z) q (us σ 0 0)) [(0, .ref (q 0)), (1, .int x1)] 95 []
      refine x_aload_n (pc := 95) X d_M_look_95 0 rfl ?_
      refine x_cvi (pc := 96) X [] (c_M_somewhere (zl Z) (zD Z) (zI Z) q (us σ 0 0) _ hw) mv_M_somewhere tb_M 0 (atM_0 _ _ _) mw_115 d_M_look_96 rfl (Nat.le_of_ble_eq_true rfl) ⟨Nat.le_of_ble_eq_true rfl, Nat.le_of_ble_eq_true rfl⟩ ⟨rfl, rfl⟩ ⟨Nat.zero_le _, Nat.zero_le _⟩ ?_
      intro r2 σ2 hw
      exact hR _ _ _ _ d_M_look_99 (vp_nar_int _) hw
    · have hw := hw.2.2.2.2.2.2.2.2.1 hx
      show VV Z 0 0 (wM (zI Z) q (us σ 0 0)) [(0, .ref (q 0)), (1, .int x1)] 100 []
      refine x_aload_n (pc := 100) X d_M_look_100 0 rfl ?_
      refine x_cvi (pc := 101) X [] (c_M_longest (zl Z) (zD Z) (zI Z) q (us σ 0 0) _ hw) mv_M_longest tb_M 0 (atM_0 _ _ _) mw_116 d_M_look_101 rfl (Nat.le_of_ble_eq_true rfl) ⟨Nat.le_of_ble_eq_true rfl, Nat.le_of_ble_eq_true rfl⟩ ⟨rfl, rfl⟩ ⟨Nat.zero_le _, Nat.zero_le _⟩ ?_
      intro r3 σ3 hw
      exact hR _ _ _ _ d_M_look_104 (vp_nar_int _) hw
    · have hw := hw.2.2.2.2.2.2.2.2.2.1 hx
      show VV Z 0 0 (wM (zI Z) q (us σ 0 0)) [(0, .ref (q 0)), (1, .int x1)] 105 []
      refine x_aload_n (pc := 105) X d_M_look_105 0 rfl ?_
      refine x_get (pc := 106) X tb_M 0 14 (by decide) mw_86 (atM_0 _ _ _) rfl d_M_look_106 ?_
      exact hR _ _ _ _ d_M_look_109 (vp_nar_int _) hw
  · have hw := hw.2.2.2.2.2.2.2.2.2.2 hx
    refine x_iconst (pc := 110) (v := (-1)) X d_M_look_110 (by decide) ?_
    exact hR _ _ _ _ d_M_look_111 (vp_nar_int _) hw
