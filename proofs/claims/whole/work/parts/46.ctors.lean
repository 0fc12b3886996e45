def rm_G_init : Room := { frames := 1, cells := 1, slots := 960, locals := 20 }
set_option maxHeartbeats 4000000 in
set_option maxRecDepth 100000 in
theorem k_G_init (l : Launch) (D : va_G) (cI : ClassId) (h0 : Nat) : CK l D cI y_G_init b_G_init 1 rm_G_init [.ref h0] [(h0, .inr (1, [.int 0, .int 0, .int 0, .null]))] (fun w => ∃ a1 : Nat, w = [(h0, .inr (1, [.int 1, .int 1, .int 0, .ref a1])), (a1, .inl (cI, 960, .inl (fun _ => 0)))]) 1 960 := by
  refine CK_of (by decide) (Nat.le_of_ble_eq_true rfl) ?_
  intro Z hZl hZD hZI hin X hR
  subst hZl; subst hZD; subst hZI
  show VV Z 0 0 [(h0, .inr (1, [.int 0, .int 0, .int 0, .null]))] [(0, .ref h0)] 0 []
  refine x_aload_n (pc := 0) X d_G_init_0 0 rfl ?_
  refine x_objInit (pc := 1) X mw_117 mw_118 mw_119 (Nat.le_of_ble_eq_true rfl) (Nat.le_of_ble_eq_true rfl) d_G_init_1 ?_
  refine x_aload_n (pc := 4) X d_G_init_4 0 rfl ?_
  refine x_iconst (pc := 5) (v := 1) X d_G_init_5 (by decide) ?_
  refine x_put (pc := 6) (ws' := [(h0, .inr (1, [.int 1, .int 0, .int 0, .null]))]) X tb_G 0 0 (by decide) mw_1 rfl rfl pI (Nat.le_of_ble_eq_true rfl) rfl d_G_init_6 ?_
  refine x_aload_n (pc := 9) X d_G_init_9 0 rfl ?_
  refine x_iconst (pc := 10) (v := 1) X d_G_init_10 (by decide) ?_
  refine x_put (pc := 11) (ws' := [(h0, .inr (1, [.int 1, .int 1, .int 0, .null]))]) X tb_G 0 1 (by decide) mw_2 rfl rfl pI (Nat.le_of_ble_eq_true rfl) rfl d_G_init_11 ?_
  refine x_aload_n (pc := 14) X d_G_init_14 0 rfl ?_
  refine x_iconst (pc := 15) (v := 0) X d_G_init_15 (by decide) ?_
  refine x_put (pc := 16) (ws' := [(h0, .inr (1, [.int 1, .int 1, .int 0, .null]))]) X tb_G 0 2 (by decide) mw_3 rfl rfl pI (Nat.le_of_ble_eq_true rfl) rfl d_G_init_16 ?_
  refine x_aload_n (pc := 19) X d_G_init_19 0 rfl ?_
  refine x_sipush (pc := 20) (v := (nI 960)) X d_G_init_20 (by decide) ?_
  refine x_newa (pc := 23) (N := 960) X mw_120 (nI_pos (by decide)) (nI_clamp (by decide)) (by decide) (Nat.le_of_ble_eq_true rfl) (Nat.le_of_ble_eq_true rfl) d_G_init_23 ?_
  intro a1
  show VV Z 1 960 [(h0, .inr (1, [.int 1, .int 1, .int 0, .null])), (a1, .inl ((zI Z), 960, .inl (fun _ => 0)))] [(0, .ref h0)] 25 [.ref a1, .ref h0]
  refine x_putF (pc := 25) (ty := (.array .int)) (ws' := [(h0, .inr (1, [.int 1, .int 1, .int 0, .ref a1])), (a1, .inl ((zI Z), 960, .inl (fun _ => 0)))]) X hin tb_G 0 3 (by decide) mw_4 rfl rfl rfl (by decide +kernel) rfl rfl (Nat.le_of_ble_eq_true rfl) rfl d_G_init_25 ?_
  exact hR _ _ _ d_G_init_28 ⟨a1, rfl⟩
def rm_T_init : Room := { frames := 1, cells := 8, slots := 12660, locals := 20 }
set_option maxHeartbeats 4000000 in
set_option maxRecDepth 100000 in
theorem k_T_init (l : Launch) (D : va_G) (cI : ClassId) (h0 : Nat) : CK l D cI y_T_init b_T_init 1 rm_T_init [.ref h0] [(h0, .inr (2, [.int 0, .int 0, .int 0, .int 0, .null, .null, .null, .null, .null, .null, .null, .null]))] (fun w => ∃ a1 a2 a3 a4 a5 a6 a7 a8 : Nat, w = [(h0, .inr (2, [.int 1, .int 1, .int 1, .int 0, .ref a1, .ref a2, .ref a3, .ref a4, .ref a5, .ref a6, .ref a7, .ref a8])), (a1, .inl (cI, 120, .inl (upd (fun _ => 0) ((0 : Int32).toNatClampNeg) 1))), (a2, .inl (cI, 120, .inl (fun _ => 0))), (a3, .inl (cI, 4800, .inl (upd (fun _ => 0) ((0 : Int32).toNatClampNeg) (-1)))), (a4, .inl (cI, 120, .inl (fun _ => 0))), (a5, .inl (cI, 120, .inl (fun _ => 0))), (a6, .inl (cI, 120, .inl (fun _ => 0))), (a7, .inl (cI, 120, .inl (fun _ => 0))), (a8, .inl (cI, 7140, .inl (fun _ => 0)))]) 8 12660 := by
  refine CK_of (by decide) (Nat.le_of_ble_eq_true rfl) ?_
  intro Z hZl hZD hZI hin X hR
  subst hZl; subst hZD; subst hZI
  show VV Z 0 0 [(h0, .inr (2, [.int 0, .int 0, .int 0, .int 0, .null, .null, .null, .null, .null, .null, .null, .null]))] [(0, .ref h0)] 0 []
  refine x_aload_n (pc := 0) X d_T_init_0 0 rfl ?_
  refine x_objInit (pc := 1) X mw_121 mw_118 mw_119 (Nat.le_of_ble_eq_true rfl) (Nat.le_of_ble_eq_true rfl) d_T_init_1 ?_
  refine x_aload_n (pc := 4) X d_T_init_4 0 rfl ?_
  refine x_iconst (pc := 5) (v := 1) X d_T_init_5 (by decide) ?_
  refine x_put (pc := 6) (ws' := [(h0, .inr (2, [.int 1, .int 0, .int 0, .int 0, .null, .null, .null, .null, .null, .null, .null, .null]))]) X tb_T 0 0 (by decide) mw_37 rfl rfl pI (Nat.le_of_ble_eq_true rfl) rfl d_T_init_6 ?_
  refine x_aload_n (pc := 9) X d_T_init_9 0 rfl ?_
  refine x_iconst (pc := 10) (v := 1) X d_T_init_10 (by decide) ?_
  refine x_put (pc := 11) (ws' := [(h0, .inr (2, [.int 1, .int 1, .int 0, .int 0, .null, .null, .null, .null, .null, .null, .null, .null]))]) X tb_T 0 1 (by decide) mw_38 rfl rfl pI (Nat.le_of_ble_eq_true rfl) rfl d_T_init_11 ?_
  refine x_aload_n (pc := 14) X d_T_init_14 0 rfl ?_
  refine x_iconst (pc := 15) (v := 1) X d_T_init_15 (by decide) ?_
  refine x_put (pc := 16) (ws' := [(h0, .inr (2, [.int 1, .int 1, .int 1, .int 0, .null, .null, .null, .null, .null, .null, .null, .null]))]) X tb_T 0 2 (by decide) mw_66 rfl rfl pI (Nat.le_of_ble_eq_true rfl) rfl d_T_init_16 ?_
  refine x_aload_n (pc := 19) X d_T_init_19 0 rfl ?_
  refine x_iconst (pc := 20) (v := 0) X d_T_init_20 (by decide) ?_
  refine x_put (pc := 21) (ws' := [(h0, .inr (2, [.int 1, .int 1, .int 1, .int 0, .null, .null, .null, .null, .null, .null, .null, .null]))]) X tb_T 0 3 (by decide) mw_49 rfl rfl pI (Nat.le_of_ble_eq_true rfl) rfl d_T_init_21 ?_
  refine x_aload_n (pc := 24) X d_T_init_24 0 rfl ?_
  refine x_bipush (pc := 25) (v := (nI 120)) X d_T_init_25 (by decide) ?_
  refine x_newa (pc := 27) (N := 120) X mw_120 (nI_pos (by decide)) (nI_clamp (by decide)) (by decide) (Nat.le_of_ble_eq_true rfl) (Nat.le_of_ble_eq_true rfl) d_T_init_27 ?_
  intro a1
  show VV Z 1 120 [(h0, .inr (2, [.int 1, .int 1, .int 1, .int 0, .null, .null, .null, .null, .null, .null, .null, .null])), (a1, .inl ((zI Z), 120, .inl (fun _ => 0)))] [(0, .ref h0)] 29 [.ref a1, .ref h0]
  refine x_putF (pc := 29) (ty := (.array .int)) (ws' := [(h0, .inr (2, [.int 1, .int 1, .int 1, .int 0, .ref a1, .null, .null, .null, .null, .null, .null, .null])), (a1, .inl ((zI Z), 120, .inl (fun _ => 0)))]) X hin tb_T 0 4 (by decide) mw_39 rfl rfl rfl (by decide +kernel) rfl rfl (Nat.le_of_ble_eq_true rfl) rfl d_T_init_29 ?_
  refine x_aload_n (pc := 32) X d_T_init_32 0 rfl ?_
  refine x_bipush (pc := 33) (v := (nI 120)) X d_T_init_33 (by decide) ?_
  refine x_newa (pc := 35) (N := 120) X mw_120 (nI_pos (by decide)) (nI_clamp (by decide)) (by decide) (Nat.le_of_ble_eq_true rfl) (Nat.le_of_ble_eq_true rfl) d_T_init_35 ?_
  intro a2
  show VV Z 2 240 [(h0, .inr (2, [.int 1, .int 1, .int 1, .int 0, .ref a1, .null, .null, .null, .null, .null, .null, .null])), (a1, .inl ((zI Z), 120, .inl (fun _ => 0))), (a2, .inl ((zI Z), 120, .inl (fun _ => 0)))] [(0, .ref h0)] 37 [.ref a2, .ref h0]
  refine x_putF (pc := 37) (ty := (.array .int)) (ws' := [(h0, .inr (2, [.int 1, .int 1, .int 1, .int 0, .ref a1, .ref a2, .null, .null, .null, .null, .null, .null])), (a1, .inl ((zI Z), 120, .inl (fun _ => 0))), (a2, .inl ((zI Z), 120, .inl (fun _ => 0)))]) X hin tb_T 0 5 (by decide) mw_31 rfl rfl rfl (by decide +kernel) rfl rfl (Nat.le_of_ble_eq_true rfl) rfl d_T_init_37 ?_
  refine x_aload_n (pc := 40) X d_T_init_40 0 rfl ?_
  refine x_sipush (pc := 41) (v := (nI 4800)) X d_T_init_41 (by decide) ?_
  refine x_newa (pc := 44) (N := 4800) X mw_120 (nI_pos (by decide)) (nI_clamp (by decide)) (by decide) (Nat.le_of_ble_eq_true rfl) (Nat.le_of_ble_eq_true rfl) d_T_init_44 ?_
  intro a3
  show VV Z 3 5040 [(h0, .inr (2, [.int 1, .int 1, .int 1, .int 0, .ref a1, .ref a2, .null, .null, .null, .null, .null, .null])), (a1, .inl ((zI Z), 120, .inl (fun _ => 0))), (a2, .inl ((zI Z), 120, .inl (fun _ => 0))), (a3, .inl ((zI Z), 4800, .inl (fun _ => 0)))] [(0, .ref h0)] 46 [.ref a3, .ref h0]
  refine x_putF (pc := 46) (ty := (.array .int)) (ws' := [(h0, .inr (2, [.int 1, .int 1, .int 1, .int 0, .ref a1, .ref a2, .ref a3, .null, .null, .null, .null, .null])), (a1, .inl ((zI Z), 120, .inl (fun _ => 0))), (a2, .inl ((zI Z), 120, .inl (fun _ => 0))), (a3, .inl ((zI Z), 4800, .inl (fun _ => 0)))]) X hin tb_T 0 6 (by decide) mw_44 rfl rfl rfl (by decide +kernel) rfl rfl (Nat.le_of_ble_eq_true rfl) rfl d_T_init_46 ?_
  refine x_aload_n (pc := 49) X d_T_init_49 0 rfl ?_
  refine x_bipush (pc := 50) (v := (nI 120)) X d_T_init_50 (by decide) ?_
  refine x_newa (pc := 52) (N := 120) X mw_120 (nI_pos (by decide)) (nI_clamp (by decide)) (by decide) (Nat.le_of_ble_eq_true rfl) (Nat.le_of_ble_eq_true rfl) d_T_init_52 ?_
  intro a4
  show VV Z 4 5160 [(h0, .inr (2, [.int 1, .int 1, .int 1, .int 0, .ref a1, .ref a2, .ref a3, .null, .null, .null, .null, .null])), (a1, .inl ((zI Z), 120, .inl (fun _ => 0))), (a2, .inl ((zI Z), 120, .inl (fun _ => 0))), (a3, .inl ((zI Z), 4800, .inl (fun _ => 0))), (a4, .inl ((zI Z), 120, .inl (fun _ => 0)))] [(0, .ref h0)] 54 [.ref a4, .ref h0]
  refine x_putF (pc := 54) (ty := (.array .int)) (ws' := [(h0, .inr (2, [.int 1, .int 1, .int 1, .int 0, .ref a1, .ref a2, .ref a3, .ref a4, .null, .null, .null, .null])), (a1, .inl ((zI Z), 120, .inl (fun _ => 0))), (a2, .inl ((zI Z), 120, .inl (fun _ => 0))), (a3, .inl ((zI Z), 4800, .inl (fun _ => 0))), (a4, .inl ((zI Z), 120, .inl (fun _ => 0)))]) X hin tb_T 0 7 (by decide) mw_46 rfl rfl rfl (by decide +kernel) rfl rfl (Nat.le_of_ble_eq_true rfl) rfl d_T_init_54 ?_
  refine x_aload_n (pc := 57) X d_T_init_57 0 rfl ?_
  refine x_bipush (pc := 58) (v := (nI 120)) X d_T_init_58 (by decide) ?_
  refine x_newa (pc := 60) (N := 120) X mw_120 (nI_pos (by decide)) (nI_clamp (by decide)) (by decide) (Nat.le_of_ble_eq_true rfl) (Nat.le_of_ble_eq_true rfl) d_T_init_60 ?_
  intro a5
  show VV Z 5 5280 [(h0, .inr (2, [.int 1, .int 1, .int 1, .int 0, .ref a1, .ref a2, .ref a3, .ref a4, .null, .null, .null, .null])), (a1, .inl ((zI Z), 120, .inl (fun _ => 0))), (a2, .inl ((zI Z), 120, .inl (fun _ => 0))), (a3, .inl ((zI Z), 4800, .inl (fun _ => 0))), (a4, .inl ((zI Z), 120, .inl (fun _ => 0))), (a5, .inl ((zI Z), 120, .inl (fun _ => 0)))] [(0, .ref h0)] 62 [.ref a5, .ref h0]
  refine x_putF (pc := 62) (ty := (.array .int)) (ws' := [(h0, .inr (2, [.int 1, .int 1, .int 1, .int 0, .ref a1, .ref a2, .ref a3, .ref a4, .ref a5, .null, .null, .null])), (a1, .inl ((zI Z), 120, .inl (fun _ => 0))), (a2, .inl ((zI Z), 120, .inl (fun _ => 0))), (a3, .inl ((zI Z), 4800, .inl (fun _ => 0))), (a4, .inl ((zI Z), 120, .inl (fun _ => 0))), (a5, .inl ((zI Z), 120, .inl (fun _ => 0)))]) X hin tb_T 0 8 (by decide) mw_50 rfl rfl rfl (by decide +kernel) rfl rfl (Nat.le_of_ble_eq_true rfl) rfl d_T_init_62 ?_
  refine x_aload_n (pc := 65) X d_T_init_65 0 rfl ?_
  refine x_bipush (pc := 66) (v := (nI 120)) X d_T_init_66 (by decide) ?_
  refine x_newa (pc := 68) (N := 120) X mw_120 (nI_pos (by decide)) (nI_clamp (by decide)) (by decide) (Nat.le_of_ble_eq_true rfl) (Nat.le_of_ble_eq_true rfl) d_T_init_68 ?_
  intro a6
  show VV Z 6 5400 [(h0, .inr (2, [.int 1, .int 1, .int 1, .int 0, .ref a1, .ref a2, .ref a3, .ref a4, .ref a5, .null, .null, .null])), (a1, .inl ((zI Z), 120, .inl (fun _ => 0))), (a2, .inl ((zI Z), 120, .inl (fun _ => 0))), (a3, .inl ((zI Z), 4800, .inl (fun _ => 0))), (a4, .inl ((zI Z), 120, .inl (fun _ => 0))), (a5, .inl ((zI Z), 120, .inl (fun _ => 0))), (a6, .inl ((zI Z), 120, .inl (fun _ => 0)))] [(0, .ref h0)] 70 [.ref a6, .ref h0]
  refine x_putF (pc := 70) (ty := (.array .int)) (ws' := [(h0, .inr (2, [.int 1, .int 1, .int 1, .int 0, .ref a1, .ref a2, .ref a3, .ref a4, .ref a5, .ref a6, .null, .null])), (a1, .inl ((zI Z), 120, .inl (fun _ => 0))), (a2, .inl ((zI Z), 120, .inl (fun _ => 0))), (a3, .inl ((zI Z), 4800, .inl (fun _ => 0))), (a4, .inl ((zI Z), 120, .inl (fun _ => 0))), (a5, .inl ((zI Z), 120, .inl (fun _ => 0))), (a6, .inl ((zI Z), 120, .inl (fun _ => 0)))]) X hin tb_T 0 9 (by decide) mw_67 rfl rfl rfl (by decide +kernel) rfl rfl (Nat.le_of_ble_eq_true rfl) rfl d_T_init_70 ?_
  refine x_aload_n (pc := 73) X d_T_init_73 0 rfl ?_
  refine x_bipush (pc := 74) (v := (nI 120)) X d_T_init_74 (by decide) ?_
  refine x_newa (pc := 76) (N := 120) X mw_120 (nI_pos (by decide)) (nI_clamp (by decide)) (by decide) (Nat.le_of_ble_eq_true rfl) (Nat.le_of_ble_eq_true rfl) d_T_init_76 ?_
  intro a7
  show VV Z 7 5520 [(h0, .inr (2, [.int 1, .int 1, .int 1, .int 0, .ref a1, .ref a2, .ref a3, .ref a4, .ref a5, .ref a6, .null, .null])), (a1, .inl ((zI Z), 120, .inl (fun _ => 0))), (a2, .inl ((zI Z), 120, .inl (fun _ => 0))), (a3, .inl ((zI Z), 4800, .inl (fun _ => 0))), (a4, .inl ((zI Z), 120, .inl (fun _ => 0))), (a5, .inl ((zI Z), 120, .inl (fun _ => 0))), (a6, .inl ((zI Z), 120, .inl (fun _ => 0))), (a7, .inl ((zI Z), 120, .inl (fun _ => 0)))] [(0, .ref h0)] 78 [.ref a7, .ref h0]
  refine x_putF (pc := 78) (ty := (.array .int)) (ws' := [(h0, .inr (2, [.int 1, .int 1, .int 1, .int 0, .ref a1, .ref a2, .ref a3, .ref a4, .ref a5, .ref a6, .ref a7, .null])), (a1, .inl ((zI Z), 120, .inl (fun _ => 0))), (a2, .inl ((zI Z), 120, .inl (fun _ => 0))), (a3, .inl ((zI Z), 4800, .inl (fun _ => 0))), (a4, .inl ((zI Z), 120, .inl (fun _ => 0))), (a5, .inl ((zI Z), 120, .inl (fun _ => 0))), (a6, .inl ((zI Z), 120, .inl (fun _ => 0))), (a7, .inl ((zI Z), 120, .inl (fun _ => 0)))]) X hin tb_T 0 10 (by decide) mw_68 rfl rfl rfl (by decide +kernel) rfl rfl (Nat.le_of_ble_eq_true rfl) rfl d_T_init_78 ?_
  refine x_aload_n (pc := 81) X d_T_init_81 0 rfl ?_
  refine x_sipush (pc := 82) (v := (nI 7140)) X d_T_init_82 (by decide) ?_
  refine x_newa (pc := 85) (N := 7140) X mw_120 (nI_pos (by decide)) (nI_clamp (by decide)) (by decide) (Nat.le_of_ble_eq_true rfl) (Nat.le_of_ble_eq_true rfl) d_T_init_85 ?_
  intro a8
  show VV Z 8 12660 [(h0, .inr (2, [.int 1, .int 1, .int 1, .int 0, .ref a1, .ref a2, .ref a3, .ref a4, .ref a5, .ref a6, .ref a7, .null])), (a1, .inl ((zI Z), 120, .inl (fun _ => 0))), (a2, .inl ((zI Z), 120, .inl (fun _ => 0))), (a3, .inl ((zI Z), 4800, .inl (fun _ => 0))), (a4, .inl ((zI Z), 120, .inl (fun _ => 0))), (a5, .inl ((zI Z), 120, .inl (fun _ => 0))), (a6, .inl ((zI Z), 120, .inl (fun _ => 0))), (a7, .inl ((zI Z), 120, .inl (fun _ => 0))), (a8, .inl ((zI Z), 7140, .inl (fun _ => 0)))] [(0, .ref h0)] 87 [.ref a8, .ref h0]
  refine x_putF (pc := 87) (ty := (.array .int)) (ws' := [(h0, .inr (2, [.int 1, .int 1, .int 1, .int 0, .ref a1, .ref a2, .ref a3, .ref a4, .ref a5, .ref a6, .ref a7, .ref a8])), (a1, .inl ((zI Z), 120, .inl (fun _ => 0))), (a2, .inl ((zI Z), 120, .inl (fun _ => 0))), (a3, .inl ((zI Z), 4800, .inl (fun _ => 0))), (a4, .inl ((zI Z), 120, .inl (fun _ => 0))), (a5, .inl ((zI Z), 120, .inl (fun _ => 0))), (a6, .inl ((zI Z), 120, .inl (fun _ => 0))), (a7, .inl ((zI Z), 120, .inl (fun _ => 0))), (a8, .inl ((zI Z), 7140, .inl (fun _ => 0)))]) X hin tb_T 0 11 (by decide) mw_54 rfl rfl rfl (by decide +kernel) rfl rfl (Nat.le_of_ble_eq_true rfl) rfl d_T_init_87 ?_
  refine x_aload_n (pc := 90) X d_T_init_90 0 rfl ?_
  refine x_get (pc := 91) X tb_T 0 4 (by decide) mw_39 rfl rfl d_T_init_91 ?_
  refine x_iconst (pc := 94) (v := 0) X d_T_init_94 (by decide) ?_
  refine x_iconst (pc := 95) (v := 1) X d_T_init_95 (by decide) ?_
  refine x_iast (pc := 96) (ws' := [(h0, .inr (2, [.int 1, .int 1, .int 1, .int 0, .ref a1, .ref a2, .ref a3, .ref a4, .ref a5, .ref a6, .ref a7, .ref a8])), (a1, .inl ((zI Z), 120, .inl (upd (fun _ => 0) ((0 : Int32).toNatClampNeg) 1))), (a2, .inl ((zI Z), 120, .inl (fun _ => 0))), (a3, .inl ((zI Z), 4800, .inl (fun _ => 0))), (a4, .inl ((zI Z), 120, .inl (fun _ => 0))), (a5, .inl ((zI Z), 120, .inl (fun _ => 0))), (a6, .inl ((zI Z), 120, .inl (fun _ => 0))), (a7, .inl ((zI Z), 120, .inl (fun _ => 0))), (a8, .inl ((zI Z), 7140, .inl (fun _ => 0)))]) X 1 rfl (vp_in_nI (n := 0) (by decide) (by decide)) rfl d_T_init_96 ?_
  refine x_aload_n (pc := 97) X d_T_init_97 0 rfl ?_
  refine x_get (pc := 98) X tb_T 0 6 (by decide) mw_44 rfl rfl d_T_init_98 ?_
  refine x_iconst (pc := 101) (v := 0) X d_T_init_101 (by decide) ?_
  refine x_iconst (pc := 102) (v := (-1)) X d_T_init_102 (by decide) ?_
  refine x_iast (pc := 103) (ws' := [(h0, .inr (2, [.int 1, .int 1, .int 1, .int 0, .ref a1, .ref a2, .ref a3, .ref a4, .ref a5, .ref a6, .ref a7, .ref a8])), (a1, .inl ((zI Z), 120, .inl (upd (fun _ => 0) ((0 : Int32).toNatClampNeg) 1))), (a2, .inl ((zI Z), 120, .inl (fun _ => 0))), (a3, .inl ((zI Z), 4800, .inl (upd (fun _ => 0) ((0 : Int32).toNatClampNeg) (-1)))), (a4, .inl ((zI Z), 120, .inl (fun _ => 0))), (a5, .inl ((zI Z), 120, .inl (fun _ => 0))), (a6, .inl ((zI Z), 120, .inl (fun _ => 0))), (a7, .inl ((zI Z), 120, .inl (fun _ => 0))), (a8, .inl ((zI Z), 7140, .inl (fun _ => 0)))]) X 3 rfl (vp_in_nI (n := 0) (by decide) (by decide)) rfl d_T_init_103 ?_
  exact hR _ _ _ d_T_init_104 ⟨a1, a2, a3, a4, a5, a6, a7, a8, rfl⟩
def rm_W_init : Room := { frames := 2, cells := 11, slots := 13636, locals := 40 }
set_option maxHeartbeats 4000000 in
set_option maxRecDepth 100000 in
theorem k_W_init (l : Launch) (D : va_G) (cI : ClassId) (h0 : Nat) : CK l D cI y_W_init b_W_init 1 rm_W_init [.ref h0] [(h0, .inr (0, [.null, .null, .int 0]))] (fun w => ∃ a1 a2 a3 a4 a5 a6 a7 a8 a9 a10 a11 : Nat, w = [(h0, .inr (0, [.ref a1, .ref a3, .int 0])), (a1, .inr (1, [.int 1, .int 1, .int 0, .ref a2])), (a2, .inl (cI, 960, .inl (fun _ => 0))), (a3, .inr (2, [.int 1, .int 1, .int 1, .int 0, .ref a4, .ref a5, .ref a6, .ref a7, .ref a8, .ref a9, .ref a10, .ref a11])), (a4, .inl (cI, 120, .inl (upd (fun _ => 0) ((0 : Int32).toNatClampNeg) 1))), (a5, .inl (cI, 120, .inl (fun _ => 0))), (a6, .inl (cI, 4800, .inl (upd (fun _ => 0) ((0 : Int32).toNatClampNeg) (-1)))), (a7, .inl (cI, 120, .inl (fun _ => 0))), (a8, .inl (cI, 120, .inl (fun _ => 0))), (a9, .inl (cI, 120, .inl (fun _ => 0))), (a10, .inl (cI, 120, .inl (fun _ => 0))), (a11, .inl (cI, 7140, .inl (fun _ => 0)))]) 11 13636 := by
  refine CK_of (by decide) (Nat.le_of_ble_eq_true rfl) ?_
  intro Z hZl hZD hZI hin X hR
  subst hZl; subst hZD; subst hZI
  show VV Z 0 0 [(h0, .inr (0, [.null, .null, .int 0]))] [(0, .ref h0)] 0 []
  refine x_aload_n (pc := 0) X d_W_init_0 0 rfl ?_
  refine x_objInit (pc := 1) X mw_122 mw_118 mw_119 (Nat.le_of_ble_eq_true rfl) (Nat.le_of_ble_eq_true rfl) d_W_init_1 ?_
  refine x_aload_n (pc := 4) X d_W_init_4 0 rfl ?_
  refine x_new (pc := 5) (fs := [.int 0, .int 0, .int 0, .null]) X tb_G ty_G tt_G mw_123 mw_124 mw_125 (fun j hj => by rcases (show j = 0 ∨ j = 1 ∨ j = 2 ∨ j = 3 by omega) with rfl | rfl | rfl | rfl <;> rfl) (Nat.le_of_ble_eq_true rfl) (Nat.le_of_ble_eq_true rfl) d_W_init_5 ?_
  intro a1
  show VV Z 1 4 [(h0, .inr (0, [.null, .null, .int 0])), (a1, .inr (1, [.int 0, .int 0, .int 0, .null]))] [(0, .ref h0)] 8 [.ref a1, .ref h0]
  refine x_dup (pc := 8) X d_W_init_8 rfl ?_
  refine x_ckN (pc := 9) (wr := [(h0, .inr (0, [.null, .null, .int 0]))]) X (k_G_init (zl Z) (zD Z) (zI Z) a1) mk_G_init nw_126 d_W_init_9 (Nat.le_of_ble_eq_true rfl) ⟨Nat.le_of_ble_eq_true rfl, Nat.le_of_ble_eq_true rfl⟩ ⟨rfl, rfl⟩ ⟨Nat.le_of_ble_eq_true rfl, Nat.le_of_ble_eq_true rfl⟩ ?_
  rintro w ⟨a2, rfl⟩
  show VV Z 2 964 [(h0, .inr (0, [.null, .null, .int 0])), (a1, .inr (1, [.int 1, .int 1, .int 0, .ref a2])), (a2, .inl ((zI Z), 960, .inl (fun _ => 0)))] [(0, .ref h0)] 12 [.ref a1, .ref h0]
  refine x_putF (pc := 12) (ty := (.object "WayTable$Graph")) (ws' := [(h0, .inr (0, [.ref a1, .null, .int 0])), (a1, .inr (1, [.int 1, .int 1, .int 0, .ref a2])), (a2, .inl ((zI Z), 960, .inl (fun _ => 0)))]) X hin tb_W 0 0 (by decide) mw_0 rfl rfl rfl (by decide +kernel) rfl rfl (Nat.le_of_ble_eq_true rfl) rfl d_W_init_12 ?_
  refine x_aload_n (pc := 15) X d_W_init_15 0 rfl ?_
  refine x_new (pc := 16) (fs := [.int 0, .int 0, .int 0, .int 0, .null, .null, .null, .null, .null, .null, .null, .null]) X tb_T ty_T tt_T mw_127 mw_128 mw_129 (fun j hj => by rcases (show j = 0 ∨ j = 1 ∨ j = 2 ∨ j = 3 ∨ j = 4 ∨ j = 5 ∨ j = 6 ∨ j = 7 ∨ j = 8 ∨ j = 9 ∨ j = 10 ∨ j = 11 by omega) with rfl | rfl | rfl | rfl | rfl | rfl | rfl | rfl | rfl | rfl | rfl | rfl <;> rfl) (Nat.le_of_ble_eq_true rfl) (Nat.le_of_ble_eq_true rfl) d_W_init_16 ?_
  intro a3
  show VV Z 3 976 [(h0, .inr (0, [.ref a1, .null, .int 0])), (a1, .inr (1, [.int 1, .int 1, .int 0, .ref a2])), (a2, .inl ((zI Z), 960, .inl (fun _ => 0))), (a3, .inr (2, [.int 0, .int 0, .int 0, .int 0, .null, .null, .null, .null, .null, .null, .null, .null]))] [(0, .ref h0)] 19 [.ref a3, .ref h0]
  refine x_dup (pc := 19) X d_W_init_19 rfl ?_
  refine x_ckN (pc := 20) (wr := [(h0, .inr (0, [.ref a1, .null, .int 0])), (a1, .inr (1, [.int 1, .int 1, .int 0, .ref a2])), (a2, .inl ((zI Z), 960, .inl (fun _ => 0)))]) X (k_T_init (zl Z) (zD Z) (zI Z) a3) mk_T_init nw_130 d_W_init_20 (Nat.le_of_ble_eq_true rfl) ⟨Nat.le_of_ble_eq_true rfl, Nat.le_of_ble_eq_true rfl⟩ ⟨rfl, rfl⟩ ⟨Nat.le_of_ble_eq_true rfl, Nat.le_of_ble_eq_true rfl⟩ ?_
  rintro w ⟨a4, a5, a6, a7, a8, a9, a10, a11, rfl⟩
  show VV Z 11 13636 [(h0, .inr (0, [.ref a1, .null, .int 0])), (a1, .inr (1, [.int 1, .int 1, .int 0, .ref a2])), (a2, .inl ((zI Z), 960, .inl (fun _ => 0))), (a3, .inr (2, [.int 1, .int 1, .int 1, .int 0, .ref a4, .ref a5, .ref a6, .ref a7, .ref a8, .ref a9, .ref a10, .ref a11])), (a4, .inl ((zI Z), 120, .inl (upd (fun _ => 0) ((0 : Int32).toNatClampNeg) 1))), (a5, .inl ((zI Z), 120, .inl (fun _ => 0))), (a6, .inl ((zI Z), 4800, .inl (upd (fun _ => 0) ((0 : Int32).toNatClampNeg) (-1)))), (a7, .inl ((zI Z), 120, .inl (fun _ => 0))), (a8, .inl ((zI Z), 120, .inl (fun _ => 0))), (a9, .inl ((zI Z), 120, .inl (fun _ => 0))), (a10, .inl ((zI Z), 120, .inl (fun _ => 0))), (a11, .inl ((zI Z), 7140, .inl (fun _ => 0)))] [(0, .ref h0)] 23 [.ref a3, .ref h0]
  refine x_putF (pc := 23) (ty := (.object "WayTable$Table")) (ws' := [(h0, .inr (0, [.ref a1, .ref a3, .int 0])), (a1, .inr (1, [.int 1, .int 1, .int 0, .ref a2])), (a2, .inl ((zI Z), 960, .inl (fun _ => 0))), (a3, .inr (2, [.int 1, .int 1, .int 1, .int 0, .ref a4, .ref a5, .ref a6, .ref a7, .ref a8, .ref a9, .ref a10, .ref a11])), (a4, .inl ((zI Z), 120, .inl (upd (fun _ => 0) ((0 : Int32).toNatClampNeg) 1))), (a5, .inl ((zI Z), 120, .inl (fun _ => 0))), (a6, .inl ((zI Z), 4800, .inl (upd (fun _ => 0) ((0 : Int32).toNatClampNeg) (-1)))), (a7, .inl ((zI Z), 120, .inl (fun _ => 0))), (a8, .inl ((zI Z), 120, .inl (fun _ => 0))), (a9, .inl ((zI Z), 120, .inl (fun _ => 0))), (a10, .inl ((zI Z), 120, .inl (fun _ => 0))), (a11, .inl ((zI Z), 7140, .inl (fun _ => 0)))]) X hin tb_W 0 1 (by decide) mw_30 rfl rfl rfl (by decide +kernel) rfl rfl (Nat.le_of_ble_eq_true rfl) rfl d_W_init_23 ?_
  refine x_aload_n (pc := 26) X d_W_init_26 0 rfl ?_
  refine x_iconst (pc := 27) (v := 0) X d_W_init_27 (by decide) ?_
  refine x_put (pc := 28) (ws' := [(h0, .inr (0, [.ref a1, .ref a3, .int 0])), (a1, .inr (1, [.int 1, .int 1, .int 0, .ref a2])), (a2, .inl ((zI Z), 960, .inl (fun _ => 0))), (a3, .inr (2, [.int 1, .int 1, .int 1, .int 0, .ref a4, .ref a5, .ref a6, .ref a7, .ref a8, .ref a9, .ref a10, .ref a11])), (a4, .inl ((zI Z), 120, .inl (upd (fun _ => 0) ((0 : Int32).toNatClampNeg) 1))), (a5, .inl ((zI Z), 120, .inl (fun _ => 0))), (a6, .inl ((zI Z), 4800, .inl (upd (fun _ => 0) ((0 : Int32).toNatClampNeg) (-1)))), (a7, .inl ((zI Z), 120, .inl (fun _ => 0))), (a8, .inl ((zI Z), 120, .inl (fun _ => 0))), (a9, .inl ((zI Z), 120, .inl (fun _ => 0))), (a10, .inl ((zI Z), 120, .inl (fun _ => 0))), (a11, .inl ((zI Z), 7140, .inl (fun _ => 0)))]) X tb_W 0 2 (by decide) mw_71 rfl rfl pI (Nat.le_of_ble_eq_true rfl) rfl d_W_init_28 ?_
  exact hR _ _ _ d_W_init_31 ⟨a1, a2, a3, a4, a5, a6, a7, a8, a9, a10, a11, rfl⟩
def rm_M_init : Room := { frames := 3, cells := 9, slots := 39841, locals := 75 }
set_option maxHeartbeats 4000000 in
set_option maxRecDepth 100000 in
theorem k_M_init (l : Launch) (D : va_G) (cI : ClassId) (h0 : Nat) : CK l D cI y_M_init b_M_init 2 rm_M_init [.ref h0] [(h0, .inr (3, [.int 0, .int 0, .int 0, .int 0, .null, .int 0, .int 0, .null, .null, .null, .null, .null, .null, .int 0, .int 0, .null, .null]))] (fun w => ∃ (q : Nat → Nat) (v : St), q 0 = h0 ∧ w = wM cI q v ∧ Rel init_C v) 9 39841 := by
  refine CK_of (by decide) (Nat.le_of_ble_eq_true rfl) ?_
  intro Z hZl hZD hZI hin X hR
  subst hZl; subst hZD; subst hZI
  show VV Z 0 0 [(h0, .inr (3, [.int 0, .int 0, .int 0, .int 0, .null, .int 0, .int 0, .null, .null, .null, .null, .null, .null, .int 0, .int 0, .null, .null]))] [(0, .ref h0)] 0 []
  refine x_aload_n (pc := 0) X d_M_init_0 0 rfl ?_
  refine x_objInit (pc := 1) X mw_131 mw_118 mw_119 (Nat.le_of_ble_eq_true rfl) (Nat.le_of_ble_eq_true rfl) d_M_init_1 ?_
  refine x_aload_n (pc := 4) X d_M_init_4 0 rfl ?_
  refine x_iconst (pc := 5) (v := 1) X d_M_init_5 (by decide) ?_
  refine x_put (pc := 6) (ws' := [(h0, .inr (3, [.int 0, .int 1, .int 0, .int 0, .null, .int 0, .int 0, .null, .null, .null, .null, .null, .null, .int 0, .int 0, .null, .null]))]) X tb_M 0 1 (by decide) mw_8 rfl rfl pI (Nat.le_of_ble_eq_true rfl) rfl d_M_init_6 ?_
  refine x_aload_n (pc := 9) X d_M_init_9 0 rfl ?_
  refine x_iconst (pc := 10) (v := 1) X d_M_init_10 (by decide) ?_
  refine x_put (pc := 11) (ws' := [(h0, .inr (3, [.int 0, .int 1, .int 1, .int 0, .null, .int 0, .int 0, .null, .null, .null, .null, .null, .null, .int 0, .int 0, .null, .null]))]) X tb_M 0 2 (by decide) mw_9 rfl rfl pI (Nat.le_of_ble_eq_true rfl) rfl d_M_init_11 ?_
  refine x_aload_n (pc := 14) X d_M_init_14 0 rfl ?_
  refine x_sipush (pc := 15) (v := (nI 960)) X d_M_init_15 (by decide) ?_
  refine x_newa (pc := 18) (N := 960) X mw_120 (nI_pos (by decide)) (nI_clamp (by decide)) (by decide) (Nat.le_of_ble_eq_true rfl) (Nat.le_of_ble_eq_true rfl) d_M_init_18 ?_
  intro a1
  show VV Z 1 960 [(h0, .inr (3, [.int 0, .int 1, .int 1, .int 0, .null, .int 0, .int 0, .null, .null, .null, .null, .null, .null, .int 0, .int 0, .null, .null])), (a1, .inl ((zI Z), 960, .inl (fun _ => 0)))] [(0, .ref h0)] 20 [.ref a1, .ref h0]
  refine x_putF (pc := 20) (ty := (.array .int)) (ws' := [(h0, .inr (3, [.int 0, .int 1, .int 1, .int 0, .ref a1, .int 0, .int 0, .null, .null, .null, .null, .null, .null, .int 0, .int 0, .null, .null])), (a1, .inl ((zI Z), 960, .inl (fun _ => 0)))]) X hin tb_M 0 4 (by decide) mw_11 rfl rfl rfl (by decide +kernel) rfl rfl (Nat.le_of_ble_eq_true rfl) rfl d_M_init_20 ?_
  refine x_aload_n (pc := 23) X d_M_init_23 0 rfl ?_
  refine x_bipush (pc := 24) (v := (nI 120)) X d_M_init_24 (by decide) ?_
  refine x_newa (pc := 26) (N := 120) X mw_120 (nI_pos (by decide)) (nI_clamp (by decide)) (by decide) (Nat.le_of_ble_eq_true rfl) (Nat.le_of_ble_eq_true rfl) d_M_init_26 ?_
  intro a2
  show VV Z 2 1080 [(h0, .inr (3, [.int 0, .int 1, .int 1, .int 0, .ref a1, .int 0, .int 0, .null, .null, .null, .null, .null, .null, .int 0, .int 0, .null, .null])), (a1, .inl ((zI Z), 960, .inl (fun _ => 0))), (a2, .inl ((zI Z), 120, .inl (fun _ => 0)))] [(0, .ref h0)] 28 [.ref a2, .ref h0]
  refine x_putF (pc := 28) (ty := (.array .int)) (ws' := [(h0, .inr (3, [.int 0, .int 1, .int 1, .int 0, .ref a1, .int 0, .int 0, .ref a2, .null, .null, .null, .null, .null, .int 0, .int 0, .null, .null])), (a1, .inl ((zI Z), 960, .inl (fun _ => 0))), (a2, .inl ((zI Z), 120, .inl (fun _ => 0)))]) X hin tb_M 0 7 (by decide) mw_88 rfl rfl rfl (by decide +kernel) rfl rfl (Nat.le_of_ble_eq_true rfl) rfl d_M_init_28 ?_
  refine x_aload_n (pc := 31) X d_M_init_31 0 rfl ?_
  refine x_sipush (pc := 32) (v := (nI 4800)) X d_M_init_32 (by decide) ?_
  refine x_newa (pc := 35) (N := 4800) X mw_120 (nI_pos (by decide)) (nI_clamp (by decide)) (by decide) (Nat.le_of_ble_eq_true rfl) (Nat.le_of_ble_eq_true rfl) d_M_init_35 ?_
  intro a3
  show VV Z 3 5880 [(h0, .inr (3, [.int 0, .int 1, .int 1, .int 0, .ref a1, .int 0, .int 0, .ref a2, .null, .null, .null, .null, .null, .int 0, .int 0, .null, .null])), (a1, .inl ((zI Z), 960, .inl (fun _ => 0))), (a2, .inl ((zI Z), 120, .inl (fun _ => 0))), (a3, .inl ((zI Z), 4800, .inl (fun _ => 0)))] [(0, .ref h0)] 37 [.ref a3, .ref h0]
  refine x_putF (pc := 37) (ty := (.array .int)) (ws' := [(h0, .inr (3, [.int 0, .int 1, .int 1, .int 0, .ref a1, .int 0, .int 0, .ref a2, .ref a3, .null, .null, .null, .null, .int 0, .int 0, .null, .null])), (a1, .inl ((zI Z), 960, .inl (fun _ => 0))), (a2, .inl ((zI Z), 120, .inl (fun _ => 0))), (a3, .inl ((zI Z), 4800, .inl (fun _ => 0)))]) X hin tb_M 0 8 (by decide) mw_81 rfl rfl rfl (by decide +kernel) rfl rfl (Nat.le_of_ble_eq_true rfl) rfl d_M_init_37 ?_
  refine x_aload_n (pc := 40) X d_M_init_40 0 rfl ?_
  refine x_sipush (pc := 41) (v := (nI 14400)) X d_M_init_41 (by decide) ?_
  refine x_newa (pc := 44) (N := 14400) X mw_120 (nI_pos (by decide)) (nI_clamp (by decide)) (by decide) (Nat.le_of_ble_eq_true rfl) (Nat.le_of_ble_eq_true rfl) d_M_init_44 ?_
  intro a4
  show VV Z 4 20280 [(h0, .inr (3, [.int 0, .int 1, .int 1, .int 0, .ref a1, .int 0, .int 0, .ref a2, .ref a3, .null, .null, .null, .null, .int 0, .int 0, .null, .null])), (a1, .inl ((zI Z), 960, .inl (fun _ => 0))), (a2, .inl ((zI Z), 120, .inl (fun _ => 0))), (a3, .inl ((zI Z), 4800, .inl (fun _ => 0))), (a4, .inl ((zI Z), 14400, .inl (fun _ => 0)))] [(0, .ref h0)] 46 [.ref a4, .ref h0]
  refine x_putF (pc := 46) (ty := (.array .int)) (ws' := [(h0, .inr (3, [.int 0, .int 1, .int 1, .int 0, .ref a1, .int 0, .int 0, .ref a2, .ref a3, .ref a4, .null, .null, .null, .int 0, .int 0, .null, .null])), (a1, .inl ((zI Z), 960, .inl (fun _ => 0))), (a2, .inl ((zI Z), 120, .inl (fun _ => 0))), (a3, .inl ((zI Z), 4800, .inl (fun _ => 0))), (a4, .inl ((zI Z), 14400, .inl (fun _ => 0)))]) X hin tb_M 0 9 (by decide) mw_79 rfl rfl rfl (by decide +kernel) rfl rfl (Nat.le_of_ble_eq_true rfl) rfl d_M_init_46 ?_
  refine x_aload_n (pc := 49) X d_M_init_49 0 rfl ?_
  refine x_sipush (pc := 50) (v := (nI 14400)) X d_M_init_50 (by decide) ?_
  refine x_newa (pc := 53) (N := 14400) X mw_120 (nI_pos (by decide)) (nI_clamp (by decide)) (by decide) (Nat.le_of_ble_eq_true rfl) (Nat.le_of_ble_eq_true rfl) d_M_init_53 ?_
  intro a5
  show VV Z 5 34680 [(h0, .inr (3, [.int 0, .int 1, .int 1, .int 0, .ref a1, .int 0, .int 0, .ref a2, .ref a3, .ref a4, .null, .null, .null, .int 0, .int 0, .null, .null])), (a1, .inl ((zI Z), 960, .inl (fun _ => 0))), (a2, .inl ((zI Z), 120, .inl (fun _ => 0))), (a3, .inl ((zI Z), 4800, .inl (fun _ => 0))), (a4, .inl ((zI Z), 14400, .inl (fun _ => 0))), (a5, .inl ((zI Z), 14400, .inl (fun _ => 0)))] [(0, .ref h0)] 55 [.ref a5, .ref h0]
  refine x_putF (pc := 55) (ty := (.array .int)) (ws' := [(h0, .inr (3, [.int 0, .int 1, .int 1, .int 0, .ref a1, .int 0, .int 0, .ref a2, .ref a3, .ref a4, .ref a5, .null, .null, .int 0, .int 0, .null, .null])), (a1, .inl ((zI Z), 960, .inl (fun _ => 0))), (a2, .inl ((zI Z), 120, .inl (fun _ => 0))), (a3, .inl ((zI Z), 4800, .inl (fun _ => 0))), (a4, .inl ((zI Z), 14400, .inl (fun _ => 0))), (a5, .inl ((zI Z), 14400, .inl (fun _ => 0)))]) X hin tb_M 0 10 (by decide) mw_80 rfl rfl rfl (by decide +kernel) rfl rfl (Nat.le_of_ble_eq_true rfl) rfl d_M_init_55 ?_
  refine x_aload_n (pc := 58) X d_M_init_58 0 rfl ?_
  refine x_bipush (pc := 59) (v := (nI 120)) X d_M_init_59 (by decide) ?_
  refine x_newa (pc := 61) (N := 120) X mw_120 (nI_pos (by decide)) (nI_clamp (by decide)) (by decide) (Nat.le_of_ble_eq_true rfl) (Nat.le_of_ble_eq_true rfl) d_M_init_61 ?_
  intro a6
  show VV Z 6 34800 [(h0, .inr (3, [.int 0, .int 1, .int 1, .int 0, .ref a1, .int 0, .int 0, .ref a2, .ref a3, .ref a4, .ref a5, .null, .null, .int 0, .int 0, .null, .null])), (a1, .inl ((zI Z), 960, .inl (fun _ => 0))), (a2, .inl ((zI Z), 120, .inl (fun _ => 0))), (a3, .inl ((zI Z), 4800, .inl (fun _ => 0))), (a4, .inl ((zI Z), 14400, .inl (fun _ => 0))), (a5, .inl ((zI Z), 14400, .inl (fun _ => 0))), (a6, .inl ((zI Z), 120, .inl (fun _ => 0)))] [(0, .ref h0)] 63 [.ref a6, .ref h0]
  refine x_putF (pc := 63) (ty := (.array .int)) (ws' := [(h0, .inr (3, [.int 0, .int 1, .int 1, .int 0, .ref a1, .int 0, .int 0, .ref a2, .ref a3, .ref a4, .ref a5, .ref a6, .null, .int 0, .int 0, .null, .null])), (a1, .inl ((zI Z), 960, .inl (fun _ => 0))), (a2, .inl ((zI Z), 120, .inl (fun _ => 0))), (a3, .inl ((zI Z), 4800, .inl (fun _ => 0))), (a4, .inl ((zI Z), 14400, .inl (fun _ => 0))), (a5, .inl ((zI Z), 14400, .inl (fun _ => 0))), (a6, .inl ((zI Z), 120, .inl (fun _ => 0)))]) X hin tb_M 0 11 (by decide) mw_83 rfl rfl rfl (by decide +kernel) rfl rfl (Nat.le_of_ble_eq_true rfl) rfl d_M_init_63 ?_
  refine x_aload_n (pc := 66) X d_M_init_66 0 rfl ?_
  refine x_bipush (pc := 67) (v := (nI 120)) X d_M_init_67 (by decide) ?_
  refine x_newa (pc := 69) (N := 120) X mw_120 (nI_pos (by decide)) (nI_clamp (by decide)) (by decide) (Nat.le_of_ble_eq_true rfl) (Nat.le_of_ble_eq_true rfl) d_M_init_69 ?_
  intro a7
  show VV Z 7 34920 [(h0, .inr (3, [.int 0, .int 1, .int 1, .int 0, .ref a1, .int 0, .int 0, .ref a2, .ref a3, .ref a4, .ref a5, .ref a6, .null, .int 0, .int 0, .null, .null])), (a1, .inl ((zI Z), 960, .inl (fun _ => 0))), (a2, .inl ((zI Z), 120, .inl (fun _ => 0))), (a3, .inl ((zI Z), 4800, .inl (fun _ => 0))), (a4, .inl ((zI Z), 14400, .inl (fun _ => 0))), (a5, .inl ((zI Z), 14400, .inl (fun _ => 0))), (a6, .inl ((zI Z), 120, .inl (fun _ => 0))), (a7, .inl ((zI Z), 120, .inl (fun _ => 0)))] [(0, .ref h0)] 71 [.ref a7, .ref h0]
  refine x_putF (pc := 71) (ty := (.array .int)) (ws' := [(h0, .inr (3, [.int 0, .int 1, .int 1, .int 0, .ref a1, .int 0, .int 0, .ref a2, .ref a3, .ref a4, .ref a5, .ref a6, .ref a7, .int 0, .int 0, .null, .null])), (a1, .inl ((zI Z), 960, .inl (fun _ => 0))), (a2, .inl ((zI Z), 120, .inl (fun _ => 0))), (a3, .inl ((zI Z), 4800, .inl (fun _ => 0))), (a4, .inl ((zI Z), 14400, .inl (fun _ => 0))), (a5, .inl ((zI Z), 14400, .inl (fun _ => 0))), (a6, .inl ((zI Z), 120, .inl (fun _ => 0))), (a7, .inl ((zI Z), 120, .inl (fun _ => 0)))]) X hin tb_M 0 12 (by decide) mw_84 rfl rfl rfl (by decide +kernel) rfl rfl (Nat.le_of_ble_eq_true rfl) rfl d_M_init_71 ?_
  refine x_aload_n (pc := 74) X d_M_init_74 0 rfl ?_
  refine x_bipush (pc := 75) (v := (nI 121)) X d_M_init_75 (by decide) ?_
  refine x_newa (pc := 77) (N := 121) X mw_120 (nI_pos (by decide)) (nI_clamp (by decide)) (by decide) (Nat.le_of_ble_eq_true rfl) (Nat.le_of_ble_eq_true rfl) d_M_init_77 ?_
  intro a8
  show VV Z 8 35041 [(h0, .inr (3, [.int 0, .int 1, .int 1, .int 0, .ref a1, .int 0, .int 0, .ref a2, .ref a3, .ref a4, .ref a5, .ref a6, .ref a7, .int 0, .int 0, .null, .null])), (a1, .inl ((zI Z), 960, .inl (fun _ => 0))), (a2, .inl ((zI Z), 120, .inl (fun _ => 0))), (a3, .inl ((zI Z), 4800, .inl (fun _ => 0))), (a4, .inl ((zI Z), 14400, .inl (fun _ => 0))), (a5, .inl ((zI Z), 14400, .inl (fun _ => 0))), (a6, .inl ((zI Z), 120, .inl (fun _ => 0))), (a7, .inl ((zI Z), 120, .inl (fun _ => 0))), (a8, .inl ((zI Z), 121, .inl (fun _ => 0)))] [(0, .ref h0)] 79 [.ref a8, .ref h0]
  refine x_putF (pc := 79) (ty := (.array .int)) (ws' := [(h0, .inr (3, [.int 0, .int 1, .int 1, .int 0, .ref a1, .int 0, .int 0, .ref a2, .ref a3, .ref a4, .ref a5, .ref a6, .ref a7, .int 0, .int 0, .ref a8, .null])), (a1, .inl ((zI Z), 960, .inl (fun _ => 0))), (a2, .inl ((zI Z), 120, .inl (fun _ => 0))), (a3, .inl ((zI Z), 4800, .inl (fun _ => 0))), (a4, .inl ((zI Z), 14400, .inl (fun _ => 0))), (a5, .inl ((zI Z), 14400, .inl (fun _ => 0))), (a6, .inl ((zI Z), 120, .inl (fun _ => 0))), (a7, .inl ((zI Z), 120, .inl (fun _ => 0))), (a8, .inl ((zI Z), 121, .inl (fun _ => 0)))]) X hin tb_M 0 15 (by decide) mw_73 rfl rfl rfl (by decide +kernel) rfl rfl (Nat.le_of_ble_eq_true rfl) rfl d_M_init_79 ?_
  refine x_aload_n (pc := 82) X d_M_init_82 0 rfl ?_
  refine x_sipush (pc := 83) (v := (nI 4800)) X d_M_init_83 (by decide) ?_
  refine x_newa (pc := 86) (N := 4800) X mw_120 (nI_pos (by decide)) (nI_clamp (by decide)) (by decide) (Nat.le_of_ble_eq_true rfl) (Nat.le_of_ble_eq_true rfl) d_M_init_86 ?_
  intro a9
  show VV Z 9 39841 [(h0, .inr (3, [.int 0, .int 1, .int 1, .int 0, .ref a1, .int 0, .int 0, .ref a2, .ref a3, .ref a4, .ref a5, .ref a6, .ref a7, .int 0, .int 0, .ref a8, .null])), (a1, .inl ((zI Z), 960, .inl (fun _ => 0))), (a2, .inl ((zI Z), 120, .inl (fun _ => 0))), (a3, .inl ((zI Z), 4800, .inl (fun _ => 0))), (a4, .inl ((zI Z), 14400, .inl (fun _ => 0))), (a5, .inl ((zI Z), 14400, .inl (fun _ => 0))), (a6, .inl ((zI Z), 120, .inl (fun _ => 0))), (a7, .inl ((zI Z), 120, .inl (fun _ => 0))), (a8, .inl ((zI Z), 121, .inl (fun _ => 0))), (a9, .inl ((zI Z), 4800, .inl (fun _ => 0)))] [(0, .ref h0)] 88 [.ref a9, .ref h0]
  refine x_putF (pc := 88) (ty := (.array .int)) (ws' := [(h0, .inr (3, [.int 0, .int 1, .int 1, .int 0, .ref a1, .int 0, .int 0, .ref a2, .ref a3, .ref a4, .ref a5, .ref a6, .ref a7, .int 0, .int 0, .ref a8, .ref a9])), (a1, .inl ((zI Z), 960, .inl (fun _ => 0))), (a2, .inl ((zI Z), 120, .inl (fun _ => 0))), (a3, .inl ((zI Z), 4800, .inl (fun _ => 0))), (a4, .inl ((zI Z), 14400, .inl (fun _ => 0))), (a5, .inl ((zI Z), 14400, .inl (fun _ => 0))), (a6, .inl ((zI Z), 120, .inl (fun _ => 0))), (a7, .inl ((zI Z), 120, .inl (fun _ => 0))), (a8, .inl ((zI Z), 121, .inl (fun _ => 0))), (a9, .inl ((zI Z), 4800, .inl (fun _ => 0)))]) X hin tb_M 0 16 (by decide) mw_75 rfl rfl rfl (by decide +kernel) rfl rfl (Nat.le_of_ble_eq_true rfl) rfl d_M_init_88 ?_
  refine x_aload_n (pc := 91) X d_M_init_91 0 rfl ?_
  obtain ⟨q, hq⟩ : ∃ q : Nat → Nat, q = fun k => [h0, a1, a2, a3, a4, a5, a6, a7, a8, a9].getD k 0 := ⟨_, rfl⟩
  have hwd : [(h0, .inr (3, [.int 0, .int 1, .int 1, .int 0, .ref a1, .int 0, .int 0, .ref a2, .ref a3, .ref a4, .ref a5, .ref a6, .ref a7, .int 0, .int 0, .ref a8, .ref a9])), (a1, .inl ((zI Z), 960, .inl (fun _ => 0))), (a2, .inl ((zI Z), 120, .inl (fun _ => 0))), (a3, .inl ((zI Z), 4800, .inl (fun _ => 0))), (a4, .inl ((zI Z), 14400, .inl (fun _ => 0))), (a5, .inl ((zI Z), 14400, .inl (fun _ => 0))), (a6, .inl ((zI Z), 120, .inl (fun _ => 0))), (a7, .inl ((zI Z), 120, .inl (fun _ => 0))), (a8, .inl ((zI Z), 121, .inl (fun _ => 0))), (a9, .inl ((zI Z), 4800, .inl (fun _ => 0)))] = wM (zI Z) q init_M := by rw [hq]; rfl
  rw [hwd, show (.ref h0 : Value) = .ref (q 0) by rw [hq]; rfl]
  refine x_cvi (pc := 92) (wd := wM (zI Z) q) X [] (c_M_make (zl Z) (zD Z) (zI Z) q init_M _ init_make) mv_M_make tb_M 0 rfl mw_132 d_M_init_92 rfl (Nat.le_of_ble_eq_true rfl) ⟨Nat.le_of_ble_eq_true rfl, Nat.le_of_ble_eq_true rfl⟩ ⟨rfl, rfl⟩ ⟨Nat.le_of_ble_eq_true rfl, Nat.le_of_ble_eq_true rfl⟩ ?_
  intro r v hv
  refine x_istore_n (pc := 95) (lv' := [(0, .ref (q 0)), (1, .int r)]) X d_M_init_95 (by decide) [1, 0] rfl ?_
  exact hR _ _ _ d_M_init_96 ⟨q, v, by rw [hq]; rfl, rfl, hv⟩
