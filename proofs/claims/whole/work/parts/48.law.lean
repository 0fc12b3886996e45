set_option maxHeartbeats 4000000 in
set_option maxRecDepth 100000 in
theorem law_loop {Z : ZT} {b L : Nat} {xs : Nat → Int32} (hL : L ≤ 2560) (X : Cx Z "WayTableLaw" code room_1 4) (hX : va_X b L xs (zs Z) (zs Z).heap) (hbl : b < (zs Z).heap.size) (hbA : ¬ zA Z b) {q p : Nat → Nat} (hend : ∀ (ws : va_W) (lv : List (Nat × Value)), VV Z 22 53497 ws lv 551 []) :
    ∀ (n i : Nat) (σ τ : St), L < i + n → i ≤ L + 5 → Rel σ τ → VV Z 22 53497 ((wC (zI Z) q σ) ++ (wM (zI Z) p τ)) [(0, .ref b), (1, .ref (q 0)), (2, .ref (p 0)), (3, .int (nI i))] 18 [] := by
  intro n
  induction n with
  | zero =>
    intro i σ τ h1 h2 hRel
    have hgt : nI L - nI 5 < nI i := by
      rw [Int32.lt_iff_toInt_lt, pk_sub_toInt (by omega) (by omega), nI_toInt (by omega)]
      omega
    refine x_iload_n (pc := 18) X d_law_18 3 rfl ?_
    refine x_aload_n (pc := 19) X d_law_19 0 rfl ?_
    refine x_slen (pc := 20) X hX hbl hbA d_law_20 ?_
    refine x_iconst (pc := 21) (v := (nI 5)) X d_law_21 (by decide) ?_
    refine x_isub (pc := 22) X d_law_22 ?_
    exact x_icmp_gt (pc := 23) (tgt := 551) X d_law_23 (by decide) (fun _ => hend _ _) (fun c => absurd hgt c)
  | succ n ih =>
    intro i σ τ h1 h2 hRel
    refine x_iload_n (pc := 18) X d_law_18 3 rfl ?_
    refine x_aload_n (pc := 19) X d_law_19 0 rfl ?_
    refine x_slen (pc := 20) X hX hbl hbA d_law_20 ?_
    refine x_iconst (pc := 21) (v := (nI 5)) X d_law_21 (by decide) ?_
    refine x_isub (pc := 22) X d_law_22 ?_
    refine x_icmp_gt (pc := 23) (tgt := 551) X d_law_23 (by decide) (fun _ => hend _ _) (fun c => ?_)
    have hi : i + 5 ≤ L := by
      have : ¬ (nI L - nI 5).toInt < (nI i).toInt := fun z => c (Int32.lt_iff_toInt_lt.mpr z)
      rw [pk_sub_toInt (by omega) (by omega), nI_toInt (by omega)] at this
      omega
    have i0 : vp_in (nI i) L := vp_in_nI (by omega) (by omega)
    have i1 : vp_in (nI i + 1) L := by rw [nI_1]; exact vp_in_nI (by omega) (by omega)
    have i2 : vp_in (nI i + (nI 2)) L := by rw [nI_add]; exact vp_in_nI (by omega) (by omega)
    have i3 : vp_in (nI i + (nI 3)) L := by rw [nI_add]; exact vp_in_nI (by omega) (by omega)
    have i4 : vp_in (nI i + (nI 4)) L := by rw [nI_add]; exact vp_in_nI (by omega) (by omega)
    have hK : ∀ u v : St, Rel u v → VV Z 22 53497 ((wC (zI Z) q u) ++ (wM (zI Z) p v)) [(0, .ref b), (1, .ref (q 0)), (2, .ref (p 0)), (3, .int (nI i))] 545 [] := by
      intro u v hR
      refine x_iinc (pc := 545) (d := (nI 5)) (lv' := [(0, .ref b), (1, .ref (q 0)), (2, .ref (p 0)), (3, .int (nI i + (nI 5)))]) X d_law_545 3 rfl (by decide) (by decide) [1, 2, 3, 0] rfl ?_
      refine x_goto (pc := 548) (tgt := 18) X d_law_548 (by decide) ?_
      rw [nI_add]
      exact ih (i + 5) u v (by omega) (by omega) hR
    refine x_aload_n (pc := 26) X d_law_26 0 rfl ?_
    refine x_iload_n (pc := 27) X d_law_27 3 rfl ?_
    refine x_sld (pc := 28) X hX hbl hbA i0 d_law_28 ?_
    refine x_bipush (pc := 29) (v := (nI 15)) X d_law_29 (by decide) ?_
    refine x_iand (pc := 31) X d_law_31 ?_
    refine x_table (pc := 32) (N := 15) (dt := 545) X (fun j => [108, 141, 210, 243, 254, 277, 290, 301, 324, 357, 380, 403, 436, 479, 522].getD j 0) d_law_32 (by decide) (by decide) (by decide) (by decide) (fun j hj _ => ?_) (fun _ => hK σ τ hRel)
    rcases (show j = 0 ∨ j = 1 ∨ j = 2 ∨ j = 3 ∨ j = 4 ∨ j = 5 ∨ j = 6 ∨ j = 7 ∨ j = 8 ∨ j = 9 ∨ j = 10 ∨ j = 11 ∨ j = 12 ∨ j = 13 ∨ j = 14 by omega) with rfl | rfl | rfl | rfl | rfl | rfl | rfl | rfl | rfl | rfl | rfl | rfl | rfl | rfl | rfl
    · exact law_begin hL X hX hbl hbA hRel i1 i2 i3 i4 hK
    · exact law_way hL X hX hbl hbA hRel i1 i2 i3 i4 hK
    · exact law_fill hL X hX hbl hbA hRel i1 i2 i3 i4 hK
    · exact law_turn hL X hX hbl hbA hRel i1 i2 i3 i4 hK
    · exact law_start hL X hX hbl hbA hRel i1 i2 i3 i4 hK
    · exact law_make hL X hX hbl hbA hRel i1 i2 i3 i4 hK
    · exact law_home hL X hX hbl hbA hRel i1 i2 i3 i4 hK
    · exact law_go hL X hX hbl hbA hRel i1 i2 i3 i4 hK
    · exact law_to hL X hX hbl hbA hRel i1 i2 i3 i4 hK
    · exact law_nodes hL X hX hbl hbA hRel i1 i2 i3 i4 hK
    · exact law_state hL X hX hbl hbA hRel i1 i2 i3 i4 hK
    · exact law_apart hL X hX hbl hbA hRel i1 i2 i3 i4 hK
    · exact law_apartBy hL X hX hbl hbA hRel i1 i2 i3 i4 hK
    · exact law_is hL X hX hbl hbA hRel i1 i2 i3 i4 hK
    · exact law_look hL X hX hbl hbA hRel i1 i2 i3 i4 hK
set_option maxHeartbeats 4000000 in
set_option maxRecDepth 100000 in
/-- THE LAW, from its entry -/
theorem whole_start {p : Program} {e : Env} {s : State} {m : MethodId} {below : List Frame} {meth : Method} {c : Code} (l : Launch) {b L : Nat} {xs : Nat → Int32} (hL : L ≤ 2560) (C0 : lw_At p s m meth c b L xs) : W p l e room_1 s m #[Value.ref b] below meth c s.heap [] 0 0 (lw_Z below #[Value.ref b] s) (entryFrame m ([Value.ref b] : List Value).toArray 4) := by
  obtain ⟨hx, hb, hr, hml, hown, hts, hX, hbl, hlocks, hgv⟩ := id C0
  have hbA : ¬ (fun q : Nat => s.heap.size ≤ q) b := Nat.not_le.mpr hbl
  have hT0 : ∀ w ∈ T0, w.before #[Value.ref b] s = true := fun w h => hts w (T0_tb h)
  have hN0 : nw_all s := fun w h => va_Nw.of (nest_tab (List.mem_filter.mp h).2) (hts w (List.mem_filter.mp h).1)
  obtain ⟨c0, iS0, hKn0⟩ := u_known (C := R_W) (T := F_W) (N := 3) (n := 3) hT0 (tb_W).2.1 (hT0 _ mw_163)
  obtain ⟨c1, iS1, hKn1⟩ := u_known (C := R_G) (T := F_G) (N := 4) (n := 4) hT0 (tb_G).2.1 (hT0 _ mw_124)
  obtain ⟨c2, iS2, hKn2⟩ := u_known (C := R_T) (T := F_T) (N := 12) (n := 12) hT0 (tb_T).2.1 (hT0 _ mw_128)
  obtain ⟨c3, iS3, hKn3⟩ := u_known (C := R_M) (T := F_M) (N := 17) (n := 17) hT0 (tb_M).2.1 (hT0 _ mw_164)
  obtain ⟨dC, dI, hKc⟩ : ∃ (dC : Nat → ClassId) (dI : Nat → Nat → Nat), ∀ (k : Nat) (q : vw_C), classes[k]? = some q → u_Kn s q.1 q.2.1 q.2.2 (dC k) (dI k) := by
    refine ⟨fun k => if k = 0 then c0 else if k = 1 then c1 else if k = 2 then c2 else c3, fun k => if k = 0 then iS0 else if k = 1 then iS1 else if k = 2 then iS2 else iS3, ?_⟩
    intro k q hq
    match k, hq with
    | 0, hq => cases hq; exact hKn0
    | 1, hq => cases hq; exact hKn1
    | 2, hq => cases hq; exact hKn2
    | 3, hq => cases hq; exact hKn3
    | k + 4, hq => simp [classes] at hq
  obtain ⟨cI, kA, comp, ha1, ha2, ha3⟩ := Cond.arrayClass_spec (hT0 _ mw_120)
  have hK : va_K (dC, dI) classes [(cI, .int)] s := ⟨hKc, fun k q hq => by
    match k, hq with
    | 0, hq => cases hq; exact ⟨fun n z => ⟨fun k h => (by cases h), kA, ha2, comp, ha3⟩, ha1⟩
    | k + 1, hq => simp at hq⟩
  have hl := lv_entry ([.ref b]) (n := 4) (Nat.le_of_ble_eq_true rfl)
  rw [lg_entry_eq]
  generalize hZ : ((p, l, e, room_1, s, m, #[Value.ref b], below, meth, c, (fun q : Nat => s.heap.size ≤ q), lw_Z below #[Value.ref b] s, (dC, dI), cI, 4) : ZT) = Z
  have X : Cx Z "WayTableLaw" code room_1 4 := by
    rw [← hZ]
    exact ⟨hx, hb, hml, hown, hT0, hK, fun _ h => h, hN0, rfl, rfl⟩
  have hend : ∀ (ws : va_W) (lv : List (Nat × Value)), VV Z 22 53497 ws lv 551 [] := by
    intro ws lv
    refine x_iconst (pc := 551) (v := 1) X d_law_551 (by decide) ?_
    rw [← hZ]
    intro H locs ls hP hD hS hl
    refine va_forget (fun q hq => hS.2.2 q hq) ?_
    refine W.widen (k := 22) (n := 53497) (by decide) (by decide) ?_
    exact lw_ret hx hb hr hlocks d_law_552
  have hXZ : va_X b L xs (zs Z) (zs Z).heap := by rw [← hZ]; exact hX
  have hblZ : b < (zs Z).heap.size := by rw [← hZ]; exact hbl
  have hbAZ : ¬ zA Z b := by rw [← hZ]; exact hbA
  have key : VV Z 0 0 [] [(0, .ref b)] 0 [] := by
    refine x_new (pc := 0) (fs := [.null, .null, .int 0]) X tb_W ty_W tt_W mw_165 mw_163 mw_166 (fun j hj => by rcases (show j = 0 ∨ j = 1 ∨ j = 2 by omega) with rfl | rfl | rfl <;> rfl) (Nat.le_of_ble_eq_true rfl) (Nat.le_of_ble_eq_true rfl) d_law_0 ?_
    intro h0
    refine x_dup (pc := 3) X d_law_3 rfl ?_
    refine x_ck (pc := 4) (wr := []) X (k_W_init (zl Z) (zD Z) (zI Z) h0) mk_W_init mw_167 d_law_4 (Nat.le_of_ble_eq_true rfl) ⟨Nat.le_of_ble_eq_true rfl, Nat.le_of_ble_eq_true rfl⟩ ⟨rfl, rfl⟩ ⟨Nat.le_of_ble_eq_true rfl, Nat.le_of_ble_eq_true rfl⟩ ?_
    rintro w ⟨a1, a2, a3, a4, a5, a6, a7, a8, a9, a10, a11, rfl⟩
    obtain ⟨q, hq⟩ : ∃ q : Nat → Nat, q = fun k => [h0, a1, a2, a3, a4, a5, a6, a7, a8, a9, a10, a11].getD k 0 := ⟨_, rfl⟩
    have e0 : h0 = q 0 := by rw [hq]; rfl
    rw [show ([] : va_W) ++ [(h0, .inr (0, [.ref a1, .ref a3, .int 0])), (a1, .inr (1, [.int 1, .int 1, .int 0, .ref a2])), (a2, .inl ((zI Z), 960, .inl (fun _ => 0))), (a3, .inr (2, [.int 1, .int 1, .int 1, .int 0, .ref a4, .ref a5, .ref a6, .ref a7, .ref a8, .ref a9, .ref a10, .ref a11])), (a4, .inl ((zI Z), 120, .inl (upd (fun _ => 0) ((0 : Int32).toNatClampNeg) 1))), (a5, .inl ((zI Z), 120, .inl (fun _ => 0))), (a6, .inl ((zI Z), 4800, .inl (upd (fun _ => 0) ((0 : Int32).toNatClampNeg) (-1)))), (a7, .inl ((zI Z), 120, .inl (fun _ => 0))), (a8, .inl ((zI Z), 120, .inl (fun _ => 0))), (a9, .inl ((zI Z), 120, .inl (fun _ => 0))), (a10, .inl ((zI Z), 120, .inl (fun _ => 0))), (a11, .inl ((zI Z), 7140, .inl (fun _ => 0)))] = wC (zI Z) q init_C by rw [hq]; rfl, e0]
    refine x_astore_n (pc := 7) (lv' := [(0, .ref b), (1, .ref (q 0))]) X d_law_7 (by decide) [1, 0] rfl ?_
    refine x_new (pc := 8) (fs := [.int 0, .int 0, .int 0, .int 0, .null, .int 0, .int 0, .null, .null, .null, .null, .null, .null, .int 0, .int 0, .null, .null]) X tb_M ty_M tt_M mw_168 mw_164 mw_169 (fun j hj => by rcases (show j = 0 ∨ j = 1 ∨ j = 2 ∨ j = 3 ∨ j = 4 ∨ j = 5 ∨ j = 6 ∨ j = 7 ∨ j = 8 ∨ j = 9 ∨ j = 10 ∨ j = 11 ∨ j = 12 ∨ j = 13 ∨ j = 14 ∨ j = 15 ∨ j = 16 by omega) with rfl | rfl | rfl | rfl | rfl | rfl | rfl | rfl | rfl | rfl | rfl | rfl | rfl | rfl | rfl | rfl | rfl <;> rfl) (Nat.le_of_ble_eq_true rfl) (Nat.le_of_ble_eq_true rfl) d_law_8 ?_
    intro m0
    refine x_dup (pc := 11) X d_law_11 rfl ?_
    refine x_ck (pc := 12) (wr := wC (zI Z) q init_C) X (k_M_init (zl Z) (zD Z) (zI Z) m0) mk_M_init mw_170 d_law_12 (Nat.le_of_ble_eq_true rfl) ⟨Nat.le_of_ble_eq_true rfl, Nat.le_of_ble_eq_true rfl⟩ ⟨rfl, rfl⟩ ⟨Nat.le_of_ble_eq_true rfl, Nat.le_of_ble_eq_true rfl⟩ ?_
    rintro w ⟨p, v, hp0, rfl, hRel⟩
    rw [← hp0]
    refine x_astore_n (pc := 15) (lv' := [(0, .ref b), (1, .ref (q 0)), (2, .ref (p 0))]) X d_law_15 (by decide) [1, 2, 0] rfl ?_
    refine x_iconst (pc := 16) (v := 0) X d_law_16 (by decide) ?_
    refine x_istore_n (pc := 17) (lv' := [(0, .ref b), (1, .ref (q 0)), (2, .ref (p 0)), (3, .int 0)]) X d_law_17 (by decide) [1, 2, 3, 0] rfl ?_
    exact law_loop hL X hXZ hblZ hbAZ hend (L + 1) 0 init_C v (by omega) (by omega) hRel
  rw [← hZ] at key
  exact key s.heap [] _ (fun k q h => by simp at h) ⟨fun i j p q h => by simp at h, fun k q h => by simp at h⟩ va_S.rf hl

