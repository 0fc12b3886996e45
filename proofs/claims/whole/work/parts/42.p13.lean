/-! SIDE BY SIDE, 2: go, nodes, state, apart, apartBy. -/
theorem r_go {σ τ : St} {x : Int32} {post : Int32 → Int32 → St → St → Prop} (h : Rel σ τ) (hp : ∀ r r' u v, eqR r r' u v → post r r' u v) : wp_W_go x σ (fun r u => wp_M_go x τ (fun r' v => post r r' u v)) := by
  obtain ⟨n, Lt, δ, R, Q, S, h1, h2, h3, w, hw, h4, h5⟩ := h.2
  have hQ := Q_len h1
  have d2 := h1.1.2.1
  have d3 := h1.1.2.2.1
  obtain ⟨aw, haw, hawn, _⟩ := Q_at h1 hw
  have m7 : (us τ 0 0).1 7 = nI w := h5
  have m5 : (us τ 0 0).1 5 = nI Lt := h3.1.1
  have hC : TR (us τ 0 0) n Lt δ R Q S := h3.fr (ss := [0]) (aa := []) (Fr.us Fr.rf (by simp)) (fun k hk => by simp at hk; omega) (fun k hk => by simp at hk)
  -- the walk stays
  have stay : Rel σ (us (us τ 0 0) 7 (nI w)) := by
    refine ⟨h.1.fr (s1 := []) (a1 := []) (s2 := [0, 7]) (a2 := []) Fr.rf (Fr.us (Fr.us Fr.rf (by simp)) (by simp)) (by simp) (by simp), n, Lt, δ, R, Q, S, h1, h2, h3.fr (ss := [0, 7]) (aa := []) (Fr.us (Fr.us Fr.rf (by simp)) (by simp)) (fun k hk => by simp at hk; omega) (fun k hk => by simp at hk), w, hw, h4, us_s _ _ _⟩
  have goes : ∀ q, q < Q.length → Rel (us σ 0 (nI q)) (us (us τ 0 0) 7 (nI q)) := by
    intro q hq
    refine ⟨h.1.fr (s1 := [0]) (a1 := []) (s2 := [0, 7]) (a2 := []) (Fr.us Fr.rf (by simp)) (Fr.us (Fr.us Fr.rf (by simp)) (by simp)) (by simp) (by simp), n, Lt, δ, R, Q, S, h1, h2.fr (ss := [0]) (aa := []) (Fr.us Fr.rf (by simp)) (fun k hk => by simp at hk; omega) (fun k hk => by simp at hk), h3.fr (ss := [0, 7]) (aa := []) (Fr.us (Fr.us Fr.rf (by simp)) (by simp)) (fun k hk => by simp at hk; omega) (fun k hk => by simp at hk), q, hq, us_s _ _ _, us_s _ _ _⟩
  have mgo : ∀ (P : Int32 → St → Prop), (okb x Lt = false → P (-1) (us (us τ 0 0) 7 (nI w))) → (∀ l, l < Lt → x = nI l → (nx δ (ld Lt δ R) Q aw l = -1 → P (-1) (us (us τ 0 0) 7 (nI w))) ∧ (∀ q, q < Q.length → nx δ (ld Lt δ R) Q aw l = nI q → P (nI q) (us (us τ 0 0) 7 (nI q)))) → wp_M_go x τ P := by
    intro P p0 p1
    unfold wp_M_go
    rw [m7, m5]
    refine ⟨fun c => p0 (okb_neg c), fun c => ⟨fun c2 => ?_, fun c2 => p0 (okb_ge (by omega) (Int32.not_lt.mp c2))⟩⟩
    obtain ⟨l, hl, rfl⟩ := okb_ex (by omega) (okb_lt (N := Lt) (by omega) c (Int32.not_le.mpr c2))
    obtain ⟨pa, pb⟩ := p1 l hl rfl
    refine m_next h1 hC haw hl ?_
    rcases nx_in h1 hawn hl with e | ⟨q, hq, e⟩
    · rw [e]
      refine ⟨fun c3 => absurd c3 (by decide), fun _ => ?_⟩
      rw [m7]
      exact pa e
    · rw [e]
      exact ⟨fun _ => pb q hq e, fun c3 => absurd (nI_pos' (by omega)) c3⟩
  unfold wp_W_go
  rw [h4]
  have ew : okb (nI w) Q.length = true := okb_nI hw (by omega)
  refine w_to h1 h2 (fun c => ?_) (fun p a l k1 k2 k3 k4 k5 c => ?_)
  · rw [ew] at c
    have c : okb x Lt = false := by simpa using c
    refine ⟨fun _ => mgo _ (fun _ => hp _ _ _ _ ⟨rfl, stay⟩) (fun l hl e => ?_), fun c2 => absurd rfl c2⟩
    rw [e, okb_nI hl (by omega)] at c
    cases c
  · have ep : p = w := (nI_eq (by have := (List.getElem?_eq_some_iff.mp k1).1; omega) (by omega)).mp k4.symm
    subst ep
    rw [haw] at k1
    cases k1
    rcases nx_in h1 hawn k3 with e | ⟨q, hq, e⟩
    · rw [e]
      refine ⟨fun _ => mgo _ (fun _ => hp _ _ _ _ ⟨rfl, stay⟩) (fun l' hl' e' => ?_), fun c2 => absurd rfl c2⟩
      have el : l' = l := (nI_eq (by omega) (by omega)).mp (e'.symm.trans k5)
      subst el
      refine ⟨fun _ => hp _ _ _ _ ⟨rfl, stay⟩, fun q hq e2 => ?_⟩
      rw [e] at e2
      exact absurd e2.symm (nI_ne1 (by omega))
    · rw [e]
      refine ⟨fun c2 => absurd c2 (nI_ne1 (by omega)), fun _ => mgo _ (fun c2 => ?_) (fun l' hl' e' => ?_)⟩
      · rw [k5, okb_nI k3 (by omega)] at c2
        cases c2
      · have el : l' = l := (nI_eq (by omega) (by omega)).mp (e'.symm.trans k5)
        subst el
        refine ⟨fun e2 => ?_, fun q' hq' e2 => ?_⟩
        · rw [e] at e2
          exact absurd e2 (nI_ne1 (by omega))
        · have eq : q' = q := (nI_eq (by omega) (by omega)).mp (e2.symm.trans e)
          subst eq
          exact hp _ _ _ _ ⟨rfl, goes q' hq'⟩
theorem r_nodes {σ τ : St} {x : Int32} {post : Int32 → Int32 → St → St → Prop} (h : Rel σ τ) (hp : ∀ r r' u v, eqR r r' u v → post r r' u v) : wp_W_nodes x σ (fun r u => wp_M_nodes x τ (fun r' v => post r r' u v)) := by
  obtain ⟨n, Lt, δ, R, Q, S, h1, h2, h3, _⟩ := h.2
  have d2 := h1.1.2.1
  have eS : S.length = n := h1.2.2.2.2.1
  have m4 : (us τ 0 0).1 4 = nI n := h3.1.2.1
  unfold wp_W_nodes
  refine t_hasSet h2.1.2.1 (by omega) (bz (fun e => ?_) (fun e => ?_))
  · unfold wp_M_nodes
    rw [m4]
    refine ⟨fun _ => hp _ _ _ _ ⟨rfl, h.m0⟩, fun c => ⟨fun c2 => ?_, fun _ => hp _ _ _ _ ⟨rfl, h.m0⟩⟩⟩
    rw [okb_lt (N := n) (by omega) c (Int32.not_le.mpr c2)] at e
    cases e
  · obtain ⟨j, hj, rfl⟩ := okb_ex (by omega) e
    have hv : vp_in (nI j) 120 := vp_in_nI (by omega) (by omega)
    refine ⟨hv, ?_⟩
    unfold wp_M_nodes
    rw [m4]
    refine ⟨fun c => absurd c (nI_pos (by omega)), fun _ => ⟨fun _ => ⟨hv, ?_⟩, fun c => absurd (nI_lt hj (by omega)) c⟩⟩
    rw [nI_clamp (by omega)]
    refine hp _ _ _ _ ⟨?_, h.m0⟩
    have a1 := h2.2.1 j (by omega)
    have a2 := h3.2.1 j (by omega)
    exact Option.some.inj (a1.symm.trans a2)
theorem r_state {σ τ : St} {x : Int32} {post : Int32 → Int32 → St → St → Prop} (h : Rel σ τ) (hp : ∀ r r' u v, eqR r r' u v → post r r' u v) : wp_W_state x σ (fun r u => wp_M_state x τ (fun r' v => post r r' u v)) := by
  obtain ⟨n, Lt, δ, R, Q, S, h1, h2, h3, _⟩ := h.2
  have d2 := h1.1.2.1
  have m4 : (us τ 0 0).1 4 = nI n := h3.1.2.1
  unfold wp_W_state
  refine t_hasSet h2.1.2.1 (by omega) (bz (fun e => ?_) (fun e => ?_))
  · unfold wp_M_state
    rw [m4]
    refine ⟨fun _ => hp _ _ _ _ ⟨rfl, h.m0⟩, fun c => ⟨fun c2 => ?_, fun _ => hp _ _ _ _ ⟨rfl, h.m0⟩⟩⟩
    rw [okb_lt (N := n) (by omega) c (Int32.not_le.mpr c2)] at e
    cases e
  · obtain ⟨j, hj, rfl⟩ := okb_ex (by omega) e
    have hv : vp_in (nI j) 120 := vp_in_nI (by omega) (by omega)
    refine ⟨hv, ?_⟩
    unfold wp_M_state
    rw [m4]
    refine ⟨fun c => absurd c (nI_pos (by omega)), fun _ => ⟨fun _ => ⟨hv, ?_⟩, fun c => absurd (nI_lt hj (by omega)) c⟩⟩
    rw [nI_clamp (by omega)]
    refine hp _ _ _ _ ⟨?_, h.m0⟩
    have a1 := h2.2.2.2.2.2.2.2 j hj
    have a2 := h3.2.2.2.2.2 j hj
    exact a1.trans a2.symm
theorem t_rowLength {post : Int32 → St → Prop} {σ : St} {n Lt R p q a b : Nat} {δ : Nat → Nat → Option Nat} {Q : List Nat} {S : List Int32} (hT : okT n Lt δ R Q S) (hC : TC σ n Lt δ R Q S) (hp : Q[p]? = some a) (hq : Q[q]? = some b) (h : post (nI (dst Lt δ a b)) σ) : wp_T_rowLength (nI p) (nI q) σ post := by
  have d2 := hT.1.2.1
  have hQ := Q_len hT
  have hpl : p < Q.length := (List.getElem?_eq_some_iff.mp hp).1
  have hql : q < Q.length := (List.getElem?_eq_some_iff.mp hq).1
  obtain ⟨ha, la⟩ := hT.2.2.2.2.2.1.2.2 a (List.mem_of_getElem? hp)
  obtain ⟨hb, lb⟩ := hT.2.2.2.2.2.1.2.2 b (List.mem_of_getElem? hq)
  refine ⟨fun c => ?_, fun c => ?_⟩
  · have hpq : p ≠ q := fun e => c (by rw [e])
    have hab : a ≠ b := fun e => hpq (nodup_at hT.2.2.2.2.2.1.1 hp (by rw [e]; exact hq))
    rw [nI_clamp (by omega), nI_clamp (by omega), hC.2.2.2.2.2.2.1 p a hp, hC.2.2.2.2.2.2.1 q b hq]
    have hpr := pr_lt hab (by omega) (by omega)
    refine ⟨vp_in_nI (by omega) (by omega), vp_in_nI (by omega) (by omega), t_pair hab (by omega) (by omega) ⟨vp_in_nI hpr (by omega), ?_⟩⟩
    rw [nI_clamp (by omega), hC.2.2.2.1 a b ha hb hab la lb]
    exact h
  · have hpq : p = q := (nI_eq (by omega) (by omega)).mp c
    subst hpq
    rw [hp] at hq
    cases hq
    rw [dst_self] at h
    exact h
theorem w_apart {post : Int32 → St → Prop} {σ : St} {x1 x2 : Int32} {n Lt R : Nat} {δ : Nat → Nat → Option Nat} {Q : List Nat} {S : List Int32} (hT : okT n Lt δ R Q S) (hC : TC σ n Lt δ R Q S) (h0 : (okb x1 Q.length && okb x2 Q.length) = false → post (-1) σ) (h1 : ∀ (p q a b : Nat), Q[p]? = some a → Q[q]? = some b → x1 = nI p → x2 = nI q → (okb x1 Q.length && okb x2 Q.length) = true → post (nI (dst Lt δ a b)) σ) : wp_W_apart x1 x2 σ post := by
  have d2 := hT.1.2.1
  have hQ := Q_len hT
  unfold wp_W_apart
  refine t_hasState hC.2.2.2.2.2.1 (by omega) (bz (fun e => h0 (by rw [e]; rfl)) (fun e1 => t_hasState hC.2.2.2.2.2.1 (by omega) (bz' (fun e => h0 (by rw [e1, e]; rfl)) (fun e2 => ?_))))
  obtain ⟨p, hp, ep⟩ := okb_ex (by omega) e1
  obtain ⟨q, hq, eq⟩ := okb_ex (by omega) e2
  obtain ⟨a, ha, _⟩ := Q_at hT hp
  obtain ⟨b, hb, _⟩ := Q_at hT hq
  have hh := h1 p q a b ha hb ep eq (by rw [e1, e2]; rfl)
  rw [ep, eq]
  exact t_rowLength hT hC ha hb hh
theorem m_apart {post : Int32 → St → Prop} {σ : St} {x1 x2 : Int32} {n Lt R : Nat} {δ : Nat → Nat → Option Nat} {Q : List Nat} {S : List Int32} (hT : okT n Lt δ R Q S) (hC0 : TR σ n Lt δ R Q S) (h0 : (okb x1 Q.length && okb x2 Q.length) = false → post (-1) (us σ 0 0)) (h1 : ∀ (p q a b : Nat), Q[p]? = some a → Q[q]? = some b → x1 = nI p → x2 = nI q → (okb x1 Q.length && okb x2 Q.length) = true → post (nI (dst Lt δ a b)) (us σ 0 0)) : wp_M_apart x1 x2 σ post := by
  have d2 := hT.1.2.1
  have hQ := Q_len hT
  have hC : TR (us σ 0 0) n Lt δ R Q S := hC0.fr (ss := [0]) (aa := []) (Fr.us Fr.rf (by simp)) (fun k hk => by simp at hk; omega) (fun k hk => by simp at hk)
  have hs := hC.2.2.2.1
  unfold wp_M_apart
  refine m_isState hs (by omega) (bz (fun e => h0 (by rw [e]; rfl)) (fun e1 => m_isState hs (by omega) (bz (fun e => h0 (by rw [e1, e]; rfl)) (fun e2 => m_isState hs (by omega) (bz (fun e => absurd (e1.symm.trans e) (by decide)) (fun _ => ?_))))))
  obtain ⟨p, hp, ep⟩ := okb_ex (by omega) e1
  obtain ⟨q, hq, eq⟩ := okb_ex (by omega) e2
  obtain ⟨a, ha, han, _⟩ := Q_at hT hp
  obtain ⟨b, hb, hbn, _⟩ := Q_at hT hq
  have hh := h1 p q a b ha hb ep eq (by rw [e1, e2]; rfl)
  rw [ep, eq]
  have q1 := p120_lt d2 han hbn
  refine ⟨vp_in_nI (by omega) (by omega), m_isState hs (by omega) (bz (fun e => absurd ((okb_nI hq (by omega)).symm.trans e) (by decide)) (fun _ => ⟨vp_in_nI (by omega) (by omega), ?_⟩))⟩
  rw [nI_clamp (n := p) (by omega), nI_clamp (n := q) (by omega), hC.2.2.2.2.1 p a ha, hC.2.2.2.2.1 q b hb, p120_m, nI_clamp (by omega), (hC.2.2.1 a b han hbn).1]
  exact ⟨vp_in_nI q1 (by omega), hh⟩
theorem r_apart {σ τ : St} {x1 x2 : Int32} {post : Int32 → Int32 → St → St → Prop} (h : Rel σ τ) (hp : ∀ r r' u v, eqR r r' u v → post r r' u v) : wp_W_apart x1 x2 σ (fun r u => wp_M_apart x1 x2 τ (fun r' v => post r r' u v)) := by
  obtain ⟨n, Lt, δ, R, Q, S, h1, h2, h3, _⟩ := h.2
  have hQ := Q_len h1
  have d2 := h1.1.2.1
  refine w_apart h1 h2 (fun c => m_apart h1 h3 (fun _ => hp _ _ _ _ ⟨rfl, h.m0⟩) (fun p q a b _ _ _ _ c' => absurd (c.symm.trans c') (by decide))) (fun p q a b k1 k2 k3 k4 c => m_apart h1 h3 (fun c' => absurd (c'.symm.trans c) (by decide)) (fun p' q' a' b' j1 j2 j3 j4 _ => hp _ _ _ _ ⟨?_, h.m0⟩))
  have ep : p' = p := (nI_eq (by have := (List.getElem?_eq_some_iff.mp j1).1; omega) (by have := (List.getElem?_eq_some_iff.mp k1).1; omega)).mp (j3.symm.trans k3)
  have eq : q' = q := (nI_eq (by have := (List.getElem?_eq_some_iff.mp j2).1; omega) (by have := (List.getElem?_eq_some_iff.mp k2).1; omega)).mp (j4.symm.trans k4)
  subst ep; subst eq
  rw [k1] at j1
  rw [k2] at j2
  cases j1
  cases j2
  rfl
