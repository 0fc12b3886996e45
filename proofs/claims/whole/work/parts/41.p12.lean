/-! CLASS AND REFERENCE SIDE BY SIDE: each call answers alike and keeps them alike. -/
def RelG (σ τ : St) : Prop := ∃ N Lt s0 W, okG N Lt s0 W ∧ GG σ N Lt s0 W ∧ GG τ N Lt s0 W
def RelT (σ τ : St) : Prop := ∃ n Lt δ R Q S, okT n Lt δ R Q S ∧ TC σ n Lt δ R Q S ∧ TR τ n Lt δ R Q S ∧ ∃ w, w < Q.length ∧ σ.1 0 = nI w ∧ τ.1 7 = nI w
def Rel (σ τ : St) : Prop := RelG σ τ ∧ RelT σ τ
def eqR (r r' : Int32) (u v : St) : Prop := r = r' ∧ Rel u v
theorem RelT.fr {σ τ σ' τ' : St} (h : RelT σ τ) (f : Fr σ σ' [1, 2, 3] [0, 2]) (g : Fr τ τ' [0, 1, 2, 3] [0, 7, 8]) : RelT σ' τ' := by
  obtain ⟨n, Lt, δ, R, Q, S, h1, h2, h3, w, hw, h4, h5⟩ := h
  exact ⟨n, Lt, δ, R, Q, S, h1, h2.fr f (fun k hk => by simp at hk; omega) (fun k hk => by simp at hk; omega), h3.fr g (fun k hk => by simp at hk; omega) (fun k hk => by simp at hk; omega), w, hw, (f.1 0 (by simp)).trans h4, (g.1 7 (by simp)).trans h5⟩
theorem RelG.fr {σ τ σ' τ' : St} (h : RelG σ τ) {s1 a1 s2 a2 : List Nat} (f : Fr σ σ' s1 a1) (g : Fr τ τ' s2 a2) (c : 1 ∉ s1 ∧ 2 ∉ s1 ∧ 3 ∉ s1 ∧ 0 ∉ a1) (d : 1 ∉ s2 ∧ 2 ∉ s2 ∧ 3 ∉ s2 ∧ 0 ∉ a2) : RelG σ' τ' := by
  obtain ⟨N, Lt, s0, W, h1, h2, h3⟩ := h
  exact ⟨N, Lt, s0, W, h1, h2.fr f c.1 c.2.1 c.2.2.1 c.2.2.2, h3.fr g d.1 d.2.1 d.2.2.1 d.2.2.2⟩
theorem Rel.m0 {σ τ : St} (h : Rel σ τ) : Rel σ (us τ 0 0) := ⟨h.1.fr (s1 := []) (a1 := []) (s2 := [0]) (a2 := []) Fr.rf (Fr.us Fr.rf (by simp)) (by simp) (by simp), h.2.fr Fr.rf (Fr.us Fr.rf (by simp))⟩
theorem r_begin {σ τ : St} {x1 x2 : Int32} {post : Int32 → Int32 → St → St → Prop} (h : Rel σ τ) (hp : ∀ r r' u v, eqR r r' u v → post r r' u v) : wp_W_begin x1 x2 σ (fun r u => wp_M_begin x1 x2 τ (fun r' v => post r r' u v)) := by
  obtain ⟨N, Lt, s0, W, ok, g1, g2⟩ := h.1
  refine w_begin (fun c => m_begin (fun _ => hp _ _ _ _ ⟨rfl, h.m0⟩) (fun c' => absurd c' c)) (fun c => m_begin (fun c' => absurd c c') (fun _ => hp _ _ _ _ ⟨rfl, ?_, ?_⟩))
  · obtain ⟨N', Lt', b1, b2, b3, b4, rfl, rfl⟩ := beg_ex c
    refine ⟨N', Lt', 0, fll W 0 960 0, beg_ok ok b1 b2 b3 b4, ⟨rfl, rfl, rfl, ?_⟩, ⟨rfl, rfl, rfl, ?_⟩⟩
    · rw [uA_s, g1.2.2.2]
    · rw [uA_s, g2.2.2.2]
  · exact h.2.fr (Fr.uA (Fr.us (Fr.us (Fr.us Fr.rf (by simp)) (by simp)) (by simp)) (by simp)) (Fr.uA (Fr.us (Fr.us (Fr.us (Fr.us Fr.rf (by simp)) (by simp)) (by simp)) (by simp)) (by simp))
theorem r_way {σ τ : St} {x1 x2 x3 x4 : Int32} {post : Int32 → Int32 → St → St → Prop} (h : Rel σ τ) (hp : ∀ r r' u v, eqR r r' u v → post r r' u v) : wp_W_way x1 x2 x3 x4 σ (fun r u => wp_M_way x1 x2 x3 x4 τ (fun r' v => post r r' u v)) := by
  obtain ⟨N, Lt, s0, W, ok, g1, g2⟩ := h.1
  have hN := ok.2.1
  have hL := ok.2.2.2.1
  refine w_way g1 ok (fun c => m_way g2 ok (fun _ => hp _ _ _ _ ⟨rfl, h.m0.m0⟩) (fun _ => hp _ _ _ _ ⟨rfl, h.m0⟩) (fun c' => absurd (c.symm.trans c') (by decide))) (fun c => m_way g2 ok (fun c' => absurd (c.symm.trans c') (by decide)) (fun c' => absurd (c.symm.trans c') (by decide)) (fun _ => hp _ _ _ _ ⟨rfl, ?_, ?_⟩))
  · unfold wayR at c
    simp only [Bool.and_eq_true] at c
    obtain ⟨⟨e1, e2, e3⟩, _⟩ := c
    obtain ⟨a, ha, rfl⟩ := okb_ex (by omega) e1
    obtain ⟨l, hl, rfl⟩ := okb_ex (by omega) e2
    obtain ⟨t, ht, rfl⟩ := okb_ex (by omega) e3
    rw [nI_clamp (by omega), nI_clamp (by omega), nI_clamp (by omega)]
    exact ⟨N, Lt, s0, fl W (24 * l + a) t, fl_ok ok ha hl ht, ⟨g1.1, g1.2.1, g1.2.2.1, uA_s _ _ _⟩, ⟨g2.1, g2.2.1, g2.2.2.1, uA_s _ _ _⟩⟩
  · exact h.2.fr (Fr.uA Fr.rf (by simp)) (Fr.uA (Fr.us (Fr.us Fr.rf (by simp)) (by simp)) (by simp))
theorem r_fill {σ τ : St} {x1 x2 : Int32} {post : Int32 → Int32 → St → St → Prop} (h : Rel σ τ) (hp : ∀ r r' u v, eqR r r' u v → post r r' u v) : wp_W_fill x1 x2 σ (fun r u => wp_M_fill x1 x2 τ (fun r' v => post r r' u v)) := by
  obtain ⟨N, Lt, s0, W, ok, g1, g2⟩ := h.1
  refine w_fill g1 ok (fun c => m_fill g2 ok (fun _ => hp _ _ _ _ ⟨rfl, h.m0⟩) (fun l t _ _ _ _ c' => absurd (c.symm.trans c') (by decide))) (fun l t hl ht e1 e2 c => m_fill g2 ok (fun c' => absurd (c.symm.trans c') (by decide)) (fun l' t' hl' ht' e1' e2' _ υ hf hg => hp _ _ _ _ ?_))
  have hN := ok.2.1
  have hL := ok.2.2.2.1
  have el : l' = l := (nI_eq (by omega) (by omega)).mp (e1'.symm.trans e1)
  have et : t' = t := (nI_eq (by omega) (by omega)).mp (e2'.symm.trans e2)
  subst el; subst et
  refine ⟨rfl, ⟨N, Lt, s0, flW l' t' W N, flW_ok ok hl ht N (Nat.le_refl N), ⟨g1.1, g1.2.1, g1.2.2.1, uA_s _ _ _⟩, hg⟩, h.2.fr (Fr.uA Fr.rf (by simp)) (hf.mo (fun k hk => by simp at hk ⊢; omega) (fun k hk => by simp at hk ⊢; omega))⟩
theorem r_turn {σ τ : St} {post : St → St → Prop} (h : Rel σ τ) (hp : ∀ u v, Rel u v → post u v) : wp_W_turn σ (fun u => wp_M_turn τ (fun v => post u v)) := by
  obtain ⟨N, Lt, s0, W, ok, g1, g2⟩ := h.1
  refine w_turn g1 ok (m_turn g2 ok (hp _ _ ⟨⟨N, Lt, s0, swL N W Lt, swL_ok ok Lt (Nat.le_refl Lt), ⟨g1.1, g1.2.1, g1.2.2.1, uA_s _ _ _⟩, ⟨g2.1, g2.2.1, g2.2.2.1, uA_s _ _ _⟩⟩, ?_⟩))
  exact h.2.fr (Fr.uA Fr.rf (by simp)) (Fr.uA (Fr.us Fr.rf (by simp)) (by simp))
theorem r_start {σ τ : St} {x : Int32} {post : Int32 → Int32 → St → St → Prop} (h : Rel σ τ) (hp : ∀ r r' u v, eqR r r' u v → post r r' u v) : wp_W_start x σ (fun r u => wp_M_start x τ (fun r' v => post r r' u v)) := by
  obtain ⟨N, Lt, s0, W, ok, g1, g2⟩ := h.1
  refine w_start g1 ok (fun c => m_start g2 ok (fun _ => hp _ _ _ _ ⟨rfl, h.m0⟩) (fun c' => absurd (c.symm.trans c') (by decide))) (fun c => m_start g2 ok (fun c' => absurd (c.symm.trans c') (by decide)) (fun _ => hp _ _ _ _ ⟨rfl, ?_, ?_⟩))
  · have hN := ok.2.1
    obtain ⟨j, hj, rfl⟩ := okb_ex (by omega) c
    exact ⟨N, Lt, j, W, ⟨ok.1, ok.2.1, ok.2.2.1, ok.2.2.2.1, hj, ok.2.2.2.2.2⟩, ⟨g1.1, g1.2.1, us_s _ _ _, g1.2.2.2⟩, ⟨g2.1, g2.2.1, us_s _ _ _, g2.2.2.2⟩⟩
  · exact h.2.fr (Fr.us Fr.rf (by simp)) (Fr.us (Fr.us Fr.rf (by simp)) (by simp))
theorem r_is {σ τ : St} {x1 x2 x3 : Int32} {post : Int32 → Int32 → St → St → Prop} (h : Rel σ τ) (hp : ∀ r r' u v, eqR r r' u v → post r r' u v) : wp_W_is x1 x2 x3 σ (fun r u => wp_M_is x1 x2 x3 τ (fun r' v => post r r' u v)) := by
  obtain ⟨N, Lt, s0, W, ok, g1, g2⟩ := h.1
  exact w_is g1 ok (m_is g2 ok (hp _ _ _ _ ⟨rfl, h.m0⟩))
theorem r_make {σ τ : St} {post : Int32 → Int32 → St → St → Prop} (h : Rel σ τ) (hp : ∀ r r' u v, eqR r r' u v → post r r' u v) : wp_W_make σ (fun r u => wp_M_make τ (fun r' v => post r r' u v)) := by
  obtain ⟨N, Lt, s0, W, ok, g1, g2⟩ := h.1
  refine w_make g1 ok (fun hb u fu => m_make g2 ok (fun _ v fv => hp _ _ _ _ ⟨rfl, ?_, ?_⟩) (fun S hS => absurd (hb.symm.trans hS) (by simp))) (fun S hS R hR1 hR2 hR3 u fu u0 hTC => m_make g2 ok (fun hb => absurd (hb.symm.trans hS) (by simp)) (fun S' hS' R' hR1' hR2' hR3' v fv v7 hTR => hp _ _ _ _ ?_))
  · exact h.1.fr fu fv (by simp) (by simp)
  · exact h.2.fr (fu.mo (fun k hk => by simp at hk) (fun k hk => by simp at hk ⊢; omega)) (fv.mo (fun k hk => by simp at hk ⊢; omega) (fun k hk => by simp at hk ⊢; omega))
  · have eS : S' = S := Option.some.inj (hS'.symm.trans hS)
    subst eS
    have eR : R' = R := by
      rcases Nat.lt_trichotomy R' R with z | z | z
      · exact absurd hR2' (hR3 R' z)
      · exact z
      · exact absurd hR2 (hR3' R z)
    subst eR
    have hD := dlt_ok ok.2.2.2.1 hS
    obtain ⟨q1, q2⟩ := all_num hD hR2 (fun k hk hkn => dlt_par hS hk hkn)
    refine ⟨rfl, h.1.fr fu fv (by simp) (by simp), S'.length, Lt, dlt W N S', R', _, S', ⟨hD, hR1, hR2, hR3, rfl, q1, q2⟩, hTC, hTR, 0, q1.2.1, u0, v7⟩
theorem r_home {σ τ : St} {post : St → St → Prop} (h : Rel σ τ) (hp : ∀ u v, Rel u v → post u v) : wp_W_home σ (fun u => wp_M_home τ (fun v => post u v)) := by
  refine hp _ _ ⟨h.1.fr (s1 := [0]) (a1 := []) (s2 := [0, 7]) (a2 := []) (Fr.us Fr.rf (by simp)) (Fr.us (Fr.us Fr.rf (by simp)) (by simp)) (by simp) (by simp), ?_⟩
  obtain ⟨n, Lt, δ, R, Q, S, h1, h2, h3, w, hw, h4, h5⟩ := h.2
  refine ⟨n, Lt, δ, R, Q, S, h1, h2.fr (ss := [0]) (aa := []) (Fr.us Fr.rf (by simp)) (fun k hk => by simp at hk; omega) (fun k hk => by simp at hk), h3.fr (ss := [0, 7]) (aa := []) (Fr.us (Fr.us Fr.rf (by simp)) (by simp)) (fun k hk => by simp at hk; omega) (fun k hk => by simp at hk), 0, h1.2.2.2.2.2.1.2.1, us_s _ _ _, us_s _ _ _⟩
/-- where a state goes by a letter -/
def nx (δ : Nat → Nat → Option Nat) (ρ : Nat → Nat) (Q : List Nat) (a l : Nat) : Int32 := match δ a l with
  | none => -1
  | some t => soQ Q (ρ t)
theorem nx_in {n Lt R : Nat} {δ : Nat → Nat → Option Nat} {Q : List Nat} {S : List Int32} (hT : okT n Lt δ R Q S) {a l : Nat} (ha : a < n) (hl : l < Lt) : nx δ (ld Lt δ R) Q a l = -1 ∨ ∃ q, q < Q.length ∧ nx δ (ld Lt δ R) Q a l = nI q := by
  unfold nx
  cases hd : δ a l with
  | none => exact Or.inl rfl
  | some t =>
    have ht := hT.1.2.2.2 a l t ha hl hd
    have hm := hT.2.2.2.2.2.2 t ht
    exact Or.inr ⟨ixl Q (ld Lt δ R t), ixl_lt hm, soQ_in hm⟩
theorem Q_at {n Lt R : Nat} {δ : Nat → Nat → Option Nat} {Q : List Nat} {S : List Int32} (hT : okT n Lt δ R Q S) {p : Nat} (hp : p < Q.length) : ∃ a, Q[p]? = some a ∧ a < n ∧ ld Lt δ R a = a := by
  have e := List.getElem?_eq_getElem hp
  have := hT.2.2.2.2.2.1.2.2 _ (List.mem_of_getElem? e)
  exact ⟨_, e, this.1, this.2⟩
theorem Q_len {n Lt R : Nat} {δ : Nat → Nat → Option Nat} {Q : List Nat} {S : List Int32} (hT : okT n Lt δ R Q S) : Q.length ≤ n := nodup_len n Q hT.2.2.2.2.2.1.1 (fun x hx => (hT.2.2.2.2.2.1.2.2 x hx).1)
theorem t_stateAfter {post : Int32 → St → Prop} {σ : St} {n Lt R p a l : Nat} {δ : Nat → Nat → Option Nat} {Q : List Nat} {S : List Int32} (hT : okT n Lt δ R Q S) (hC : TC σ n Lt δ R Q S) (hp : Q[p]? = some a) (hl : l < Lt) (h : post (nx δ (ld Lt δ R) Q a l) σ) : wp_T_stateAfter (nI p) (nI l) σ post := by
  have d2 := hT.1.2.1
  have d3 := hT.1.2.2.1
  have hpl : p < Q.length := (List.getElem?_eq_some_iff.mp hp).1
  have hQ := Q_len hT
  have ha := (hT.2.2.2.2.2.1.2.2 a (List.mem_of_getElem? hp)).1
  unfold wp_T_stateAfter
  rw [nI_clamp (n := p) (by omega), hC.2.2.2.2.2.2.1 p a hp, p40_c, nI_clamp (n := 40 * a + l) (by omega), hC.1.2.2 a l ha hl]
  refine ⟨vp_in_nI (by omega) (by omega), vp_in_nI (by omega) (by omega), ?_⟩
  unfold nx at h
  refine enc_test (fun t e => by have := hT.1.2.2.2 a l t ha hl e; omega) (fun e => ?_) (fun t e => ?_)
  · rw [e] at h; exact h
  · rw [e] at h ⊢
    have ht := hT.1.2.2.2 a l t ha hl e
    show vp_in (nI t) 120 ∧ post (σ.2 6 (nI t).toNatClampNeg) σ
    rw [nI_clamp (by omega), hC.2.2.2.2.2.2.2 t ht]
    exact ⟨vp_in_nI (by omega) (by omega), h⟩
theorem m_next {post : Int32 → St → Prop} {σ : St} {n Lt R p a l : Nat} {δ : Nat → Nat → Option Nat} {Q : List Nat} {S : List Int32} (hT : okT n Lt δ R Q S) (hC : TR σ n Lt δ R Q S) (hp : Q[p]? = some a) (hl : l < Lt) (h : post (nx δ (ld Lt δ R) Q a l) σ) : wp_M_next (nI p) (nI l) σ post := by
  have d2 := hT.1.2.1
  have d3 := hT.1.2.2.1
  have hpl : p < Q.length := (List.getElem?_eq_some_iff.mp hp).1
  have hQ := Q_len hT
  have ha := (hT.2.2.2.2.2.1.2.2 a (List.mem_of_getElem? hp)).1
  unfold wp_M_next
  rw [nI_clamp (n := p) (by omega), hC.2.2.2.2.1 p a hp, p40_m, nI_clamp (n := 40 * a + l) (by omega), hC.1.2.2 a l ha hl]
  refine ⟨vp_in_nI (by omega) (by omega), vp_in_nI (by omega) (by omega), ?_⟩
  unfold nx at h
  cases e : δ a l with
  | none =>
    rw [e] at h
    exact ⟨fun c => absurd c (by decide), fun _ => h⟩
  | some t =>
    rw [e] at h
    have ht := hT.1.2.2.2 a l t ha hl e
    show ((0 ≤ nI t → _) ∧ (¬ 0 ≤ nI t → _))
    refine ⟨fun _ => ?_, fun c => absurd (nI_pos' (by omega)) c⟩
    show vp_in (nI t) 120 ∧ post (σ.2 5 (nI t).toNatClampNeg) σ
    rw [nI_clamp (by omega), hC.2.2.2.2.2 t ht]
    exact ⟨vp_in_nI (by omega) (by omega), h⟩
theorem w_to {post : Int32 → St → Prop} {σ : St} {x1 x2 : Int32} {n Lt R : Nat} {δ : Nat → Nat → Option Nat} {Q : List Nat} {S : List Int32} (hT : okT n Lt δ R Q S) (hC : TC σ n Lt δ R Q S) (h0 : (okb x1 Q.length && okb x2 Lt) = false → post (-1) σ) (h1 : ∀ (p a l : Nat), Q[p]? = some a → a < n → l < Lt → x1 = nI p → x2 = nI l → (okb x1 Q.length && okb x2 Lt) = true → post (nx δ (ld Lt δ R) Q a l) σ) : wp_W_to x1 x2 σ post := by
  have d2 := hT.1.2.1
  have d3 := hT.1.2.2.1
  have hQ := Q_len hT
  unfold wp_W_to
  refine t_hasState hC.2.2.2.2.2.1 (by omega) (bz (fun e => h0 (by rw [e]; rfl)) (fun e1 => t_hasLetter hC.1.1 (by omega) (bz' (fun e => h0 (by rw [e1, e]; rfl)) (fun e2 => ?_))))
  obtain ⟨p, hp, ep⟩ := okb_ex (by omega) e1
  obtain ⟨l, hl, el⟩ := okb_ex (by omega) e2
  obtain ⟨a, ha, han, _⟩ := Q_at hT hp
  have hh := h1 p a l ha han hl ep el (by rw [e1, e2]; rfl)
  rw [ep, el]
  exact t_stateAfter hT hC ha hl hh
theorem m_to {post : Int32 → St → Prop} {σ : St} {x1 x2 : Int32} {n Lt R : Nat} {δ : Nat → Nat → Option Nat} {Q : List Nat} {S : List Int32} (hT : okT n Lt δ R Q S) (hC0 : TR σ n Lt δ R Q S) (h0 : (okb x1 Q.length && okb x2 Lt) = false → post (-1) (us σ 0 0)) (h1 : ∀ (p a l : Nat), Q[p]? = some a → a < n → l < Lt → x1 = nI p → x2 = nI l → (okb x1 Q.length && okb x2 Lt) = true → post (nx δ (ld Lt δ R) Q a l) (us σ 0 0)) : wp_M_to x1 x2 σ post := by
  have d2 := hT.1.2.1
  have d3 := hT.1.2.2.1
  have hQ := Q_len hT
  have hC : TR (us σ 0 0) n Lt δ R Q S := hC0.fr (ss := [0]) (aa := []) (Fr.us Fr.rf (by simp)) (fun k hk => by simp at hk; omega) (fun k hk => by simp at hk)
  unfold wp_M_to
  refine m_isState hC.2.2.2.1 (by omega) (bz (fun e => h0 (by rw [e]; rfl)) (fun e1 => ⟨fun c => h0 (by rw [e1, okb_neg c]; rfl), fun c => ?_⟩))
  have e5 : (us σ 0 0).1 5 = nI Lt := hC.1.1
  rw [e5]
  refine ⟨fun c2 => ?_, fun c2 => h0 (by rw [e1, okb_ge (by omega) (Int32.not_lt.mp c2)]; rfl)⟩
  have e2 : okb x2 Lt = true := okb_lt (by omega) c (Int32.not_le.mpr c2)
  obtain ⟨p, hp, ep⟩ := okb_ex (by omega) e1
  obtain ⟨l, hl, el⟩ := okb_ex (by omega) e2
  obtain ⟨a, ha, han, _⟩ := Q_at hT hp
  have hh := h1 p a l ha han hl ep el (by rw [e1, e2]; rfl)
  rw [ep, el]
  exact m_next hT hC ha hl hh
theorem r_to {σ τ : St} {x1 x2 : Int32} {post : Int32 → Int32 → St → St → Prop} (h : Rel σ τ) (hp : ∀ r r' u v, eqR r r' u v → post r r' u v) : wp_W_to x1 x2 σ (fun r u => wp_M_to x1 x2 τ (fun r' v => post r r' u v)) := by
  obtain ⟨n, Lt, δ, R, Q, S, h1, h2, h3, w, hw, h4, h5⟩ := h.2
  have hQ := Q_len h1
  have d2 := h1.1.2.1
  have d3 := h1.1.2.2.1
  refine w_to h1 h2 (fun c => m_to h1 h3 (fun _ => hp _ _ _ _ ⟨rfl, h.m0⟩) (fun p a l _ _ _ _ _ c' => absurd (c.symm.trans c') (by decide))) (fun p a l k1 k2 k3 k4 k5 c => m_to h1 h3 (fun c' => absurd (c'.symm.trans c) (by decide)) (fun p' a' l' j1 j2 j3 j4 j5 _ => hp _ _ _ _ ⟨?_, h.m0⟩))
  have ep : p' = p := (nI_eq (by have := (List.getElem?_eq_some_iff.mp j1).1; omega) (by have := (List.getElem?_eq_some_iff.mp k1).1; omega)).mp (j4.symm.trans k4)
  have el : l' = l := (nI_eq (by omega) (by omega)).mp (j5.symm.trans k5)
  subst ep; subst el
  rw [k1] at j1
  cases j1
  rfl
