/-! NODES AND WAYS, 3: turn, start, is, home. -/
def sw (l a b : Nat) (W : Nat → Int32) : Nat → Int32 := if bt (W (24 * l + a)) b = bt (W (24 * l + b)) a then W else fl (fl W (24 * l + a) b) (24 * l + b) a
def swB (l a : Nat) (W : Nat → Int32) : Nat → (Nat → Int32)
  | 0 => W
  | b + 1 => sw l a b (swB l a W b)
def swA (l : Nat) (W : Nat → Int32) : Nat → (Nat → Int32)
  | 0 => W
  | a + 1 => swB l a (swA l W a) a
def swL (N : Nat) (W : Nat → Int32) : Nat → (Nat → Int32)
  | 0 => W
  | l + 1 => swA l (swL N W l) N
theorem sw_ok {N Lt s0 l a b : Nat} {W : Nat → Int32} (h : okG N Lt s0 W) (hl : l < Lt) (ha : a < N) (hb : b < N) : okG N Lt s0 (sw l a b W) := by
  unfold sw
  split
  · exact h
  · exact fl_ok (fl_ok h ha hl hb) hb hl ha
theorem swB_ok {N Lt s0 l a : Nat} {W : Nat → Int32} (h : okG N Lt s0 W) (hl : l < Lt) (ha : a < N) : ∀ b, b ≤ N → okG N Lt s0 (swB l a W b) := by
  intro b
  induction b with
  | zero => intro _; exact h
  | succ b ih => intro hb; exact sw_ok (ih (by omega)) hl ha (by omega)
theorem swA_ok {N Lt s0 l : Nat} {W : Nat → Int32} (h : okG N Lt s0 W) (hl : l < Lt) : ∀ a, a ≤ N → okG N Lt s0 (swA l W a) := by
  intro a
  induction a with
  | zero => intro _; exact h
  | succ a ih => intro ha; exact swB_ok (ih (by omega)) hl (by omega) a (by omega)
theorem swL_ok {N Lt s0 : Nat} {W : Nat → Int32} (h : okG N Lt s0 W) : ∀ l, l ≤ Lt → okG N Lt s0 (swL N W l) := by
  intro l
  induction l with
  | zero => intro _; exact h
  | succ l ih => intro hl; exact swA_ok (ih (by omega)) (by omega) N (Nat.le_refl N)
theorem g_tr12 {post : St → Prop} {K : Int32 → Int32 → St → Prop} {l a : Nat} {W : Nat → Int32} (hl : l < 40) (ha : a < 24) : ∀ (d b : Nat) (σ : St), b + d = a → σ.2 0 = swB l a W b → K (nI l) (nI (a + 1)) (uA σ 0 (swB l a W a)) → L_G_transpose_12 post K (d + 1) (nI l) (nI a) (nI b) σ := by
  intro d
  induction d with
  | zero =>
    intro b σ hb h2 h
    have : b = a := by omega
    subst this
    rw [← h2, uA_id] at h
    refine ⟨fun _ => ?_, fun c => absurd (nI_le (Nat.le_refl b) (by omega)) c⟩
    rw [nI_1]
    exact h
  | succ d ih =>
    intro b σ hb h2 h
    refine ⟨fun c => absurd c (nI_ge (by omega) (by omega)), fun _ => ?_⟩
    refine g_holds h2 ha hl (by omega) ?_
    refine g_holds h2 (by omega) hl ha ⟨fun c => ?_, fun c => ?_⟩
    · have c := bI_inj.mp c
      rw [nI_1]
      have e : swB l a W (b + 1) = swB l a W b := by show sw l a b _ = _; unfold sw; rw [if_pos c]
      exact ih (b + 1) σ (by omega) (by rw [e]; exact h2) h
    · have c : ¬ bt (swB l a W b (24 * l + a)) b = bt (swB l a W b (24 * l + b)) a := fun z => c (by rw [z])
      have e : swB l a W (b + 1) = fl (fl (swB l a W b) (24 * l + a) b) (24 * l + b) a := by show sw l a b _ = _; unfold sw; rw [if_neg c]
      refine g_flip ha hl (g_flip (by omega) hl ?_)
      rw [nI_1, uA_uA, uA_s, h2, ← e]
      refine ih (b + 1) _ (by omega) (uA_s _ _ _) ?_
      rw [uA_uA]
      exact h
theorem g_tr2 {post : St → Prop} {l N : Nat} {W : Nat → Int32} (hl : l < 40) (hN : N ≤ 24) : ∀ (d a : Nat) (σ : St), a + d = N → σ.1 1 = nI N → σ.2 0 = swA l W a → post (uA σ 0 (swA l W N)) → L_G_transpose_2 post (d + 1) (nI l) (nI a) σ := by
  intro d
  induction d with
  | zero =>
    intro a σ ha h1 h2 h
    have : a = N := by omega
    subst this
    rw [← h2, uA_id] at h
    exact ⟨fun _ => h, fun c => absurd (by rw [h1]; exact nI_le (Nat.le_refl a) (by omega)) c⟩
  | succ d ih =>
    intro a σ ha h1 h2 h
    refine ⟨fun c => absurd c (by rw [h1]; exact nI_ge (by omega) (by omega)), fun _ => ⟨a + 1, ?_⟩⟩
    refine g_tr12 (W := swA l W a) hl (by omega) a 0 σ (by omega) h2 ?_
    refine ih (a + 1) _ (by omega) h1 (uA_s _ _ _) ?_
    rw [uA_uA]
    exact h
theorem g_transpose {σ : St} {post : St → Prop} {l N : Nat} {W : Nat → Int32} (hl : l < 40) (hN : N ≤ 24) (h0 : 1 ≤ N) (h1 : σ.1 1 = nI N) (h2 : σ.2 0 = W) (h : post (uA σ 0 (swA l W N))) : wp_G_transpose (nI l) σ post :=
  ⟨N, by
    have := g_tr2 (post := post) (W := W) hl hN (N - 1) 1 σ (by omega) h1 h2 h
    rwa [show N - 1 + 1 = N by omega] at this⟩
theorem w_turn_loop {post : St → Prop} {N Lt : Nat} {W : Nat → Int32} (h0 : 1 ≤ N) (hN : N ≤ 24) (hL : Lt ≤ 40) : ∀ (d l : Nat) (σ : St), l + d = Lt → σ.1 1 = nI N → σ.1 2 = nI Lt → σ.2 0 = swL N W l → post (uA σ 0 (swL N W Lt)) → L_W_turn_2 post (d + 1) (nI l) σ := by
  intro d
  induction d with
  | zero =>
    intro l σ hl h1 h3 h2 h
    have : l = Lt := by omega
    subst this
    rw [← h2, uA_id] at h
    exact ⟨fun _ => h, fun c => absurd (by rw [h3]; exact nI_le (Nat.le_refl l) (by omega)) c⟩
  | succ d ih =>
    intro l σ hl h1 h3 h2 h
    refine ⟨fun c => absurd c (by rw [h3]; exact nI_ge (by omega) (by omega)), fun _ => ?_⟩
    refine g_transpose (by omega) hN h0 h1 h2 ?_
    rw [nI_1]
    refine ih (l + 1) _ (by omega) h1 h3 (uA_s _ _ _) ?_
    rw [uA_uA]
    exact h
theorem w_turn {σ : St} {post : St → Prop} {N Lt s0 : Nat} {W : Nat → Int32} (hg : GG σ N Lt s0 W) (ok : okG N Lt s0 W) (h : post (uA σ 0 (swL N W Lt))) : wp_W_turn σ post := ⟨Lt + 1, w_turn_loop ok.1 ok.2.1 ok.2.2.2.1 Lt 0 σ (by omega) hg.1 hg.2.1 hg.2.2.2 h⟩
theorem m_tr27 {post : St → Prop} {K : Int32 → Int32 → St → Prop} {l a : Nat} {W : Nat → Int32} (hl : l < 40) (ha : a < 24) : ∀ (d b : Nat) (σ : St), b + d = a → σ.2 0 = swB l a W b → K (nI l) (nI (a + 1)) (uA σ 0 (swB l a W a)) → L_M_turn_27 post K (d + 1) (nI l) (nI a) (nI b) σ := by
  intro d
  induction d with
  | zero =>
    intro b σ hb h2 h
    have : b = a := by omega
    subst this
    rw [← h2, uA_id] at h
    refine ⟨fun _ => ?_, fun c => absurd (nI_le (Nat.le_refl b) (by omega)) c⟩
    rw [nI_1]
    exact h
  | succ d ih =>
    intro b σ hb h2 h
    have p1 := plc (a := a) (l := l) ha hl
    have p2 := plc (a := b) (l := l) (by omega) hl
    have i1 : vp_in (nI (24 * l + a)) 960 := vp_in_nI p1 (by omega)
    have i2 : vp_in (nI (24 * l + b)) 960 := vp_in_nI p2 (by omega)
    refine ⟨fun c => absurd c (nI_ge (by omega) (by omega)), fun _ => ?_⟩
    rw [plc_m, plc_m]
    refine ⟨i1, i2, ?_⟩
    rw [nI_clamp (n := 24 * l + a) (by omega), nI_clamp (n := 24 * l + b) (by omega), h2, s_bit _ (by omega), s_bit _ (by omega)]
    refine ⟨fun c => ?_, fun c => ⟨i1, i1, i2, i2, ?_⟩⟩
    · have c := bI_inj.mp c
      rw [nI_1]
      have e : swB l a W (b + 1) = swB l a W b := by show sw l a b _ = _; unfold sw; rw [if_pos c]
      exact ih (b + 1) σ (by omega) (by rw [e]; exact h2) h
    · have c : ¬ bt (swB l a W b (24 * l + a)) b = bt (swB l a W b (24 * l + b)) a := fun z => c (by rw [z])
      have e : swB l a W (b + 1) = fl (fl (swB l a W b) (24 * l + a) b) (24 * l + b) a := by show sw l a b _ = _; unfold sw; rw [if_neg c]
      rw [nI_1]
      have e2 : ua (ua σ 0 (24 * l + a) (swB l a W b (24 * l + a) ^^^ ((1 : Int32) <<< (nI b &&& 31)))) 0 (24 * l + b) ((ua σ 0 (24 * l + a) (swB l a W b (24 * l + a) ^^^ ((1 : Int32) <<< (nI b &&& 31)))).2 0 (24 * l + b) ^^^ ((1 : Int32) <<< (nI a &&& 31))) = uA σ 0 (swB l a W (b + 1)) := by
        unfold ua
        rw [uA_uA, uA_s, h2, e]
        rfl
      rw [e2]
      refine ih (b + 1) _ (by omega) (uA_s _ _ _) ?_
      rw [uA_uA]
      exact h
theorem m_tr17 {post : St → Prop} {K : Int32 → St → Prop} {l N : Nat} {W : Nat → Int32} (hl : l < 40) (hN : N ≤ 24) : ∀ (d a : Nat) (σ : St), a + d = N → σ.1 1 = nI N → σ.2 0 = swA l W a → K (nI (l + 1)) (uA σ 0 (swA l W N)) → L_M_turn_17 post K (d + 1) (nI l) (nI a) σ := by
  intro d
  induction d with
  | zero =>
    intro a σ ha h1 h2 h
    have : a = N := by omega
    subst this
    rw [← h2, uA_id] at h
    refine ⟨fun _ => ?_, fun c => absurd (by rw [h1]; exact nI_le (Nat.le_refl a) (by omega)) c⟩
    rw [nI_1]
    exact h
  | succ d ih =>
    intro a σ ha h1 h2 h
    refine ⟨fun c => absurd c (by rw [h1]; exact nI_ge (by omega) (by omega)), fun _ => ⟨a + 1, ?_⟩⟩
    refine m_tr27 (W := swA l W a) hl (by omega) a 0 σ (by omega) h2 ?_
    refine ih (a + 1) _ (by omega) h1 (uA_s _ _ _) ?_
    rw [uA_uA]
    exact h
theorem m_tr7 {post : St → Prop} {N Lt : Nat} {W : Nat → Int32} (hN : N ≤ 24) (hL : Lt ≤ 40) : ∀ (d l : Nat) (σ : St), l + d = Lt → σ.1 1 = nI N → σ.1 2 = nI Lt → σ.2 0 = swL N W l → post (uA σ 0 (swL N W Lt)) → L_M_turn_7 post (d + 1) (nI l) σ := by
  intro d
  induction d with
  | zero =>
    intro l σ hl h1 h3 h2 h
    have : l = Lt := by omega
    subst this
    rw [← h2, uA_id] at h
    exact ⟨fun _ => h, fun c => absurd (by rw [h3]; exact nI_le (Nat.le_refl l) (by omega)) c⟩
  | succ d ih =>
    intro l σ hl h1 h3 h2 h
    refine ⟨fun c => absurd c (by rw [h3]; exact nI_ge (by omega) (by omega)), fun _ => ⟨N + 1, ?_⟩⟩
    refine m_tr17 (W := swL N W l) (by omega) hN N 0 σ (by omega) h1 h2 ?_
    refine ih (l + 1) _ (by omega) h1 h3 (uA_s _ _ _) ?_
    rw [uA_uA]
    exact h
theorem m_turn {σ : St} {post : St → Prop} {N Lt s0 : Nat} {W : Nat → Int32} (hg : GG σ N Lt s0 W) (ok : okG N Lt s0 W) (h : post (uA (us σ 0 0) 0 (swL N W Lt))) : wp_M_turn σ post := ⟨Lt + 1, m_tr7 ok.2.1 ok.2.2.2.1 Lt 0 _ (by omega) hg.1 hg.2.1 hg.2.2.2 h⟩
theorem w_start {σ : St} {x : Int32} {post : Int32 → St → Prop} {N Lt s0 : Nat} {W : Nat → Int32} (hg : GG σ N Lt s0 W) (ok : okG N Lt s0 W) (h0 : okb x N = false → post 0 σ) (h1 : okb x N = true → post 1 (us σ 3 x)) : wp_W_start x σ post := g_hasNode hg.1 (by have := ok.2.1; omega) (bz' h0 h1)
theorem m_start {σ : St} {x : Int32} {post : Int32 → St → Prop} {N Lt s0 : Nat} {W : Nat → Int32} (hg : GG σ N Lt s0 W) (ok : okG N Lt s0 W) (h0 : okb x N = false → post 0 (us σ 0 0)) (h1 : okb x N = true → post 1 (us (us σ 0 0) 3 x)) : wp_M_start x σ post := m_isNode (σ := us σ 0 0) hg.1 (by have := ok.2.1; omega) (bz' h0 h1)
theorem w_is {σ : St} {x1 x2 x3 : Int32} {N Lt s0 : Nat} {W : Nat → Int32} {post : Int32 → St → Prop} (hg : GG σ N Lt s0 W) (ok : okG N Lt s0 W) (h : post (bI (okb x1 N && (okb x2 Lt && okb x3 N) && bt (W (24 * x2.toNatClampNeg + x1.toNatClampNeg)) x3.toNatClampNeg)) σ) : wp_W_is x1 x2 x3 σ post := by
  have hN := ok.2.1
  have hL := ok.2.2.2.1
  unfold wp_W_is
  refine g_canHold hg ok (bz (fun e => by rw [e] at h; exact h) (fun e => ?_))
  rw [e] at h
  simp only [Bool.and_eq_true] at e
  obtain ⟨e1, e2, e3⟩ := e
  obtain ⟨a, ha, rfl⟩ := okb_ex (by omega) e1
  obtain ⟨l, hl, rfl⟩ := okb_ex (by omega) e2
  obtain ⟨t, ht, rfl⟩ := okb_ex (by omega) e3
  rw [nI_clamp (by omega), nI_clamp (by omega), nI_clamp (by omega)] at h
  exact g_holds hg.2.2.2 (by omega) (by omega) (by omega) (bz (fun e => by rw [e] at h; exact h) (fun e => by rw [e] at h; exact h))
