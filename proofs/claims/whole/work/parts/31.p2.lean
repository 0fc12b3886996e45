/-! NODES AND WAYS, 2: begin, fill, turn, start, is. -/
theorem uA_uA (σ : St) (k : Nat) (f g : Nat → Int32) : uA (uA σ k f) k g = uA σ k g := by unfold uA; rw [bx_uu]
theorem uA_id (σ : St) (k : Nat) : uA σ k (σ.2 k) = σ := by
  unfold uA
  have : va_up σ.2 k (σ.2 k) = σ.2 := by
    funext j
    unfold va_up
    by_cases e : j = k
    · simp [e]
    · simp [e]
  rw [this]
/-- a row with v from i to m -/
def fll (f : Nat → Int32) (i m : Nat) (v : Int32) : Nat → Int32 := fun k => if i ≤ k ∧ k < m then v else f k
theorem fll_step {f : Nat → Int32} {i m : Nat} {v : Int32} (h : i < m) : fll (upd f i v) (i + 1) m v = fll f i m v := by
  funext k
  unfold fll upd
  by_cases e : k = i
  · subst e; simp [h]
  · by_cases c : i ≤ k ∧ k < m
    · have : i + 1 ≤ k ∧ k < m := by omega
      simp [c, this]
    · have : ¬ (i + 1 ≤ k ∧ k < m) := by omega
      simp [c, this, e]
theorem fll_end (f : Nat → Int32) (m : Nat) (v : Int32) : fll f m m v = f := by
  funext k
  unfold fll
  have : ¬ (m ≤ k ∧ k < m) := by omega
  simp [this]
theorem a_fill2 {post : St → Prop} {v : Int32} : ∀ (d i : Nat) (σ : St), i + d = 960 → post (uA σ 0 (fll (σ.2 0) i 960 v)) → L_A_fill2_2_5 post (d + 1) v (nI i) (nI 960) σ := by
  intro d
  induction d with
  | zero =>
    intro i σ hi h
    have : i = 960 := by omega
    subst this
    rw [fll_end, uA_id] at h
    exact ⟨fun _ => h, fun c => absurd (nI_le (Nat.le_refl 960) (by omega)) c⟩
  | succ d ih =>
    intro i σ hi h
    refine ⟨fun c => absurd c (nI_ge (by omega) (by omega)), fun _ => ⟨vp_in_nI (by omega) (by omega), ?_⟩⟩
    rw [nI_clamp (by omega), nI_1]
    refine ih (i + 1) _ (by omega) ?_
    rw [uA_uA, uA_s, fll_step (by omega)]
    exact h
theorem a_fill7 {post : St → Prop} {v x1 : Int32} {n : Nat} (hn : n ≤ 120) : ∀ (d i : Nat) (σ : St), i + d = n → post (uA σ 4 (fll (σ.2 4) i n v)) → L_A_fill4_7_10 post (d + 1) x1 (nI n) v (nI i) σ := by
  intro d
  induction d with
  | zero =>
    intro i σ hi h
    have : i = n := by omega
    subst this
    rw [fll_end, uA_id] at h
    exact ⟨fun _ => h, fun c => absurd (nI_le (Nat.le_refl i) (by omega)) c⟩
  | succ d ih =>
    intro i σ hi h
    refine ⟨fun c => absurd c (nI_ge (by omega) (by omega)), fun _ => ⟨vp_in_nI (by omega) (by omega), ?_⟩⟩
    rw [nI_clamp (by omega), nI_1]
    refine ih (i + 1) _ (by omega) ?_
    rw [uA_uA, uA_s, fll_step (by omega)]
    exact h
theorem a_range {σ : St} {post : St → Prop} {n : Nat} (hn : n ≤ 120) (h : post σ) : wp_A_rangeCheck3 (nI 120) 0 (nI n) σ post := by
  have h1 : (0 : Int32) ≤ nI n := nI_pos' (by omega)
  have h2 : nI n ≤ nI 120 := nI_le hn (by omega)
  exact ⟨fun _ => ⟨fun _ => ⟨fun _ => h, fun c => c h2⟩, fun c => c (by decide)⟩, fun c => c h1⟩
theorem a_fill4_7 {σ : St} {post : St → Prop} {v : Int32} {n : Nat} (hn : n ≤ 120) (h : post (uA σ 4 (fll (σ.2 4) 0 n v))) : wp_A_fill4_7 0 (nI n) v σ post := a_range hn ⟨n + 1, a_fill7 hn n 0 σ (by omega) h⟩
/-- begin: a pair of numbers in range -/
def begR (x1 x2 : Int32) : Prop := ¬ x1 < 1 ∧ ¬ nI 24 < x1 ∧ ¬ x2 < 1 ∧ x2 ≤ nI 40
theorem beg_ex {x1 x2 : Int32} (h : begR x1 x2) : ∃ N Lt, 1 ≤ N ∧ N ≤ 24 ∧ 1 ≤ Lt ∧ Lt ≤ 40 ∧ x1 = nI N ∧ x2 = nI Lt := by
  obtain ⟨h1, h2, h3, h4⟩ := h
  have a1 := Int32.not_lt.mp h1
  have a2 := Int32.not_lt.mp h2
  have a3 := Int32.not_lt.mp h3
  have n1 : ¬ x1 < 0 := fun c => by
    have := Int32.le_iff_toInt_le.mp a1
    have := Int32.lt_iff_toInt_lt.mp c
    have e1 : (1 : Int32).toInt = 1 := by decide
    have e0 : (0 : Int32).toInt = 0 := by decide
    omega
  have n2 : ¬ x2 < 0 := fun c => by
    have := Int32.le_iff_toInt_le.mp a3
    have := Int32.lt_iff_toInt_lt.mp c
    have e1 : (1 : Int32).toInt = 1 := by decide
    have e0 : (0 : Int32).toInt = 0 := by decide
    omega
  obtain ⟨N, hN, rfl⟩ := nI_of n1
  obtain ⟨Lt, hL, rfl⟩ := nI_of n2
  refine ⟨N, Lt, ?_, (nI_leI hN (by omega)).mp a2, ?_, (nI_leI hL (by omega)).mp h4, rfl, rfl⟩
  · exact (nI_leI (a := 1) (by omega) hN).mp a1
  · exact (nI_leI (a := 1) (by omega) hL).mp a3
theorem w_begin {σ : St} {x1 x2 : Int32} {post : Int32 → St → Prop} (h0 : ¬ begR x1 x2 → post 0 σ) (h1 : begR x1 x2 → post 1 (uA (us (us (us σ 1 x1) 2 x2) 3 0) 0 (fll (σ.2 0) 0 960 0))) : wp_W_begin x1 x2 σ post := by
  unfold wp_W_begin
  refine ⟨fun c => h0 (fun z => z.1 c), fun c1 => ⟨fun c => h0 (fun z => z.2.1 c), fun c2 => ⟨fun c => h0 (fun z => z.2.2.1 c), fun c3 => ⟨fun c4 => ?_, fun c => h0 (fun z => c z.2.2.2)⟩⟩⟩⟩
  exact ⟨961, a_fill2 960 0 _ (by omega) (h1 ⟨c1, c2, c3, c4⟩)⟩
theorem m_begin_loop {post : Int32 → St → Prop} {x1 x2 : Int32} : ∀ (d i : Nat) (σ : St), i + d = 960 → post 1 (uA σ 0 (fll (σ.2 0) i 960 0)) → L_M_begin_46 post (d + 1) x1 x2 (nI i) σ := by
  intro d
  induction d with
  | zero =>
    intro i σ hi h
    have : i = 960 := by omega
    subst this
    rw [fll_end, uA_id] at h
    exact ⟨fun _ => h, fun c => absurd (nI_le (Nat.le_refl 960) (by omega)) c⟩
  | succ d ih =>
    intro i σ hi h
    refine ⟨fun c => absurd c (nI_ge (by omega) (by omega)), fun _ => ⟨vp_in_nI (by omega) (by omega), ?_⟩⟩
    rw [nI_clamp (by omega), nI_1]
    refine ih (i + 1) _ (by omega) ?_
    rw [uA_uA, uA_s, fll_step (by omega)]
    exact h
theorem m_begin {σ : St} {x1 x2 : Int32} {post : Int32 → St → Prop} (h0 : ¬ begR x1 x2 → post 0 (us σ 0 0)) (h1 : begR x1 x2 → post 1 (uA (us (us (us (us σ 0 0) 1 x1) 2 x2) 3 0) 0 (fll (σ.2 0) 0 960 0))) : wp_M_begin x1 x2 σ post := by
  unfold wp_M_begin
  refine ⟨fun c => h0 (fun z => z.1 c), fun c1 => ⟨fun c => h0 (fun z => z.2.1 c), fun c2 => ⟨fun c => h0 (fun z => z.2.2.1 c), fun c3 => ⟨fun c4 => ?_, fun c => h0 (fun z => c z.2.2.2)⟩⟩⟩⟩
  exact ⟨961, m_begin_loop 960 0 _ (by omega) (h1 ⟨c1, c2, c3, c4⟩)⟩
theorem beg_ok {N Lt s0 N' Lt' : Nat} {W : Nat → Int32} (h : okG N Lt s0 W) (h1 : 1 ≤ N') (h2 : N' ≤ 24) (h3 : 1 ≤ Lt') (h4 : Lt' ≤ 40) : okG N' Lt' 0 (fll W 0 960 0) := by
  refine ⟨h1, h2, h3, h4, by omega, fun k i hi hb => ?_⟩
  unfold fll at hb
  by_cases c : 0 ≤ k ∧ k < 960
  · rw [if_pos c, b_0] at hb; cases hb
  · rw [if_neg c] at hb
    have := h.2.2.2.2.2 k i hi hb
    have := h.2.2.2.1
    omega
/-- fill -/
def flW (l t : Nat) (W : Nat → Int32) : Nat → (Nat → Int32)
  | 0 => W
  | k + 1 => if bt (flW l t W k (24 * l + k)) t = true then flW l t W k else fl (flW l t W k) (24 * l + k) t
def flN (l t : Nat) (W : Nat → Int32) : Nat → Nat
  | 0 => 0
  | k + 1 => if bt (flW l t W k (24 * l + k)) t = true then flN l t W k else flN l t W k + 1
theorem flW_ok {N Lt s0 : Nat} {W : Nat → Int32} (h : okG N Lt s0 W) {l t : Nat} (hl : l < Lt) (ht : t < N) : ∀ k, k ≤ N → okG N Lt s0 (flW l t W k) := by
  intro k
  induction k with
  | zero => intro _; exact h
  | succ k ih =>
    intro hk
    show okG N Lt s0 (if _ then _ else _)
    split
    · exact ih (by omega)
    · exact fl_ok (ih (by omega)) (by omega) hl ht
theorem w_fill_loop {post : Int32 → St → Prop} {N Lt s0 l t : Nat} {W : Nat → Int32} (hN : N ≤ 24) (hl : l < 40) (ht : t < 24) : ∀ (d i : Nat) (σ : St), i + d = N → σ.1 1 = nI N → σ.2 0 = flW l t W i → post (nI (flN l t W N)) (uA σ 0 (flW l t W N)) → L_W_fill_29 post (d + 1) (nI l) (nI t) (nI (flN l t W i)) (nI i) σ := by
  intro d
  induction d with
  | zero =>
    intro i σ hi h1 h2 h
    have : i = N := by omega
    subst this
    rw [← h2, uA_id] at h
    exact ⟨fun _ => h, fun c => absurd (by rw [h1]; exact nI_le (Nat.le_refl i) (by omega)) c⟩
  | succ d ih =>
    intro i σ hi h1 h2 h
    refine ⟨fun c => absurd c (by rw [h1]; exact nI_ge (by omega) (by omega)), fun _ => ?_⟩
    refine g_holds h2 (by omega) hl ht (bz' (fun e => ?_) (fun e => ?_))
    · refine g_flip (by omega) hl ?_
      rw [nI_1, nI_1, h2]
      have e1 : flN l t W (i + 1) = flN l t W i + 1 := by show (if _ then _ else _) = _; rw [if_neg (by rw [e]; decide)]
      have e2 : flW l t W (i + 1) = fl (flW l t W i) (24 * l + i) t := by show (if _ then _ else _) = _; rw [if_neg (by rw [e]; decide)]
      rw [← e1, ← e2]
      refine ih (i + 1) _ (by omega) h1 (uA_s _ _ _) ?_
      rw [uA_uA]
      exact h
    · rw [nI_1]
      have e1 : flN l t W (i + 1) = flN l t W i := by show (if _ then _ else _) = _; rw [if_pos e]
      have e2 : flW l t W (i + 1) = flW l t W i := by show (if _ then _ else _) = _; rw [if_pos e]
      rw [← e1]
      exact ih (i + 1) _ (by omega) h1 (by rw [e2]; exact h2) h
def filR (N Lt : Nat) (x1 x2 : Int32) : Bool := okb x1 Lt && okb x2 N
theorem w_fill {σ : St} {x1 x2 : Int32} {N Lt s0 : Nat} {W : Nat → Int32} {post : Int32 → St → Prop} (hg : GG σ N Lt s0 W) (ok : okG N Lt s0 W) (h0 : filR N Lt x1 x2 = false → post (-1) σ) (h1 : ∀ l t, l < Lt → t < N → x1 = nI l → x2 = nI t → filR N Lt x1 x2 = true → post (nI (flN l t W N)) (uA σ 0 (flW l t W N))) : wp_W_fill x1 x2 σ post := by
  have hN := ok.2.1
  have hL := ok.2.2.2.1
  unfold wp_W_fill
  refine g_hasLetter hg.2.1 (by omega) (bz (fun e => h0 (by unfold filR; rw [e]; rfl)) (fun e1 => g_hasNode hg.1 (by omega) (bz' (fun e => h0 (by unfold filR; rw [e1, e]; rfl)) (fun e2 => ?_))))
  obtain ⟨l, hl, e3⟩ := okb_ex (by omega) e1
  obtain ⟨t, ht, e4⟩ := okb_ex (by omega) e2
  have hp := h1 l t hl ht e3 e4 (by unfold filR; rw [e1, e2]; rfl)
  rw [e3, e4]
  exact ⟨N + 1, w_fill_loop (s0 := s0) (Lt := Lt) hN (by omega) (by omega) N 0 σ (by omega) hg.1 hg.2.2.2 hp⟩
theorem m_fill_loop {post : Int32 → St → Prop} {N Lt s0 l t : Nat} {W : Nat → Int32} (ok : okG N Lt s0 W) (hl : l < Lt) (ht : t < N) (hp : ∀ τ, GG τ N Lt s0 (flW l t W N) → (∀ k, k ≠ 0 → τ.2 k = τ.2 k) → True) : ∀ (d i : Nat) (σ : St), i + d = N → GG σ N Lt s0 (flW l t W i) → (∀ τ : St, Fr σ τ [0] [0] → GG τ N Lt s0 (flW l t W N) → post (nI (flN l t W N)) τ) → L_M_fill_28 post (d + 1) (nI l) (nI t) (nI (flN l t W i)) (nI i) σ := by
  have hN := ok.2.1
  have hL := ok.2.2.2.1
  intro d
  induction d with
  | zero =>
    intro i σ hi hg h
    have : i = N := by omega
    subst this
    exact ⟨fun _ => h σ Fr.rf hg, fun c => absurd (by rw [hg.1]; exact nI_le (Nat.le_refl i) (by omega)) c⟩
  | succ d ih =>
    intro i σ hi hg h
    refine ⟨fun c => absurd c (by rw [hg.1]; exact nI_ge (by omega) (by omega)), fun _ => ?_⟩
    have oki := flW_ok ok hl ht i (by omega)
    have key : wayR N Lt (flW l t W i) (nI i) (nI l) (nI t) 1 = !bt (flW l t W i (24 * l + i)) t := by
      unfold wayR
      rw [okb_nI (by omega) (by omega), okb_nI hl (by omega), okb_nI ht (by omega), nI_clamp (by omega), nI_clamp (by omega), nI_clamp (by omega)]
      cases bt (flW l t W i (24 * l + i)) t <;> rfl
    have done : ∀ τ : St, Fr σ τ [0] [0] → GG τ N Lt s0 (flW l t W (i + 1)) → L_M_fill_28 post (d + 1) (nI l) (nI t) (nI (flN l t W (i + 1))) (nI (i + 1)) τ := fun τ hf hg' =>
      ih (i + 1) τ (by omega) hg' (fun υ hf' hg'' => h υ (hf.tr hf') hg'')
    refine m_way hg oki (fun e => ?_) (fun e => ?_) (fun e => ?_)
    · rw [key] at e
      have e : bt (flW l t W i (24 * l + i)) t = true := by cases z : bt (flW l t W i (24 * l + i)) t; rw [z] at e; cases e; rfl
      have e1 : flN l t W (i + 1) = flN l t W i := by show (if _ then _ else _) = _; rw [if_pos e]
      have e2 : flW l t W (i + 1) = flW l t W i := by show (if _ then _ else _) = _; rw [if_pos e]
      refine ⟨fun _ => ?_, fun c => absurd rfl c⟩
      rw [nI_1, Int32.add_zero, ← e1]
      exact done _ (Fr.us (Fr.us Fr.rf (by simp)) (by simp)) (by rw [e2]; exact ⟨hg.1, hg.2.1, hg.2.2.1, hg.2.2.2⟩)
    · rw [key] at e
      have e : bt (flW l t W i (24 * l + i)) t = true := by cases z : bt (flW l t W i (24 * l + i)) t; rw [z] at e; cases e; rfl
      have e1 : flN l t W (i + 1) = flN l t W i := by show (if _ then _ else _) = _; rw [if_pos e]
      have e2 : flW l t W (i + 1) = flW l t W i := by show (if _ then _ else _) = _; rw [if_pos e]
      refine ⟨fun _ => ?_, fun c => absurd rfl c⟩
      rw [nI_1, Int32.add_zero, ← e1]
      exact done _ (Fr.us Fr.rf (by simp)) (by rw [e2]; exact ⟨hg.1, hg.2.1, hg.2.2.1, hg.2.2.2⟩)
    · rw [key] at e
      have e : ¬ bt (flW l t W i (24 * l + i)) t = true := by intro z; rw [z] at e; cases e
      have e1 : flN l t W (i + 1) = flN l t W i + 1 := by show (if _ then _ else _) = _; rw [if_neg e]
      have e2 : flW l t W (i + 1) = fl (flW l t W i) (24 * l + i) t := by show (if _ then _ else _) = _; rw [if_neg e]
      refine ⟨fun c => absurd c (by decide), fun _ => ?_⟩
      rw [nI_1, nI_1, ← e1, nI_clamp (by omega), nI_clamp (by omega), nI_clamp (by omega), ← e2]
      exact done _ (Fr.uA (Fr.us (Fr.us Fr.rf (by simp)) (by simp)) (by simp)) ⟨hg.1, hg.2.1, hg.2.2.1, uA_s _ _ _⟩
theorem m_fill {σ : St} {x1 x2 : Int32} {N Lt s0 : Nat} {W : Nat → Int32} {post : Int32 → St → Prop} (hg : GG σ N Lt s0 W) (ok : okG N Lt s0 W) (h0 : filR N Lt x1 x2 = false → post (-1) (us σ 0 0)) (h1 : ∀ l t, l < Lt → t < N → x1 = nI l → x2 = nI t → filR N Lt x1 x2 = true → ∀ τ : St, Fr σ τ [0] [0] → GG τ N Lt s0 (flW l t W N) → post (nI (flN l t W N)) τ) : wp_M_fill x1 x2 σ post := by
  have hN := ok.2.1
  have hL := ok.2.2.2.1
  have g : GG (us σ 0 0) N Lt s0 W := ⟨hg.1, hg.2.1, hg.2.2.1, hg.2.2.2⟩
  unfold wp_M_fill
  refine m_isLetter g.2.1 (by omega) (bz (fun e => h0 (by unfold filR; rw [e]; rfl)) (fun e1 => m_isNode g.1 (by omega) (bz' (fun e => h0 (by unfold filR; rw [e1, e]; rfl)) (fun e2 => ?_))))
  obtain ⟨l, hl, e3⟩ := okb_ex (by omega) e1
  obtain ⟨t, ht, e4⟩ := okb_ex (by omega) e2
  have hp := h1 l t hl ht e3 e4 (by unfold filR; rw [e1, e2]; rfl)
  rw [e3, e4]
  exact ⟨N + 1, m_fill_loop ok hl ht (fun _ _ _ => trivial) N 0 _ (by omega) g (fun τ hf hg' => hp τ ((Fr.us Fr.rf (by simp)).tr hf) hg')⟩
