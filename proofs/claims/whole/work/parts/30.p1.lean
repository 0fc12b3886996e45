/-! THE NODES AND WAYS: what the preconditions of the class's and the reference's methods come to. -/
theorem us_s (σ : St) (k : Nat) (v : Int32) : (us σ k v).1 k = v := by unfold us; exact pk_us
theorem us_n {σ : St} {k j : Nat} {v : Int32} (h : j ≠ k) : (us σ k v).1 j = σ.1 j := by unfold us; exact pk_un h
theorem uA_s (σ : St) (k : Nat) (f : Nat → Int32) : (uA σ k f).2 k = f := by unfold uA va_up; simp
theorem uA_n {σ : St} {k j : Nat} {f : Nat → Int32} (h : j ≠ k) : (uA σ k f).2 j = σ.2 j := by unfold uA va_up; simp [h]
/-- all else is as it was -/
def Fr (σ τ : St) (ss aa : List Nat) : Prop := (∀ k, k ∉ ss → τ.1 k = σ.1 k) ∧ ∀ k, k ∉ aa → τ.2 k = σ.2 k
theorem Fr.rf {σ : St} {ss aa : List Nat} : Fr σ σ ss aa := ⟨fun _ _ => rfl, fun _ _ => rfl⟩
theorem Fr.tr {σ τ υ : St} {ss aa : List Nat} (h : Fr σ τ ss aa) (g : Fr τ υ ss aa) : Fr σ υ ss aa := ⟨fun k hk => (g.1 k hk).trans (h.1 k hk), fun k hk => (g.2 k hk).trans (h.2 k hk)⟩
theorem Fr.mo {σ τ : St} {ss aa ss' aa' : List Nat} (h : Fr σ τ ss aa) (h1 : ∀ k, k ∈ ss → k ∈ ss') (h2 : ∀ k, k ∈ aa → k ∈ aa') : Fr σ τ ss' aa' := ⟨fun k hk => h.1 k (fun z => hk (h1 k z)), fun k hk => h.2 k (fun z => hk (h2 k z))⟩
theorem Fr.us {σ τ : St} {ss aa : List Nat} {k : Nat} {v : Int32} (h : Fr σ τ ss aa) (hk : k ∈ ss) : Fr σ (us τ k v) ss aa := ⟨fun j hj => (us_n (fun e => hj (by rw [e]; exact hk))).trans (h.1 j hj), fun j hj => h.2 j hj⟩
theorem Fr.uA {σ τ : St} {ss aa : List Nat} {k : Nat} {f : Nat → Int32} (h : Fr σ τ ss aa) (hk : k ∈ aa) : Fr σ (uA τ k f) ss aa := ⟨fun j hj => h.1 j hj, fun j hj => (uA_n (fun e => hj (by rw [e]; exact hk))).trans (h.2 j hj)⟩
theorem ix_ok {a x : Int32} {N : Nat} {A B : Prop} (ha : a = nI N) (hN : N < 2 ^ 31) (hA : okb x N = false → A) (hB : okb x N = true → B) : (x < 0 → A) ∧ (¬ x < 0 → ((a ≤ x → A) ∧ (¬ a ≤ x → B))) := by
  subst ha
  exact ⟨fun c => hA (okb_neg c), fun c => ⟨fun d => hA (okb_ge hN d), fun d => hB (okb_lt hN c d)⟩⟩
theorem ix_bI {x : Int32} {N : Nat} {post : Int32 → St → Prop} {σ : St} (h : post (bI (okb x N)) σ) : (okb x N = false → post 0 σ) ∧ (okb x N = true → post 1 σ) := by
  constructor
  · intro e; rw [e] at h; exact h
  · intro e; rw [e] at h; exact h
theorem g_hasNode {σ : St} {x : Int32} {N : Nat} {post : Int32 → St → Prop} (hN : σ.1 1 = nI N) (hb : N < 2 ^ 31) (h : post (bI (okb x N)) σ) : wp_G_hasNode x σ post := ix_ok hN hb (ix_bI h).1 (ix_bI h).2
theorem g_hasLetter {σ : St} {x : Int32} {N : Nat} {post : Int32 → St → Prop} (hN : σ.1 2 = nI N) (hb : N < 2 ^ 31) (h : post (bI (okb x N)) σ) : wp_G_hasLetter x σ post := ix_ok hN hb (ix_bI h).1 (ix_bI h).2
theorem t_hasLetter {σ : St} {x : Int32} {N : Nat} {post : Int32 → St → Prop} (hN : σ.1 4 = nI N) (hb : N < 2 ^ 31) (h : post (bI (okb x N)) σ) : wp_T_hasLetter x σ post := ix_ok hN hb (ix_bI h).1 (ix_bI h).2
theorem t_hasSet {σ : St} {x : Int32} {N : Nat} {post : Int32 → St → Prop} (hN : σ.1 5 = nI N) (hb : N < 2 ^ 31) (h : post (bI (okb x N)) σ) : wp_T_hasSet x σ post := ix_ok hN hb (ix_bI h).1 (ix_bI h).2
theorem t_hasState {σ : St} {x : Int32} {N : Nat} {post : Int32 → St → Prop} (hN : σ.1 6 = nI N) (hb : N < 2 ^ 31) (h : post (bI (okb x N)) σ) : wp_T_hasState x σ post := ix_ok hN hb (ix_bI h).1 (ix_bI h).2
theorem m_isNode {σ : St} {x : Int32} {N : Nat} {post : Int32 → St → Prop} (hN : σ.1 1 = nI N) (hb : N < 2 ^ 31) (h : post (bI (okb x N)) σ) : wp_M_isNode x σ post := ix_ok hN hb (ix_bI h).1 (ix_bI h).2
theorem m_isLetter {σ : St} {x : Int32} {N : Nat} {post : Int32 → St → Prop} (hN : σ.1 2 = nI N) (hb : N < 2 ^ 31) (h : post (bI (okb x N)) σ) : wp_M_isLetter x σ post := ix_ok hN hb (ix_bI h).1 (ix_bI h).2
theorem m_isState {σ : St} {x : Int32} {N : Nat} {post : Int32 → St → Prop} (hN : σ.1 6 = nI N) (hb : N < 2 ^ 31) (h : post (bI (okb x N)) σ) : wp_M_isState x σ post := ix_ok hN hb (ix_bI h).1 (ix_bI h).2
/-- a test of a truth value, and what follows -/
theorem bz {b : Bool} {A B : Prop} (hA : b = false → A) (hB : b = true → B) : (bI b = 0 → A) ∧ (¬ bI b = 0 → B) := ⟨fun c => hA ((bI_0 b).mp c), fun c => hB (by cases b; exact absurd rfl c; rfl)⟩
theorem bz' {b : Bool} {A B : Prop} (hA : b = false → A) (hB : b = true → B) : (¬ bI b = 0 → B) ∧ (bI b = 0 → A) := ⟨(bz hA hB).2, (bz hA hB).1⟩
/-- the nodes and ways, of the class and of the reference alike -/
def GG (σ : St) (N Lt s0 : Nat) (W : Nat → Int32) : Prop := σ.1 1 = nI N ∧ σ.1 2 = nI Lt ∧ σ.1 3 = nI s0 ∧ σ.2 0 = W
def okG (N Lt s0 : Nat) (W : Nat → Int32) : Prop := 1 ≤ N ∧ N ≤ 24 ∧ 1 ≤ Lt ∧ Lt ≤ 40 ∧ s0 < N ∧ ∀ k i, i < 32 → bt (W k) i = true → i < N ∧ k < 24 * Lt ∧ k % 24 < N
theorem GG.fr {σ τ : St} {N Lt s0 : Nat} {W : Nat → Int32} {ss aa : List Nat} (h : GG σ N Lt s0 W) (f : Fr σ τ ss aa) (h1 : 1 ∉ ss) (h2 : 2 ∉ ss) (h3 : 3 ∉ ss) (h0 : 0 ∉ aa) : GG τ N Lt s0 W := ⟨(f.1 1 h1).trans h.1, (f.1 2 h2).trans h.2.1, (f.1 3 h3).trans h.2.2.1, (f.2 0 h0).trans h.2.2.2⟩
theorem g_canHold {σ : St} {x1 x2 x3 : Int32} {N Lt s0 : Nat} {W : Nat → Int32} {post : Int32 → St → Prop} (hg : GG σ N Lt s0 W) (ok : okG N Lt s0 W) (h : post (bI (okb x1 N && (okb x2 Lt && okb x3 N))) σ) : wp_G_canHold x1 x2 x3 σ post := by
  have hN : N < 2 ^ 31 := by have := ok.2.1; omega
  have hL : Lt < 2 ^ 31 := by have := ok.2.2.2.1; omega
  unfold wp_G_canHold
  refine g_hasNode hg.1 hN (bz (fun e1 => ?_) (fun e1 => g_hasLetter hg.2.1 hL (bz (fun e2 => ?_) (fun e2 => g_hasNode hg.1 hN (bz (fun e3 => ?_) (fun e3 => ?_))))))
  · rw [e1] at h; exact h
  · rw [e1, e2] at h; exact h
  · rw [e1, e2, e3] at h; exact h
  · rw [e1, e2, e3] at h; exact h
/-- the place of a node and a letter -/
theorem plc {a l : Nat} (ha : a < 24) (hl : l < 40) : 24 * l + a < 960 := by omega
theorem plc_c (a l : Nat) : (nI l * nI 24) + nI a = nI (24 * l + a) := by rw [pk_mul, nI_add, Nat.mul_comm]
theorem plc_m (a l : Nat) : (nI 24 * nI l) + nI a = nI (24 * l + a) := by rw [pk_mul, nI_add]
theorem g_holds {σ : St} {a l t : Nat} {W : Nat → Int32} {post : Int32 → St → Prop} (hW : σ.2 0 = W) (ha : a < 24) (hl : l < 40) (ht : t < 24) (h : post (bI (bt (W (24 * l + a)) t)) σ) : wp_G_holds (nI a) (nI l) (nI t) σ post := by
  have hp := plc ha hl
  show vp_in (nI l * nI 24 + nI a) 960 ∧ _
  rw [plc_c]
  refine ⟨vp_in_nI hp (by omega), ?_⟩
  rw [nI_clamp (by omega), hW, u_bit _ (by omega)]
  exact bz (fun e => by rw [e] at h; exact h) (fun e => by rw [e] at h; exact h)
def fl (W : Nat → Int32) (p t : Nat) : Nat → Int32 := upd W p (W p ^^^ ((1 : Int32) <<< (nI t &&& 31)))
theorem g_flip {σ : St} {a l t : Nat} {post : St → Prop} (ha : a < 24) (hl : l < 40) (h : post (uA σ 0 (fl (σ.2 0) (24 * l + a) t))) : wp_G_flip (nI a) (nI l) (nI t) σ post := by
  have hp := plc ha hl
  show vp_in (nI l * nI 24 + nI a) 960 ∧ vp_in (nI l * nI 24 + nI a) 960 ∧ _
  rw [plc_c]
  refine ⟨vp_in_nI hp (by omega), vp_in_nI hp (by omega), ?_⟩
  rw [nI_clamp (by omega)]
  exact h
theorem fl_bt (W : Nat → Int32) (p : Nat) {t : Nat} (ht : t < 32) (k : Nat) {i : Nat} (hi : i < 32) : bt (fl W p t k) i = (bt (W k) i ^^ (decide (k = p) && decide (i = t))) := by
  unfold fl upd
  by_cases e : k = p
  · subst e; simp [b_flip _ ht hi]
  · simp [e]
theorem fl_ok {N Lt s0 : Nat} {W : Nat → Int32} (h : okG N Lt s0 W) {a l t : Nat} (ha : a < N) (hl : l < Lt) (ht : t < N) : okG N Lt s0 (fl W (24 * l + a) t) := by
  obtain ⟨h1, h2, h3, h4, h5, h6⟩ := h
  refine ⟨h1, h2, h3, h4, h5, fun k i hi hb => ?_⟩
  rw [fl_bt _ _ (by omega) _ hi] at hb
  by_cases e : k = 24 * l + a ∧ i = t
  · obtain ⟨rfl, rfl⟩ := e
    exact ⟨ht, by omega, by omega⟩
  · have : (decide (k = 24 * l + a) && decide (i = t)) = false := by
      by_cases e1 : k = 24 * l + a
      · have : ¬ i = t := fun q => e ⟨e1, q⟩
        simp [this]
      · simp [e1]
    rw [this] at hb
    simp at hb
    exact h6 k i hi hb
/-- way -/
def wayR (N Lt : Nat) (W : Nat → Int32) (x1 x2 x3 x4 : Int32) : Bool := okb x1 N && (okb x2 Lt && okb x3 N) && !decide (bI (bt (W (24 * x2.toNatClampNeg + x1.toNatClampNeg)) x3.toNatClampNeg) = x4)
theorem w_way {σ : St} {x1 x2 x3 x4 : Int32} {N Lt s0 : Nat} {W : Nat → Int32} {post : Int32 → St → Prop} (hg : GG σ N Lt s0 W) (ok : okG N Lt s0 W) (h0 : wayR N Lt W x1 x2 x3 x4 = false → post 0 σ) (h1 : wayR N Lt W x1 x2 x3 x4 = true → post 1 (uA σ 0 (fl W (24 * x2.toNatClampNeg + x1.toNatClampNeg) x3.toNatClampNeg))) : wp_W_way x1 x2 x3 x4 σ post := by
  unfold wp_W_way
  refine g_canHold hg ok (bz (fun e => h0 (by unfold wayR; rw [e]; rfl)) (fun e => ?_))
  simp only [Bool.and_eq_true] at e
  obtain ⟨e1, e2, e3⟩ := e
  have hN := ok.2.1
  have hL := ok.2.2.2.1
  obtain ⟨a, ha, rfl⟩ := okb_ex (by omega) e1
  obtain ⟨l, hl, rfl⟩ := okb_ex (by omega) e2
  obtain ⟨t, ht, rfl⟩ := okb_ex (by omega) e3
  unfold wayR at h0 h1
  rw [e1, e2, e3, nI_clamp (by omega), nI_clamp (by omega), nI_clamp (by omega)] at h0 h1
  refine g_holds hg.2.2.2 (by omega) (by omega) (by omega) ⟨fun c => ?_, fun c => ?_⟩
  · refine g_flip (by omega) (by omega) ?_
    rw [hg.2.2.2]
    exact h1 (by simp [c])
  · exact h0 (by simp [c])
theorem m_is {σ : St} {x1 x2 x3 : Int32} {N Lt s0 : Nat} {W : Nat → Int32} {post : Int32 → St → Prop} (hg : GG σ N Lt s0 W) (ok : okG N Lt s0 W) (h : post (bI (okb x1 N && (okb x2 Lt && okb x3 N) && bt (W (24 * x2.toNatClampNeg + x1.toNatClampNeg)) x3.toNatClampNeg)) (us σ 0 0)) : wp_M_is x1 x2 x3 σ post := by
  have hN := ok.2.1
  have hL := ok.2.2.2.1
  have g1 : (us σ 0 0).1 1 = nI N := hg.1
  have g2 : (us σ 0 0).1 2 = nI Lt := hg.2.1
  have g4 : (us σ 0 0).2 0 = W := hg.2.2.2
  unfold wp_M_is
  refine m_isNode g1 (by omega) (bz (fun e1 => by rw [e1] at h; exact h) (fun e1 => m_isLetter g2 (by omega) (bz (fun e2 => by rw [e1, e2] at h; exact h) (fun e2 => m_isNode g1 (by omega) (bz (fun e3 => by rw [e1, e2, e3] at h; exact h) (fun e3 => m_isNode g1 (by omega) (bz (fun e4 => absurd (e1.symm.trans e4) (by decide)) (fun e4 => m_isLetter g2 (by omega) (bz (fun e5 => absurd (e2.symm.trans e5) (by decide)) (fun e5 => ?_))))))))))
  obtain ⟨a, ha, rfl⟩ := okb_ex (by omega) e1
  obtain ⟨l, hl, rfl⟩ := okb_ex (by omega) e2
  obtain ⟨t, ht, rfl⟩ := okb_ex (by omega) e3
  have hp := plc (a := a) (l := l) (by omega) (by omega)
  rw [plc_m]
  refine ⟨vp_in_nI hp (by omega), ?_⟩
  rw [e1, e2, e3, nI_clamp (by omega), nI_clamp (by omega), nI_clamp (by omega)] at h
  rw [nI_clamp (by omega), g4, s_bit _ (by omega)]
  refine ⟨fun c => ?_, fun c => ?_⟩
  · have e : bt (W (24 * l + a)) t = false := by
      cases z : bt (W (24 * l + a)) t
      · rfl
      · rw [z] at c; exact absurd rfl c
    rw [e] at h; exact h
  · have e : bt (W (24 * l + a)) t = true := (bI_1 _).mp c
    rw [e] at h; exact h
theorem m_way {σ : St} {x1 x2 x3 x4 : Int32} {N Lt s0 : Nat} {W : Nat → Int32} {post : Int32 → St → Prop} (hg : GG σ N Lt s0 W) (ok : okG N Lt s0 W) (h0 : wayR N Lt W x1 x2 x3 x4 = false → post 0 (us (us σ 0 0) 0 0)) (h0' : wayR N Lt W x1 x2 x3 x4 = false → post 0 (us σ 0 0)) (h1 : wayR N Lt W x1 x2 x3 x4 = true → post 1 (uA (us (us σ 0 0) 0 0) 0 (fl W (24 * x2.toNatClampNeg + x1.toNatClampNeg) x3.toNatClampNeg))) : wp_M_way x1 x2 x3 x4 σ post := by
  have hN := ok.2.1
  have hL := ok.2.2.2.1
  have g : GG (us σ 0 0) N Lt s0 W := ⟨hg.1, hg.2.1, hg.2.2.1, hg.2.2.2⟩
  unfold wp_M_way
  refine m_isNode g.1 (by omega) (bz (fun e1 => h0' (by unfold wayR; rw [e1]; rfl)) (fun e1 => m_isLetter g.2.1 (by omega) (bz (fun e2 => h0' (by unfold wayR; rw [e1, e2]; rfl)) (fun e2 => m_isNode g.1 (by omega) (bz (fun e3 => h0' (by unfold wayR; rw [e1, e2, e3]; rfl)) (fun e3 => m_is g ok ?_))))))
  obtain ⟨a, ha, rfl⟩ := okb_ex (by omega) e1
  obtain ⟨l, hl, rfl⟩ := okb_ex (by omega) e2
  obtain ⟨t, ht, rfl⟩ := okb_ex (by omega) e3
  have hp := plc (a := a) (l := l) (by omega) (by omega)
  unfold wayR at h0 h1
  rw [e1, e2, e3, nI_clamp (by omega), nI_clamp (by omega), nI_clamp (by omega)] at h0 h1
  rw [e1, e2, e3, nI_clamp (by omega), nI_clamp (by omega), nI_clamp (by omega), plc_m]
  refine ⟨fun c => ⟨vp_in_nI hp (by omega), vp_in_nI hp (by omega), ?_⟩, fun c => ?_⟩
  · rw [nI_clamp (by omega)]
    have e : (us (us σ 0 0) 0 0).2 0 = W := hg.2.2.2
    have := h1 (by simpa using c)
    unfold fl at this
    rw [← e] at this
    exact this
  · exact h0 (by simpa using c)
