/-! SIDE BY SIDE, 4: look. -/
theorem nI_bv (x : Int32) : x = nI x.toBitVec.toNat := by
  apply Int32.toBitVec_inj.mp
  show x.toBitVec = BitVec.ofNat 32 x.toBitVec.toNat
  simp
theorem nI_and (a b : Nat) : nI a &&& nI b = nI (a &&& b) := by
  apply Int32.toBitVec_inj.1
  show BitVec.ofNat 32 a &&& BitVec.ofNat 32 b = BitVec.ofNat 32 (a &&& b)
  apply BitVec.eq_of_getLsbD_eq
  intro i hi
  simp [hi]
theorem ush_n {n k : Nat} (hn : n < 2 ^ 32) (s : Int32) (hs : ((s.toUInt32 &&& Int32.toUInt32 31).toBitVec % 32).toNat = k) : ush (nI n) s = nI (n / 2 ^ k) := pk_ushrN hn s k hs
theorem i_bitCount {post : Int32 → St → Prop} {σ : St} {x : Int32} (h : post (nI (pop 32 x.toBitVec.toNat)) σ) : wp_I_bitCount1 x σ post := by
  have hn : x.toBitVec.toNat < 2 ^ 32 := x.toBitVec.isLt
  obtain ⟨n1, n2, n3, n4, n5, e1, b1, l1, e2, b2, e3, b3, e4, b4, e5, b5, e6⟩ := pop_steps hn
  rw [← e6] at h
  have hx := nI_bv x
  generalize x.toBitVec.toNat = n at *
  subst hx
  simp only [Nat.reducePow] at hn b1 b2 b3 b4 b5
  have m1 : (1431655765 : Int32) = nI 1431655765 := rfl
  have m2 : (858993459 : Int32) = nI 858993459 := rfl
  have m3 : (252645135 : Int32) = nI 252645135 := rfl
  have s1 : nI n - (ush (nI n) 1 &&& (1431655765 : Int32)) = nI n1 := by
    rw [ush_n (by simp only [Nat.reducePow]; omega) 1 (k := 1) (by decide), m1, nI_and, pk_sub (by simpa using l1), e1]
  unfold wp_I_bitCount1
  rw [s1]
  intro y1 ey1 y2 ey2
  have s2 : y1 = nI n2 := by
    rw [ey1, ush_n (by simp only [Nat.reducePow]; omega) (nI 2) (k := 2) (by decide), m2, nI_and, nI_and, nI_add, e2]
  subst s2
  have s3 : y2 = nI n4 := by
    rw [ey2, ush_n (n := n2) (by simp only [Nat.reducePow]; omega) (nI 4) (k := 4) (by decide), nI_add, m3, nI_and, show n2 / 2 ^ 4 = n2 / 16 from rfl, ← e3, ush_n (by simp only [Nat.reducePow]; omega) (nI 8) (k := 8) (by decide), nI_add, e4]
  subst s3
  rw [ush_n (n := n4) (by simp only [Nat.reducePow]; omega) (nI 16) (k := 16) (by decide), nI_add, show n4 / 2 ^ 16 = n4 / 65536 from rfl, ← e5, nI_and]
  exact h
/-- how many bits below N -/
def pb (x : Int32) : Nat → Nat
  | 0 => 0
  | t + 1 => pb x t + if bt x t = true then 1 else 0
theorem pb_pop (x : Int32) : ∀ k, pb x k = pop k x.toBitVec.toNat := by
  intro k
  induction k with
  | zero => rfl
  | succ k ih =>
    show pb x k + _ = pop k _ + _
    rw [ih]
    congr 1
    have e : bt x k = decide (x.toBitVec.toNat / 2 ^ k % 2 = 1) := by
      show x.toBitVec.toNat.testBit k = _
      rw [Nat.testBit_eq_decide_div_mod_eq]
    rw [e]
    by_cases c : x.toBitVec.toNat / 2 ^ k % 2 = 1
    · simp [c]
    · simp [c]; omega
theorem pb_top {x : Int32} {N : Nat} (h : ∀ i, N ≤ i → i < 32 → bt x i = false) : ∀ k, N ≤ k → k ≤ 32 → pb x k = pb x N := by
  intro k
  induction k with
  | zero => intro h1 _; rw [show N = 0 by omega]
  | succ k ih =>
    intro h1 h2
    by_cases e : N = k + 1
    · rw [e]
    · show pb x k + _ = _
      rw [h k (by omega) (by omega), ih (by omega) (by omega)]
      simp
/-- the ways of the first m rows -/
def cw (W : Nat → Int32) (N : Nat) : Nat → Nat
  | 0 => 0
  | m + 1 => cw W N m + pb (W m) N
theorem cw_eq {N Lt s0 : Nat} {W : Nat → Int32} (ok : okG N Lt s0 W) : ∀ m, m ≤ 960 → cw W 32 m = cw W N (min m (24 * Lt)) := by
  have h6 := ok.2.2.2.2.2
  have hN := ok.2.1
  intro m
  induction m with
  | zero => intro _; rw [Nat.zero_min]; rfl
  | succ m ih =>
    intro hm
    show cw W 32 m + pb (W m) 32 = _
    rw [ih (by omega)]
    by_cases c : m < 24 * Lt
    · rw [show min (m + 1) (24 * Lt) = m + 1 by omega, show min m (24 * Lt) = m by omega]
      show _ = cw W N m + pb (W m) N
      have ep : pb (W m) 32 = pb (W m) N := pb_top (fun i h1 h2 => by
        cases e : bt (W m) i
        · rfl
        · have := (h6 m i h2 e).1; omega) 32 (by omega) (Nat.le_refl 32)
      rw [ep]
    · rw [show min (m + 1) (24 * Lt) = 24 * Lt by omega, show min m (24 * Lt) = 24 * Lt by omega]
      have : pb (W m) 32 = pb (W m) 0 := pb_top (fun i _ h2 => by
        cases e : bt (W m) i
        · rfl
        · have := (h6 m i h2 e).2.1; omega) 32 (by omega) (Nat.le_refl 32)
      rw [this]
      show _ + 0 = _
      omega
theorem g_cw_loop {post : Int32 → St → Prop} {σ : St} {W : Nat → Int32} (hW : σ.2 0 = W) (h : post (nI (cw W 32 960)) σ) : ∀ (d m : Nat), m + d = 960 → L_G_countWays_4 post (d + 1) (nI (cw W 32 m)) (nI m) σ := by
  intro d
  induction d with
  | zero =>
    intro m hm
    have : m = 960 := by omega
    subst this
    exact ⟨fun _ => h, fun c => absurd (nI_le (Nat.le_refl _) (by omega)) c⟩
  | succ d ih =>
    intro m hm
    refine ⟨fun c => absurd c (nI_ge (by omega) (by omega)), fun _ => ⟨vp_in_nI (by omega) (by omega), i_bitCount ?_⟩⟩
    rw [nI_clamp (by omega), hW, ← pb_pop, nI_add, nI_1]
    exact ih (m + 1) (by omega)
theorem m_wm17 {post : Int32 → St → Prop} {K : Int32 → Int32 → St → Prop} {σ : St} {W : Nat → Int32} {N m c : Nat} (hN : N ≤ 24) (hm : m < 960) (h1 : σ.1 1 = nI N) (hW : σ.2 0 = W) (h : K (nI (c + pb (W m) N)) (nI (m + 1)) σ) : ∀ (d t : Nat), t + d = N → L_M_wayMany_17 post K (d + 1) (nI (c + pb (W m) t)) (nI m) (nI t) σ := by
  intro d
  induction d with
  | zero =>
    intro t ht
    have : t = N := by omega
    subst this
    refine ⟨fun _ => ?_, fun c => absurd (by rw [h1]; exact nI_le (Nat.le_refl _) (by omega)) c⟩
    rw [nI_1]
    exact h
  | succ d ih =>
    intro t ht
    refine ⟨fun c => absurd c (by rw [h1]; exact nI_ge (by omega) (by omega)), fun _ => ⟨vp_in_nI (by omega) (by omega), ?_⟩⟩
    rw [nI_clamp (by omega), hW, s_bit _ (by omega), nI_1]
    have e : nI (c + pb (W m) t) + bI (bt (W m) t) = nI (c + pb (W m) (t + 1)) := by
      show _ = nI (c + (pb (W m) t + if bt (W m) t = true then 1 else 0))
      cases bt (W m) t
      · show _ + (0 : Int32) = _
        rw [Int32.add_zero]
        simp
      · show _ + (1 : Int32) = _
        rw [nI_1]
        simp [Nat.add_assoc]
    rw [e]
    exact ih (t + 1) (by omega)
theorem m_wm4 {post : Int32 → St → Prop} {σ : St} {W : Nat → Int32} {N Lt : Nat} (hN : N ≤ 24) (hL : Lt ≤ 40) (h1 : σ.1 1 = nI N) (h2 : σ.1 2 = nI Lt) (hW : σ.2 0 = W) (h : post (nI (cw W N (24 * Lt))) σ) : ∀ (d m : Nat), m + d = 24 * Lt → L_M_wayMany_4 post (d + 1) (nI (cw W N m)) (nI m) σ := by
  intro d
  induction d with
  | zero =>
    intro m hm
    have : m = 24 * Lt := by omega
    subst this
    exact ⟨fun _ => h, fun c => absurd (by rw [h2, pk_mul]; exact nI_le (Nat.le_refl _) (by omega)) c⟩
  | succ d ih =>
    intro m hm
    refine ⟨fun c => absurd c (by rw [h2, pk_mul]; exact nI_ge (by omega) (by omega)), fun _ => ⟨N + 1, ?_⟩⟩
    exact m_wm17 (c := cw W N m) hN (by omega) h1 hW (ih (m + 1) (by omega)) N 0 (by omega)
/-- how many go on -/
def gl1 (δ : Nat → Nat → Option Nat) (ρ : Nat → Nat) (Q : List Nat) (a : Nat) : Nat → Nat
  | 0 => 0
  | l + 1 => gl1 δ ρ Q a l + if nx δ ρ Q a l = -1 then 0 else 1
def gp (δ : Nat → Nat → Option Nat) (ρ : Nat → Nat) (Q : List Nat) (Lt : Nat) : Nat → Nat
  | 0 => 0
  | p + 1 => gp δ ρ Q Lt p + gl1 δ ρ Q (Q.getD p 0) Lt
section LK
variable {n Lt R : Nat} {δ : Nat → Nat → Option Nat} {Q : List Nat} {S : List Int32}
theorem t_cg14 {post : Int32 → St → Prop} {K : Int32 → Int32 → St → Prop} {σ : St} {p a c : Nat} (hT : okT n Lt δ R Q S) (hC : TC σ n Lt δ R Q S) (hp : Q[p]? = some a) (h : K (nI (c + gl1 δ (ld Lt δ R) Q a Lt)) (nI (p + 1)) σ) : ∀ (d l : Nat), l + d = Lt → L_T_countGoing_14 post K (d + 1) (nI (c + gl1 δ (ld Lt δ R) Q a l)) (nI p) (nI l) σ := by
  have d3 := hT.1.2.2.1
  intro d
  induction d with
  | zero =>
    intro l hl
    have : l = Lt := by omega
    subst this
    refine ⟨fun _ => ?_, fun c => absurd (by rw [hC.1.1]; exact nI_le (Nat.le_refl _) (by omega)) c⟩
    rw [nI_1]
    exact h
  | succ d ih =>
    intro l hl
    have ih' := ih (l + 1) (by omega)
    have e : gl1 δ (ld Lt δ R) Q a (l + 1) = gl1 δ (ld Lt δ R) Q a l + if nx δ (ld Lt δ R) Q a l = -1 then 0 else 1 := rfl
    rw [e] at ih'
    refine ⟨fun c => absurd c (by rw [hC.1.1]; exact nI_ge (by omega) (by omega)), fun _ => t_stateAfter hT hC hp (by omega) ⟨fun c1 => ?_, fun c1 => ?_⟩⟩
    · rw [if_pos c1] at ih'
      rw [nI_1]
      exact ih'
    · rw [if_neg c1] at ih'
      rw [nI_1, nI_1]
      exact ih'
theorem t_cg4 {post : Int32 → St → Prop} {σ : St} (hT : okT n Lt δ R Q S) (hC : TC σ n Lt δ R Q S) (h : post (nI (gp δ (ld Lt δ R) Q Lt Q.length)) σ) : ∀ (d p : Nat), p + d = Q.length → L_T_countGoing_4 post (d + 1) (nI (gp δ (ld Lt δ R) Q Lt p)) (nI p) σ := by
  have d2 := hT.1.2.1
  have hQ := Q_len hT
  intro d
  induction d with
  | zero =>
    intro p hp
    have : p = Q.length := by omega
    subst this
    exact ⟨fun _ => h, fun c => absurd (by rw [hC.2.2.2.2.2.1]; exact nI_le (Nat.le_refl _) (by omega)) c⟩
  | succ d ih =>
    intro p hp
    obtain ⟨a, ha, _⟩ := Q_at hT (show p < Q.length by omega)
    have e : Q.getD p 0 = a := by rw [List.getD_eq_getElem?_getD, ha]; rfl
    refine ⟨fun c => absurd c (by rw [hC.2.2.2.2.2.1]; exact nI_ge (by omega) (by omega)), fun _ => ⟨Lt + 1, ?_⟩⟩
    refine t_cg14 (c := gp δ (ld Lt δ R) Q Lt p) hT hC ha ?_ Lt 0 (by omega)
    have := ih (p + 1) (by omega)
    have e2 : gp δ (ld Lt δ R) Q Lt (p + 1) = gp δ (ld Lt δ R) Q Lt p + gl1 δ (ld Lt δ R) Q (Q.getD p 0) Lt := rfl
    rw [e2, e] at this
    exact this
theorem m_sw14 {post : Int32 → St → Prop} {K : Int32 → Int32 → St → Prop} {σ : St} {p a c : Nat} (hT : okT n Lt δ R Q S) (hC : TR σ n Lt δ R Q S) (hp : Q[p]? = some a) (h : K (nI (c + gl1 δ (ld Lt δ R) Q a Lt)) (nI (p + 1)) σ) : ∀ (d l : Nat), l + d = Lt → L_M_somewhere_14 post K (d + 1) (nI (c + gl1 δ (ld Lt δ R) Q a l)) (nI p) (nI l) σ := by
  have d2 := hT.1.2.1
  have d3 := hT.1.2.2.1
  have hQ := Q_len hT
  have ha := (hT.2.2.2.2.2.1.2.2 a (List.mem_of_getElem? hp)).1
  intro d
  induction d with
  | zero =>
    intro l hl
    have : l = Lt := by omega
    subst this
    refine ⟨fun _ => ?_, fun c => absurd (by rw [hC.1.1]; exact nI_le (Nat.le_refl _) (by omega)) c⟩
    rw [nI_1]
    exact h
  | succ d ih =>
    intro l hl
    have ih' := ih (l + 1) (by omega)
    have e : gl1 δ (ld Lt δ R) Q a (l + 1) = gl1 δ (ld Lt δ R) Q a l + if nx δ (ld Lt δ R) Q a l = -1 then 0 else 1 := rfl
    rw [e] at ih'
    refine ⟨fun c => absurd c (by rw [hC.1.1]; exact nI_ge (by omega) (by omega)), fun _ => m_next hT hC hp (by omega) ?_⟩
    rcases nx_in hT ha (show l < Lt by omega) with z | ⟨q, hq, z⟩
    · rw [z] at ih' ⊢
      rw [if_pos rfl] at ih'
      refine ⟨fun _ => ?_, fun c => absurd (by decide) c⟩
      rw [Int32.add_zero, nI_1]
      exact ih'
    · rw [z] at ih' ⊢
      rw [if_neg (nI_ne1 (by omega))] at ih'
      refine ⟨fun c => absurd c (nI_pos (by omega)), fun _ => ?_⟩
      rw [nI_1, nI_1]
      exact ih'
theorem m_sw4 {post : Int32 → St → Prop} {σ : St} (hT : okT n Lt δ R Q S) (hC : TR σ n Lt δ R Q S) (h : post (nI (gp δ (ld Lt δ R) Q Lt Q.length)) σ) : ∀ (d p : Nat), p + d = Q.length → L_M_somewhere_4 post (d + 1) (nI (gp δ (ld Lt δ R) Q Lt p)) (nI p) σ := by
  have d2 := hT.1.2.1
  have hQ := Q_len hT
  intro d
  induction d with
  | zero =>
    intro p hp
    have : p = Q.length := by omega
    subst this
    exact ⟨fun _ => h, fun c => absurd (by rw [hC.2.2.2.1]; exact nI_le (Nat.le_refl _) (by omega)) c⟩
  | succ d ih =>
    intro p hp
    obtain ⟨a, ha, _⟩ := Q_at hT (show p < Q.length by omega)
    have e : Q.getD p 0 = a := by rw [List.getD_eq_getElem?_getD, ha]; rfl
    refine ⟨fun c => absurd c (by rw [hC.2.2.2.1]; exact nI_ge (by omega) (by omega)), fun _ => ⟨Lt + 1, ?_⟩⟩
    refine m_sw14 (c := gp δ (ld Lt δ R) Q Lt p) hT hC ha ?_ Lt 0 (by omega)
    have := ih (p + 1) (by omega)
    have e2 : gp δ (ld Lt δ R) Q Lt (p + 1) = gp δ (ld Lt δ R) Q Lt p + gl1 δ (ld Lt δ R) Q (Q.getD p 0) Lt := rfl
    rw [e2, e] at this
    exact this
/-- the longest row: M is above all pairs that are through -/
def mxo (Lt : Nat) (δ : Nat → Nat → Option Nat) (Q : List Nat) (p q m : Nat) : Prop := ∀ (i j a b : Nat), j < i → (i < p ∨ (i = p ∧ j < q)) → Q[i]? = some a → Q[j]? = some b → dst Lt δ a b ≤ m
theorem m_lo14 {post : Int32 → St → Prop} {K : Int32 → Int32 → St → Prop} {σ : St} {p : Nat} (hT : okT n Lt δ R Q S) (hC : TR σ n Lt δ R Q S) (hp : p < Q.length) (h : ∀ m, m ≤ R → mxo Lt δ Q (p + 1) 0 m → K (nI m) (nI (p + 1)) σ) : ∀ (d q m : Nat), q + d = p → m ≤ R → mxo Lt δ Q p q m → L_M_longest_14 post K (d + 1) (nI m) (nI p) (nI q) σ := by
  have d2 := hT.1.2.1
  have hQ := Q_len hT
  have hR := hT.2.1
  intro d
  induction d with
  | zero =>
    intro q m hq hm hx
    have : q = p := by omega
    subst this
    refine ⟨fun _ => ?_, fun c => absurd (nI_le (Nat.le_refl _) (by omega)) c⟩
    rw [nI_1]
    exact h m hm (fun i j a b h1 h2 ha hb => hx i j a b h1 (by omega) ha hb)
  | succ d ih =>
    intro q m hq hm hx
    obtain ⟨a, ha, han, _⟩ := Q_at hT hp
    obtain ⟨b, hb, hbn, _⟩ := Q_at hT (show q < Q.length by omega)
    have q1 := p120_lt d2 han hbn
    have hds := dst_small (Lt := Lt) (δ := δ) (R := R) (a := a) (b := b) (fun k => stb_all Lt δ hT.1.2.2.2 hT.2.2.1 k a b han hbn)
    have up : ∀ m', m ≤ m' → dst Lt δ a b ≤ m' → mxo Lt δ Q p (q + 1) m' := fun m' h1 h2 i j a' b' k1 k2 k3 k4 => by
      by_cases e : i = p ∧ j = q
      · obtain ⟨rfl, rfl⟩ := e
        rw [ha] at k3
        rw [hb] at k4
        cases k3
        cases k4
        exact h2
      · exact Nat.le_trans (hx i j a' b' k1 (by omega) k3 k4) h1
    refine ⟨fun c => absurd c (nI_ge (by omega) (by omega)), fun _ => ⟨vp_in_nI (by omega) (by omega), vp_in_nI (by omega) (by omega), ?_⟩⟩
    rw [nI_clamp (n := p) (by omega), nI_clamp (n := q) (by omega), hC.2.2.2.2.1 p a ha, hC.2.2.2.2.1 q b hb, p120_m, nI_clamp (by omega), (hC.2.2.1 a b han hbn).1, nI_1]
    refine ⟨vp_in_nI q1 (by omega), fun c => ?_, fun c => ?_⟩
    · have c := (nI_leI (by omega) (by omega)).mp c
      exact ih (q + 1) m (by omega) hm (up m (Nat.le_refl m) c)
    · have c : ¬ dst Lt δ a b ≤ m := fun z => c (nI_le z (by omega))
      exact ih (q + 1) (dst Lt δ a b) (by omega) hds (up _ (by omega) (Nat.le_refl _))
theorem m_lo4 {post : Int32 → St → Prop} {σ : St} (hT : okT n Lt δ R Q S) (hC : TR σ n Lt δ R Q S) (h : ∀ m, m ≤ R → mxo Lt δ Q Q.length 0 m → post (nI m) σ) : ∀ (d p m : Nat), p + d = Q.length → m ≤ R → mxo Lt δ Q p 0 m → L_M_longest_4 post (d + 1) (nI m) (nI p) σ := by
  have d2 := hT.1.2.1
  have hQ := Q_len hT
  have hR := hT.2.1
  intro d
  induction d with
  | zero =>
    intro p m hp hm hx
    have : p = Q.length := by omega
    subst this
    exact ⟨fun _ => h m hm hx, fun c => absurd (by rw [hC.2.2.2.1]; exact nI_le (Nat.le_refl _) (by omega)) c⟩
  | succ d ih =>
    intro p m hp hm hx
    refine ⟨fun c => absurd c (by rw [hC.2.2.2.1]; exact nI_ge (by omega) (by omega)), fun _ => ⟨p + 1, ?_⟩⟩
    exact m_lo14 hT hC (by omega) (fun m' hm' hx' => ih (p + 1) m' (by omega) hm' hx') p 0 m (by omega) hm hx
theorem mxo_R (hT : okT n Lt δ R Q S) {m : Nat} (hm : m ≤ R) (hx : mxo Lt δ Q Q.length 0 m) : m = R := by
  rcases Nat.eq_zero_or_pos R with z | z
  · omega
  · have hns := hT.2.2.2.1 (R - 1) (by omega)
    have ⟨s, t, hs, ht, e, ne⟩ : ∃ s t, s < n ∧ t < n ∧ eqv Lt δ (R - 1) s t ∧ ¬ eqv Lt δ (R - 1 + 1) s t := by
      apply Classical.byContradiction
      intro q
      apply hns
      intro s t hs ht e
      apply Classical.byContradiction
      intro w
      exact q ⟨s, t, hs, ht, e, w⟩
    have hd : dst Lt δ s t = R := by rw [dst_is Lt δ e ne]; omega
    have hd2 : dst Lt δ (ld Lt δ R s) (ld Lt δ R t) = R := by rw [← dst_cong (hallT hT hs) (hallT hT ht)]; exact hd
    obtain ⟨i, hi⟩ := List.getElem?_of_mem (hT.2.2.2.2.2.2 s hs)
    obtain ⟨j, hj⟩ := List.getElem?_of_mem (hT.2.2.2.2.2.2 t ht)
    have hil := (List.getElem?_eq_some_iff.mp hi).1
    have hjl := (List.getElem?_eq_some_iff.mp hj).1
    rcases Nat.lt_trichotomy i j with y | y | y
    · have := hx j i _ _ y (Or.inl hjl) hj hi
      rw [dst_symm, hd2] at this
      omega
    · subst y
      rw [hi] at hj
      have e2 := Option.some.inj hj
      rw [e2, dst_self] at hd2
      omega
    · have := hx i j _ _ y (Or.inl hil) hi hj
      rw [hd2] at this
      omega
end LK
theorem m_look_no {τ : St} {x : Int32} {P : Int32 → St → Prop} (hx : ∀ j, j < 10 → ¬ x = nI j) (h : P (-1) (us τ 0 0)) : wp_M_look x τ P := by
  unfold wp_M_look
  refine ⟨fun e => absurd e (hx 0 (by omega)), fun e => absurd e (hx 1 (by omega)), fun e => absurd e (hx 2 (by omega)), fun e => absurd e (hx 3 (by omega)), fun e => absurd e (hx 4 (by omega)), fun e => absurd e (hx 5 (by omega)), fun e => absurd e (hx 6 (by omega)), fun e => absurd e (hx 7 (by omega)), fun e => absurd e (hx 8 (by omega)), fun e => absurd e (hx 9 (by omega)), fun _ => h⟩
theorem m_look_0 {τ : St} {P : Int32 → St → Prop} (h : P ((us τ 0 0).1 1) (us τ 0 0)) : wp_M_look (nI 0) τ P := ⟨fun _ => h, fun e => absurd e (by decide), fun e => absurd e (by decide), fun e => absurd e (by decide), fun e => absurd e (by decide), fun e => absurd e (by decide), fun e => absurd e (by decide), fun e => absurd e (by decide), fun e => absurd e (by decide), fun e => absurd e (by decide), fun e => absurd rfl (e 0 (by omega))⟩
theorem m_look_1 {τ : St} {P : Int32 → St → Prop} (h : P ((us τ 0 0).1 2) (us τ 0 0)) : wp_M_look (nI 1) τ P := ⟨fun e => absurd e (by decide), fun _ => h, fun e => absurd e (by decide), fun e => absurd e (by decide), fun e => absurd e (by decide), fun e => absurd e (by decide), fun e => absurd e (by decide), fun e => absurd e (by decide), fun e => absurd e (by decide), fun e => absurd e (by decide), fun e => absurd rfl (e 1 (by omega))⟩
theorem m_look_2 {τ : St} {P : Int32 → St → Prop} (h : wp_M_wayMany (us τ 0 0) (fun r1 σ1 => P r1 σ1)) : wp_M_look (nI 2) τ P := ⟨fun e => absurd e (by decide), fun e => absurd e (by decide), fun _ => h, fun e => absurd e (by decide), fun e => absurd e (by decide), fun e => absurd e (by decide), fun e => absurd e (by decide), fun e => absurd e (by decide), fun e => absurd e (by decide), fun e => absurd e (by decide), fun e => absurd rfl (e 2 (by omega))⟩
theorem m_look_3 {τ : St} {P : Int32 → St → Prop} (h : P ((us τ 0 0).1 3) (us τ 0 0)) : wp_M_look (nI 3) τ P := ⟨fun e => absurd e (by decide), fun e => absurd e (by decide), fun e => absurd e (by decide), fun _ => h, fun e => absurd e (by decide), fun e => absurd e (by decide), fun e => absurd e (by decide), fun e => absurd e (by decide), fun e => absurd e (by decide), fun e => absurd e (by decide), fun e => absurd rfl (e 3 (by omega))⟩
theorem m_look_4 {τ : St} {P : Int32 → St → Prop} (h : P ((us τ 0 0).1 4) (us τ 0 0)) : wp_M_look (nI 4) τ P := ⟨fun e => absurd e (by decide), fun e => absurd e (by decide), fun e => absurd e (by decide), fun e => absurd e (by decide), fun _ => h, fun e => absurd e (by decide), fun e => absurd e (by decide), fun e => absurd e (by decide), fun e => absurd e (by decide), fun e => absurd e (by decide), fun e => absurd rfl (e 4 (by omega))⟩
theorem m_look_5 {τ : St} {P : Int32 → St → Prop} (h : P ((us τ 0 0).1 6) (us τ 0 0)) : wp_M_look (nI 5) τ P := ⟨fun e => absurd e (by decide), fun e => absurd e (by decide), fun e => absurd e (by decide), fun e => absurd e (by decide), fun e => absurd e (by decide), fun _ => h, fun e => absurd e (by decide), fun e => absurd e (by decide), fun e => absurd e (by decide), fun e => absurd e (by decide), fun e => absurd rfl (e 5 (by omega))⟩
theorem m_look_6 {τ : St} {P : Int32 → St → Prop} (h : P ((us τ 0 0).1 5) (us τ 0 0)) : wp_M_look (nI 6) τ P := ⟨fun e => absurd e (by decide), fun e => absurd e (by decide), fun e => absurd e (by decide), fun e => absurd e (by decide), fun e => absurd e (by decide), fun e => absurd e (by decide), fun _ => h, fun e => absurd e (by decide), fun e => absurd e (by decide), fun e => absurd e (by decide), fun e => absurd rfl (e 6 (by omega))⟩
theorem m_look_7 {τ : St} {P : Int32 → St → Prop} (h : wp_M_somewhere (us τ 0 0) (fun r2 σ2 => P r2 σ2)) : wp_M_look (nI 7) τ P := ⟨fun e => absurd e (by decide), fun e => absurd e (by decide), fun e => absurd e (by decide), fun e => absurd e (by decide), fun e => absurd e (by decide), fun e => absurd e (by decide), fun e => absurd e (by decide), fun _ => h, fun e => absurd e (by decide), fun e => absurd e (by decide), fun e => absurd rfl (e 7 (by omega))⟩
theorem m_look_8 {τ : St} {P : Int32 → St → Prop} (h : wp_M_longest (us τ 0 0) (fun r3 σ3 => P r3 σ3)) : wp_M_look (nI 8) τ P := ⟨fun e => absurd e (by decide), fun e => absurd e (by decide), fun e => absurd e (by decide), fun e => absurd e (by decide), fun e => absurd e (by decide), fun e => absurd e (by decide), fun e => absurd e (by decide), fun e => absurd e (by decide), fun _ => h, fun e => absurd e (by decide), fun e => absurd rfl (e 8 (by omega))⟩
theorem m_look_9 {τ : St} {P : Int32 → St → Prop} (h : P ((us τ 0 0).1 7) (us τ 0 0)) : wp_M_look (nI 9) τ P := ⟨fun e => absurd e (by decide), fun e => absurd e (by decide), fun e => absurd e (by decide), fun e => absurd e (by decide), fun e => absurd e (by decide), fun e => absurd e (by decide), fun e => absurd e (by decide), fun e => absurd e (by decide), fun e => absurd e (by decide), fun _ => h, fun e => absurd rfl (e 9 (by omega))⟩
theorem r_look {σ τ : St} {x : Int32} {post : Int32 → Int32 → St → St → Prop} (h : Rel σ τ) (hp : ∀ r r' u v, eqR r r' u v → post r r' u v) : wp_W_look x σ (fun r u => wp_M_look x τ (fun r' v => post r r' u v)) := by
  obtain ⟨N, L0, s0, W, ok, g1, g2⟩ := h.1
  obtain ⟨n, Lt, δ, R, Q, S, h1, h2, h3, w, hw, h4, h5⟩ := h.2
  have hN := ok.2.1
  have hL := ok.2.2.2.1
  have hC : TR (us τ 0 0) n Lt δ R Q S := h3.fr (ss := [0]) (aa := []) (Fr.us Fr.rf (by simp)) (fun k hk => by simp at hk; omega) (fun k hk => by simp at hk)
  refine ⟨fun e => ?_, fun e => ?_, fun e => ?_, fun e => ?_, fun e => ?_, fun e => ?_, fun e => ?_, fun e => ?_, fun e => ?_, fun e => ?_, fun e => m_look_no e (hp _ _ _ _ ⟨rfl, h.m0⟩)⟩ <;> subst e
  · exact m_look_0 (hp _ _ _ _ ⟨g1.1.trans g2.1.symm, h.m0⟩)
  · exact m_look_1 (hp _ _ _ _ ⟨g1.2.1.trans g2.2.1.symm, h.m0⟩)
  · refine ⟨961, g_cw_loop g1.2.2.2 ?_ 960 0 (by omega)⟩
    refine m_look_2 ⟨24 * L0 + 1, m_wm4 (σ := us τ 0 0) (W := W) hN hL g2.1 g2.2.1 g2.2.2.2 (hp _ _ _ _ ⟨?_, h.m0⟩) (24 * L0) 0 (by omega)⟩
    rw [cw_eq ok 960 (Nat.le_refl _), show min 960 (24 * L0) = 24 * L0 by omega]
  · exact m_look_3 (hp _ _ _ _ ⟨g1.2.2.1.trans g2.2.2.1.symm, h.m0⟩)
  · exact m_look_4 (hp _ _ _ _ ⟨h2.1.2.1.trans h3.1.2.1.symm, h.m0⟩)
  · exact m_look_5 (hp _ _ _ _ ⟨h2.2.2.2.2.2.1.trans h3.2.2.2.1.symm, h.m0⟩)
  · exact m_look_6 (hp _ _ _ _ ⟨h2.1.1.trans h3.1.1.symm, h.m0⟩)
  · refine ⟨Q.length + 1, t_cg4 h1 h2 ?_ Q.length 0 (by omega)⟩
    exact m_look_7 ⟨Q.length + 1, m_sw4 h1 hC (hp _ _ _ _ ⟨rfl, h.m0⟩) Q.length 0 (by omega)⟩
  · refine m_look_8 ⟨Q.length + 1, m_lo4 h1 hC (fun m hm hx => hp _ _ _ _ ⟨?_, h.m0⟩) Q.length 0 0 (by omega) (by omega) (fun i j a b k1 k2 => by omega)⟩
    rw [mxo_R h1 hm hx]
    exact h2.2.2.2.2.1
  · exact m_look_9 (hp _ _ _ _ ⟨h4.trans h5.symm, h.m0⟩)
