/-! SIDE BY SIDE, 3: apartBy. -/
section AB
variable {n Lt : Nat} {δ : Nat → Nat → Option Nat}
theorem nxt_same {a a' l : Nat} (h : ∀ k, eqv Lt δ k a a') (hl : l < Lt) : (δ a l = none ∧ δ a' l = none) ∨ ∃ x x', δ a l = some x ∧ δ a' l = some x' ∧ ∀ k, eqv Lt δ k x x' := by
  cases ha : δ a l with
  | none =>
    cases hb : δ a' l with
    | none => exact Or.inl ⟨rfl, rfl⟩
    | some y =>
      have := (h 1).2 l hl
      rw [ha, hb] at this
      exact False.elim this
  | some x =>
    cases hb : δ a' l with
    | none =>
      have := (h 1).2 l hl
      rw [ha, hb] at this
      exact False.elim this
    | some y =>
      refine Or.inr ⟨x, y, rfl, rfl, fun k => ?_⟩
      have := (h (k + 1)).2 l hl
      rw [ha, hb] at this
      exact this
theorem dst_cong {a a' b b' : Nat} (ha : ∀ k, eqv Lt δ k a a') (hb : ∀ k, eqv Lt δ k b b') : dst Lt δ a b = dst Lt δ a' b' := dst_same Lt δ (fun k => ⟨fun h => eqv_trans Lt δ k (eqv_symm Lt δ k (ha k)) (eqv_trans Lt δ k h (hb k)), fun h => eqv_trans Lt δ k (ha k) (eqv_trans Lt δ k h (eqv_symm Lt δ k (hb k)))⟩)
theorem tlc_cong {k a a' b b' l : Nat} (ha : ∀ k, eqv Lt δ k a a') (hb : ∀ k, eqv Lt δ k b b') (hl : l < Lt) (h : tlc Lt δ k a b l) : tlc Lt δ k a' b' l := by
  rcases h with ⟨h1, h2⟩ | ⟨h1, x, y, h2, h3, h4⟩
  · refine Or.inl ⟨h1, ?_⟩
    rcases nxt_same ha hl with ⟨z1, z2⟩ | ⟨x, x', z1, z2, _⟩
    · rcases nxt_same hb hl with ⟨w1, w2⟩ | ⟨y, y', w1, w2, _⟩
      · exact h2.elim (fun q => absurd w1 q.2) (fun q => absurd z1 q.1)
      · exact Or.inl ⟨z2, by rw [w2]; simp⟩
    · rcases nxt_same hb hl with ⟨w1, w2⟩ | ⟨y, y', w1, w2, _⟩
      · exact Or.inr ⟨by rw [z2]; simp, w2⟩
      · exact h2.elim (fun q => by rw [z1] at q; exact absurd q.1 (by simp)) (fun q => by rw [w1] at q; exact absurd q.2 (by simp))
  · rcases nxt_same ha hl with ⟨z1, _⟩ | ⟨x0, x', z1, z2, z3⟩
    · rw [z1] at h2; cases h2
    · rcases nxt_same hb hl with ⟨w1, _⟩ | ⟨y0, y', w1, w2, w3⟩
      · rw [w1] at h3; cases h3
      · rw [z1] at h2
        rw [w1] at h3
        cases h2
        cases h3
        exact Or.inr ⟨h1, x', y', z2, w2, by rw [← dst_cong z3 w3]; exact h4⟩
theorem fst_cong {a a' b b' : Nat} (ha : ∀ k, eqv Lt δ k a a') (hb : ∀ k, eqv Lt δ k b b') (h : 0 < dst Lt δ a b) : fst Lt δ a' b' = fst Lt δ a b := by
  obtain ⟨h1, h2, h3⟩ := fst_spec Lt δ h
  have e := dst_cong ha hb
  refine fst_is Lt δ h1 (by rw [← e]; exact tlc_cong ha hb h1 h2) (fun j hj q => h3 j hj ?_)
  rw [e]
  exact tlc_cong (fun k => eqv_symm Lt δ k (ha k)) (fun k => eqv_symm Lt δ k (hb k)) (by omega) q
/-- the next two sets of the row; the letter at a place of the row -/
noncomputable def stA (Lt : Nat) (δ : Nat → Nat → Option Nat) (s t : Nat) : Nat := (δ s (fst Lt δ s t)).getD 0
noncomputable def fin (Lt : Nat) (δ : Nat → Nat → Option Nat) : Nat → Nat → Nat → Nat
  | 0, s, t => fst Lt δ s t
  | d + 1, s, t => fin Lt δ d ((δ s (fst Lt δ s t)).getD 0) ((δ t (fst Lt δ s t)).getD 0)
theorem st_spec (hD : okD n Lt δ) {s t : Nat} (hs : s < n) (ht : t < n) (h : 2 ≤ dst Lt δ s t) : fst Lt δ s t < Lt ∧ ∃ x y, δ s (fst Lt δ s t) = some x ∧ δ t (fst Lt δ s t) = some y ∧ x < n ∧ y < n ∧ dst Lt δ x y + 1 = dst Lt δ s t := by
  obtain ⟨h1, h2, _⟩ := fst_spec Lt δ (show 0 < dst Lt δ s t by omega)
  refine ⟨h1, ?_⟩
  rcases h2 with ⟨z, _⟩ | ⟨_, x, y, z1, z2, z3⟩
  · omega
  · exact ⟨x, y, z1, z2, hD.2.2.2 s _ x hs h1 z1, hD.2.2.2 t _ y ht h1 z2, z3⟩
theorem m_ab_loop {post : Int32 → St → Prop} {σ : St} {R i : Nat} {Q : List Nat} {S : List Int32} {x1 x2 : Int32} (hT : okT n Lt δ R Q S) (hC : TR σ n Lt δ R Q S) (hi : i < 200) :
    ∀ (d k s t : Nat), k + d = i → s < n → t < n → d < dst Lt δ s t → post (nI (fin Lt δ d s t)) σ → L_M_apartBy_71 post (d + 1) x1 x2 (nI i) (nI s) (nI t) (nI k) σ := by
  have d2 := hT.1.2.1
  have d3 := hT.1.2.2.1
  intro d
  induction d with
  | zero =>
    intro k s t hk hs ht hd h
    have : k = i := by omega
    subst this
    have q1 := p120_lt d2 hs ht
    refine ⟨fun _ => ?_, fun c => absurd (nI_le (Nat.le_refl _) (by omega)) c⟩
    rw [p120_m]
    refine ⟨vp_in_nI q1 (by omega), ?_⟩
    rw [nI_clamp (by omega), (hC.2.2.1 s t hs ht).2 hd]
    exact h
  | succ d ih =>
    intro k s t hk hs ht hd h
    have q1 := p120_lt d2 hs ht
    obtain ⟨g1, x, y, g2, g3, g4, g5, g6⟩ := st_spec hT.1 hs ht (show 2 ≤ dst Lt δ s t by omega)
    refine ⟨fun c => absurd c (nI_ge (by omega) (by omega)), fun _ => ?_⟩
    rw [p120_m]
    refine ⟨vp_in_nI q1 (by omega), ?_⟩
    rw [nI_clamp (n := 120 * s + t) (by omega), (hC.2.2.1 s t hs ht).2 (by omega), p40_m, p40_m]
    refine ⟨vp_in_nI (by omega) (by omega), vp_in_nI (by omega) (by omega), ?_⟩
    rw [nI_clamp (n := 40 * s + _) (by omega), nI_clamp (n := 40 * t + _) (by omega), hC.1.2.2 s _ hs g1, hC.1.2.2 t _ ht g1, g2, g3, nI_1]
    refine ih (k + 1) x y (by omega) g4 g5 (by omega) ?_
    have e : fin Lt δ (d + 1) s t = fin Lt δ d x y := by
      show fin Lt δ d ((δ s (fst Lt δ s t)).getD 0) ((δ t (fst Lt δ s t)).getD 0) = _
      rw [g2, g3]
      rfl
    rw [e] at h
    exact h
theorem hallT {R : Nat} {Q : List Nat} {S : List Int32} (hT : okT n Lt δ R Q S) {s : Nat} (hs : s < n) : ∀ k, eqv Lt δ k s (ld Lt δ R s) := fun k => stb_all Lt δ hT.1.2.2.2 hT.2.2.1 k s _ hs (Nat.lt_of_le_of_lt (ld_le Lt δ R s) hs) (eqv_symm Lt δ R (ld_eqv Lt δ R s))
theorem dst_ld {R : Nat} {Q : List Nat} {S : List Int32} (hT : okT n Lt δ R Q S) {x y : Nat} (hx : x < n) (hy : y < n) : (dst Lt δ x y = 0 ↔ ld Lt δ R x = ld Lt δ R y) := by
  constructor
  · intro h
    exact (ld_iff Lt δ).mpr (dst_z Lt δ h R)
  · intro h
    exact dst_0 Lt δ (fun k => stb_all Lt δ hT.1.2.2.2 hT.2.2.1 k x y hx hy ((ld_iff Lt δ).mp h))
theorem t_lb {post : Int32 → St → Prop} {σ : St} {R u v : Nat} {Q : List Nat} {S : List Int32} (hT : okT n Lt δ R Q S) (hC : TC σ n Lt δ R Q S) (hu : u < n) (hv : v < n) (huv : u ≠ v) (lu : ld Lt δ R u = u) (lv : ld Lt δ R v = v) (h : post (nI (dst Lt δ u v)) σ) : wp_T_lengthBehind (nI u) (nI v) σ post := by
  have d2 := hT.1.2.1
  have hpr := pr_lt huv (by omega) (by omega)
  refine ⟨fun c => absurd c (nI_ne1 (by omega)), fun _ => ⟨fun _ => t_pair huv (by omega) (by omega) ⟨vp_in_nI hpr (by omega), ?_⟩, fun c => absurd c (nI_ne1 (by omega))⟩⟩
  rw [nI_clamp (by omega), hC.2.2.2.1 u v hu hv huv lu lv]
  exact h
theorem t_le_loop {post : Int32 → St → Prop} {σ : St} {R u v m : Nat} {Q : List Nat} {S : List Int32} (hT : okT n Lt δ R Q S) (hC : TC σ n Lt δ R Q S) (hu : u < n) (hv : v < n) (hm : dst Lt δ u v = m + 1) (h : post (nI (fst Lt δ u v)) σ) :
    ∀ (d l : Nat), l + d = Lt → (∀ j, j < l → ¬ tlc Lt δ (m + 1) u v j) → L_T_leastLetter_3 post (d + 1) (nI u) (nI v) (nI m) (nI l) σ := by
  have d2 := hT.1.2.1
  have d3 := hT.1.2.2.1
  have d4 := hT.1.2.2.2
  have hms : m < n := by
    have := dst_small (Lt := Lt) (δ := δ) (R := R) (a := u) (b := v) (fun k => stb_all Lt δ d4 hT.2.2.1 k u v hu hv)
    have := hT.2.1
    omega
  have hfs := fst_spec Lt δ (show 0 < dst Lt δ u v by omega)
  rw [hm] at hfs
  intro d
  induction d with
  | zero =>
    intro l hl hb
    exact absurd hfs.2.1 (hb _ (by omega))
  | succ d ih =>
    intro l hl hb
    have hlt : l < Lt := by omega
    have next : ¬ tlc Lt δ (m + 1) u v l → L_T_leastLetter_3 post (d + 1) (nI u) (nI v) (nI m) (nI (l + 1)) σ := fun q => ih (l + 1) (by omega) (fun j hj => by
      by_cases e : j = l
      · rw [e]; exact q
      · exact hb j (by omega))
    have found : tlc Lt δ (m + 1) u v l → post (nI l) σ := fun q => by
      rw [fst_is Lt δ hlt (by rw [hm]; exact q) (fun j hj => by rw [hm]; exact hb j hj)] at h
      exact h
    have hB := hC.2.2.1
    refine ⟨fun c => absurd c (by rw [hC.1.1]; exact nI_ge hlt (by omega)), fun _ => t_la7 hT.1 hC.1 hB hu hlt (t_la7 hT.1 hC.1 hB hv hlt ?_)⟩
    rw [nI_1]
    cases hx : δ u l with
    | none =>
      cases hy : δ v l with
      | none =>
        refine ⟨fun _ => next (fun q => ?_), fun c => absurd rfl c⟩
        rcases q with ⟨_, z | z⟩ | ⟨_, x, y, z, _⟩
        · exact z.2 hy
        · exact z.1 hx
        · rw [hx] at z; cases z
      | some y =>
        have hyn := d4 v l y hv hlt hy
        have ly := ld_le Lt δ R y
        have em1 : enc (Option.map (ld Lt δ R) none) = -1 := rfl
        have em2 : enc (Option.map (ld Lt δ R) (some y)) = nI (ld Lt δ R y) := rfl
        rw [em1, em2]
        refine ⟨fun c => absurd c.symm (nI_ne1 (by omega)), fun _ => ⟨fun _ => ⟨fun c => next (fun q => ?_), fun c => found ?_⟩, fun c => absurd rfl c⟩⟩
        · rcases q with ⟨z, _⟩ | ⟨_, x, y, z, _⟩
          · exact c (by rw [show m = 0 by omega]; rfl)
          · rw [hx] at z; cases z
        · have : m = 0 := (nI_eq (a := 0) (by omega) (by omega)).mp c |>.symm
          subst this
          exact Or.inl ⟨rfl, Or.inl ⟨hx, by rw [hy]; simp⟩⟩
    | some x =>
      have hxn := d4 u l x hu hlt hx
      have lx := ld_le Lt δ R x
      cases hy : δ v l with
      | none =>
        have em1 : enc (Option.map (ld Lt δ R) none) = -1 := rfl
        have em2 : enc (Option.map (ld Lt δ R) (some x)) = nI (ld Lt δ R x) := rfl
        rw [em1, em2]
        refine ⟨fun c => absurd c (nI_ne1 (by omega)), fun _ => ⟨fun c => absurd c (nI_ne1 (by omega)), fun _ => ⟨fun c => absurd rfl c, fun _ => ⟨fun c => next (fun q => ?_), fun c => found ?_⟩⟩⟩⟩
        · rcases q with ⟨z, _⟩ | ⟨_, x, y, _, z, _⟩
          · exact c (by rw [show m = 0 by omega]; rfl)
          · rw [hy] at z; cases z
        · have : m = 0 := (nI_eq (a := 0) (by omega) (by omega)).mp c |>.symm
          subst this
          exact Or.inl ⟨rfl, Or.inr ⟨by rw [hx]; simp, hy⟩⟩
      | some y =>
        have hyn := d4 v l y hv hlt hy
        have ly := ld_le Lt δ R y
        have em1 : enc (Option.map (ld Lt δ R) (some x)) = nI (ld Lt δ R x) := rfl
        have em2 : enc (Option.map (ld Lt δ R) (some y)) = nI (ld Lt δ R y) := rfl
        rw [em1, em2]
        refine ⟨fun c => next (fun q => ?_), fun c => ?_⟩
        · have e := (nI_eq (by omega) (by omega)).mp c
          have e0 := (dst_ld hT hxn hyn).mpr e
          rcases q with ⟨_, z | z⟩ | ⟨z0, x', y', z1, z2, z3⟩
          · rw [hx] at z; cases z.1
          · rw [hy] at z; cases z.2
          · rw [hx] at z1
            rw [hy] at z2
            cases z1
            cases z2
            omega
        · have hne : ld Lt δ R x ≠ ld Lt δ R y := fun e => c (by rw [e])
          have hpos : dst Lt δ x y ≠ 0 := fun e => hne ((dst_ld hT hxn hyn).mp e)
          have e2 : dst Lt δ (ld Lt δ R x) (ld Lt δ R y) = dst Lt δ x y := (dst_cong (hallT hT hxn) (hallT hT hyn)).symm
          have hds := dst_small (Lt := Lt) (δ := δ) (R := R) (a := x) (b := y) (fun k => stb_all Lt δ d4 hT.2.2.1 k x y hxn hyn)
          have hR := hT.2.1
          refine t_lb hT hC (by omega) (by omega) hne (ld_idem Lt δ R x) (ld_idem Lt δ R y) ?_
          rw [e2]
          refine ⟨fun c2 => next (fun q => c2 ?_), fun c2 => found ?_⟩
          · rcases q with ⟨_, z | z⟩ | ⟨z0, x', y', z1, z2, z3⟩
            · rw [hx] at z; cases z.1
            · rw [hy] at z; cases z.2
            · rw [hx] at z1
              rw [hy] at z2
              cases z1
              cases z2
              rw [show dst Lt δ x y = m by omega]
          · have e3 : dst Lt δ x y = m := (nI_eq (by omega) (by omega)).mp c2
            exact Or.inr ⟨by omega, x, y, hx, hy, by omega⟩
theorem t_leastLetter {post : Int32 → St → Prop} {σ : St} {R u v m : Nat} {Q : List Nat} {S : List Int32} (hT : okT n Lt δ R Q S) (hC : TC σ n Lt δ R Q S) (hu : u < n) (hv : v < n) (hm : dst Lt δ u v = m + 1) (h : post (nI (fst Lt δ u v)) σ) : wp_T_leastLetter (nI u) (nI v) (nI m) σ post := ⟨Lt + 1, t_le_loop hT hC hu hv hm h Lt 0 (by omega) (fun j hj => by omega)⟩
theorem t_rl_loop {post : Int32 → St → Prop} {σ : St} {R i : Nat} {Q : List Nat} {S : List Int32} {x1 x2 : Int32} (hT : okT n Lt δ R Q S) (hC : TC σ n Lt δ R Q S) (hi : i < 200) :
    ∀ (d k s t m : Nat), k + d = i → s < n → t < n → dst Lt δ s t = m + 1 → d ≤ m → post (nI (fin Lt δ d s t)) σ → L_T_rowLetter_41 post (d + 1) x1 x2 (nI i) (nI (ld Lt δ R s)) (nI (ld Lt δ R t)) (nI m) (nI (fst Lt δ s t)) (nI k) σ := by
  have d2 := hT.1.2.1
  have d3 := hT.1.2.2.1
  have d4 := hT.1.2.2.2
  intro d
  induction d with
  | zero =>
    intro k s t m hk hs ht hm hd h
    have : k = i := by omega
    subst this
    exact ⟨fun _ => h, fun c => absurd (nI_le (Nat.le_refl _) (by omega)) c⟩
  | succ d ih =>
    intro k s t m hk hs ht hm hd h
    obtain ⟨g1, x, y, g2, g3, g4, g5, g6⟩ := st_spec hT.1 hs ht (show 2 ≤ dst Lt δ s t by omega)
    have ls := ld_le Lt δ R s
    have lt := ld_le Lt δ R t
    have lx := ld_le Lt δ R x
    have ly := ld_le Lt δ R y
    -- the leaders go to leaders of the same
    have es : (δ (ld Lt δ R s) (fst Lt δ s t)).map (ld Lt δ R) = some (ld Lt δ R x) := by
      rcases nxt_same (hallT hT hs) g1 with ⟨z, _⟩ | ⟨a, a', z1, z2, z3⟩
      · rw [g2] at z; cases z
      · rw [g2] at z1
        cases z1
        rw [z2]
        show some (ld Lt δ R a') = _
        rw [(ld_iff Lt δ).mpr (eqv_symm Lt δ R (z3 R))]
    have et : (δ (ld Lt δ R t) (fst Lt δ s t)).map (ld Lt δ R) = some (ld Lt δ R y) := by
      rcases nxt_same (hallT hT ht) g1 with ⟨z, _⟩ | ⟨a, a', z1, z2, z3⟩
      · rw [g3] at z; cases z
      · rw [g3] at z1
        cases z1
        rw [z2]
        show some (ld Lt δ R a') = _
        rw [(ld_iff Lt δ).mpr (eqv_symm Lt δ R (z3 R))]
    obtain ⟨m', hm'⟩ : ∃ m', m = m' + 1 := ⟨m - 1, by omega⟩
    subst hm'
    refine ⟨fun c => absurd c (nI_ge (by omega) (by omega)), fun _ => ⟨fun c => absurd c (nI_ne1 (by omega)), fun _ => t_la7 hT.1 hC.1 hC.2.2.1 (by omega) g1 (t_la7 hT.1 hC.1 hC.2.2.1 (by omega) g1 ?_)⟩⟩
    rw [es, et]
    have em1 : enc (some (ld Lt δ R x)) = nI (ld Lt δ R x) := rfl
    have em2 : enc (some (ld Lt δ R y)) = nI (ld Lt δ R y) := rfl
    rw [em1, em2]
    refine ⟨fun c => absurd c (nI_ne1 (by omega)), fun _ => ⟨fun _ => ?_, fun c => absurd c (nI_ne1 (by omega))⟩⟩
    have exy : dst Lt δ x y = m' + 1 := by omega
    have exy2 : dst Lt δ (ld Lt δ R x) (ld Lt δ R y) = m' + 1 := by rw [← dst_cong (hallT hT g4) (hallT hT g5)]; exact exy
    have efs : fst Lt δ (ld Lt δ R x) (ld Lt δ R y) = fst Lt δ x y := fst_cong (hallT hT g4) (hallT hT g5) (by omega)
    rw [pk_m1, nI_1]
    refine t_leastLetter hT hC (by omega) (by omega) exy2 ?_
    rw [efs]
    refine ih (k + 1) x y m' (by omega) g4 g5 exy (by omega) ?_
    have e : fin Lt δ (d + 1) s t = fin Lt δ d x y := by
      show fin Lt δ d ((δ s (fst Lt δ s t)).getD 0) ((δ t (fst Lt δ s t)).getD 0) = _
      rw [g2, g3]
      rfl
    rw [e] at h
    exact h
theorem t_rowLetter {post : Int32 → St → Prop} {σ : St} {R p q a b i : Nat} {Q : List Nat} {S : List Int32} (hT : okT n Lt δ R Q S) (hC : TC σ n Lt δ R Q S) (hp : Q[p]? = some a) (hq : Q[q]? = some b) (hi : i < dst Lt δ a b) (h : post (nI (fin Lt δ i a b)) σ) : wp_T_rowLetter (nI p) (nI q) (nI i) σ post := by
  have d2 := hT.1.2.1
  have hQ := Q_len hT
  have hpl : p < Q.length := (List.getElem?_eq_some_iff.mp hp).1
  have hql : q < Q.length := (List.getElem?_eq_some_iff.mp hq).1
  obtain ⟨ha, la⟩ := hT.2.2.2.2.2.1.2.2 a (List.mem_of_getElem? hp)
  obtain ⟨hb, lb⟩ := hT.2.2.2.2.2.1.2.2 b (List.mem_of_getElem? hq)
  have hds := dst_small (Lt := Lt) (δ := δ) (R := R) (a := a) (b := b) (fun k => stb_all Lt δ hT.1.2.2.2 hT.2.2.1 k a b ha hb)
  have hR := hT.2.1
  obtain ⟨m, hm⟩ : ∃ m, dst Lt δ a b = m + 1 := ⟨dst Lt δ a b - 1, by omega⟩
  unfold wp_T_rowLetter
  rw [nI_clamp (by omega), nI_clamp (by omega), hC.2.2.2.2.2.2.1 p a hp, hC.2.2.2.2.2.2.1 q b hq]
  refine ⟨vp_in_nI (by omega) (by omega), vp_in_nI (by omega) (by omega), t_rowLength hT hC hp hq ?_⟩
  rw [hm, nI_pred]
  refine t_leastLetter hT hC ha hb hm ⟨i + 1, ?_⟩
  have key := t_rl_loop (post := post) (x1 := nI p) (x2 := nI q) hT hC (show i < 200 by omega) i 0 a b m (by omega) ha hb hm (by omega) h
  rw [la, lb] at key
  exact key
end AB
theorem r_apartBy {σ τ : St} {x1 x2 x3 : Int32} {post : Int32 → Int32 → St → St → Prop} (h : Rel σ τ) (hp : ∀ r r' u v, eqR r r' u v → post r r' u v) : wp_W_apartBy x1 x2 x3 σ (fun r u => wp_M_apartBy x1 x2 x3 τ (fun r' v => post r r' u v)) := by
  obtain ⟨n, Lt, δ, R, Q, S, h1, h2, h3, _⟩ := h.2
  have hQ := Q_len h1
  have d2 := h1.1.2.1
  have hC : TR (us τ 0 0) n Lt δ R Q S := h3.fr (ss := [0]) (aa := []) (Fr.us Fr.rf (by simp)) (fun k hk => by simp at hk; omega) (fun k hk => by simp at hk)
  have hs := hC.2.2.2.1
  have no : ∀ (P : Int32 → St → Prop), P (-1) (us τ 0 0) → ((okb x1 Q.length && okb x2 Q.length) = false ∨ x3 < 0 ∨ ∀ (p q a b : Nat), Q[p]? = some a → Q[q]? = some b → x1 = nI p → x2 = nI q → ¬ x3 < nI (dst Lt δ a b)) → wp_M_apartBy x1 x2 x3 τ P := by
    intro P pn c
    unfold wp_M_apartBy
    refine m_isState hs (by omega) (bz (fun _ => pn) (fun e1 => m_isState hs (by omega) (bz (fun _ => pn) (fun e2 => ⟨fun _ => pn, fun c3 => ?_⟩))))
    obtain ⟨p, hp', ep⟩ := okb_ex (by omega) e1
    obtain ⟨q, hq', eq⟩ := okb_ex (by omega) e2
    obtain ⟨a, ha, han, _⟩ := Q_at h1 hp'
    obtain ⟨b, hb, hbn, _⟩ := Q_at h1 hq'
    have q1 := p120_lt d2 han hbn
    rcases c with c | c | c
    · rw [e1, e2] at c; cases c
    · exact absurd c c3
    · have hc := c p q a b ha hb ep eq
      rw [ep, eq]
      refine ⟨vp_in_nI (by omega) (by omega), vp_in_nI (by omega) (by omega), ?_⟩
      rw [nI_clamp (n := p) (by omega), nI_clamp (n := q) (by omega), hC.2.2.2.2.1 p a ha, hC.2.2.2.2.1 q b hb, p120_m, nI_clamp (by omega), (hC.2.2.1 a b han hbn).1]
      exact ⟨vp_in_nI q1 (by omega), fun c4 => absurd c4 hc, fun _ => pn⟩
  unfold wp_W_apartBy
  refine ⟨fun c => no _ (hp _ _ _ _ ⟨rfl, h.m0⟩) (Or.inr (Or.inl c)), fun c => w_apart h1 h2 (fun c2 => ⟨fun c3 => ?_, fun _ => no _ (hp _ _ _ _ ⟨rfl, h.m0⟩) (Or.inl c2)⟩) (fun p q a b k1 k2 k3 k4 c2 => ⟨fun c3 => ?_, fun c3 => no _ (hp _ _ _ _ ⟨rfl, h.m0⟩) (Or.inr (Or.inr (fun p' q' a' b' j1 j2 j3 j4 => ?_)))⟩)⟩
  · exfalso
    have a1 := Int32.lt_iff_toInt_lt.mp c3
    have a2 : ¬ x3.toInt < (0 : Int32).toInt := fun z => c (Int32.lt_iff_toInt_lt.mpr z)
    have e1 : (-1 : Int32).toInt = -1 := by decide
    have e0 : (0 : Int32).toInt = 0 := by decide
    omega
  · obtain ⟨i, hi, rfl⟩ := nI_of c
    have hpl : p < Q.length := (List.getElem?_eq_some_iff.mp k1).1
    have hql : q < Q.length := (List.getElem?_eq_some_iff.mp k2).1
    obtain ⟨ha, la⟩ := h1.2.2.2.2.2.1.2.2 a (List.mem_of_getElem? k1)
    obtain ⟨hb, lb⟩ := h1.2.2.2.2.2.1.2.2 b (List.mem_of_getElem? k2)
    have hds := dst_small (Lt := Lt) (δ := δ) (R := R) (a := a) (b := b) (fun k => stb_all Lt δ h1.1.2.2.2 h1.2.2.1 k a b ha hb)
    have hR := h1.2.1
    have hid : i < dst Lt δ a b := (nI_ltI hi (by omega)).mp c3
    rw [k3, k4]
    refine t_rowLetter h1 h2 k1 k2 hid ?_
    have q1 := p120_lt d2 ha hb
    have vp : vp_in (nI p) 120 := vp_in_nI (by omega) (by omega)
    have vq : vp_in (nI q) 120 := vp_in_nI (by omega) (by omega)
    unfold wp_M_apartBy
    refine m_isState hs (by omega) (bz (fun e => absurd ((okb_nI hpl (by omega)).symm.trans e) (by decide)) (fun _ => m_isState hs (by omega) (bz (fun e => absurd ((okb_nI hql (by omega)).symm.trans e) (by decide)) (fun _ => ⟨fun c4 => absurd c4 c, fun _ => ⟨vp, vq, ?_⟩⟩))))
    rw [nI_clamp (n := p) (by omega), nI_clamp (n := q) (by omega), hC.2.2.2.2.1 p a k1, hC.2.2.2.2.1 q b k2, p120_m, nI_clamp (n := 120 * a + b) (by omega), (hC.2.2.1 a b ha hb).1]
    refine ⟨vp_in_nI q1 (by omega), fun _ => ⟨vp, vq, i + 1, ?_⟩, fun c4 => absurd c3 c4⟩
    exact m_ab_loop h1 hC (by omega) i 0 a b (by omega) ha hb hid (hp _ _ _ _ ⟨rfl, h.m0⟩)
  · have ep : p' = p := (nI_eq (by have := (List.getElem?_eq_some_iff.mp j1).1; omega) (by have := (List.getElem?_eq_some_iff.mp k1).1; omega)).mp (j3.symm.trans k3)
    have eq : q' = q := (nI_eq (by have := (List.getElem?_eq_some_iff.mp j2).1; omega) (by have := (List.getElem?_eq_some_iff.mp k2).1; omega)).mp (j4.symm.trans k4)
    subst ep; subst eq
    rw [k1] at j1
    rw [k2] at j2
    cases j1
    cases j2
    exact c3
