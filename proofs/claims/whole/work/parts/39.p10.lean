/-! MAKE, the reference. -/
section MK
variable {n Lt : Nat} {δ : Nat → Nat → Option Nat}
theorem vl_end {R a b : Nat} (hall : ∀ k, eqv Lt δ R a b → eqv Lt δ k a b) : vl Lt δ (R + 1) a b = dst Lt δ a b := by
  rcases Classical.em (eqv Lt δ R a b) with z | z
  · rw [vl_0 Lt δ (hall _ z), dst_0 Lt δ (fun k => hall k z)]
  · rw [(vl_n Lt δ z).2.2, (vl_n Lt δ z).1]
/-- lengths and first letters, at the end -/
def LD (Lt : Nat) (δ : Nat → Nat → Option Nat) (n : Nat) (F G : Nat → Int32) : Prop := ∀ a b, a < n → b < n → F (120 * a + b) = nI (dst Lt δ a b) ∧ (0 < dst Lt δ a b → G (120 * a + b) = nI (fst Lt δ a b))
theorem dst_small {R a b : Nat} (hall : ∀ k, eqv Lt δ R a b → eqv Lt δ k a b) : dst Lt δ a b ≤ R := by
  rcases Classical.em (eqv Lt δ R a b) with z | z
  · rw [dst_0 Lt δ (fun k => hall k z)]; omega
  · exact ((dst_iff Lt δ).mpr z).2
theorem m_ll_loop {post : Int32 → St → Prop} {σ : St} {R s : Nat} (hn : n ≤ 120) (hR : R < n) (hall : ∀ k a b, a < n → b < n → eqv Lt δ R a b → eqv Lt δ k a b) (hE : LD Lt δ n (σ.2 3) (σ.2 4)) (hs : s < n) (h : post (nI (ld Lt δ R s)) σ) : ∀ (d t : Nat), t + d = ld Lt δ R s → L_M_leastLike_2 post (d + 1) (nI s) (nI t) σ := by
  have hl := ld_le Lt δ R s
  intro d
  induction d with
  | zero =>
    intro t ht
    have e : t = ld Lt δ R s := by omega
    have htn : t < n := by omega
    have q1 := p120_lt hn hs htn
    unfold L_M_leastLike_2
    rw [p120_m]
    refine ⟨vp_in_nI q1 (by omega), ?_⟩
    rw [nI_clamp (by omega), (hE s t hs htn).1]
    have e0 : dst Lt δ s t = 0 := dst_0 Lt δ (fun k => hall k s t hs htn (by rw [e]; exact eqv_symm Lt δ R (ld_eqv Lt δ R s)))
    rw [e0]
    refine ⟨fun _ => by rw [e]; exact h, fun c => absurd (by decide) c⟩
  | succ d ih =>
    intro t ht
    have htn : t < n := by omega
    have q1 := p120_lt hn hs htn
    unfold L_M_leastLike_2
    rw [p120_m]
    refine ⟨vp_in_nI q1 (by omega), ?_⟩
    rw [nI_clamp (by omega), (hE s t hs htn).1, nI_1]
    have ne : ¬ eqv Lt δ R s t := fun q => ld_min Lt δ (show t < ld Lt δ R s by omega) (eqv_symm Lt δ R q)
    obtain ⟨p1, p2⟩ := (dst_iff Lt δ).mpr ne
    exact ⟨fun c => absurd c (nI_nle p1 (by omega)), fun _ => ih (t + 1) (by omega)⟩
theorem m_ll {post : Int32 → St → Prop} {σ : St} {R s : Nat} (hn : n ≤ 120) (hR : R < n) (hall : ∀ k a b, a < n → b < n → eqv Lt δ R a b → eqv Lt δ k a b) (hE : LD Lt δ n (σ.2 3) (σ.2 4)) (hs : s < n) (h : post (nI (ld Lt δ R s)) σ) : wp_M_leastLike (nI s) σ post := ⟨ld Lt δ R s + 1, m_ll_loop hn hR hall hE hs h (ld Lt δ R s) 0 (by omega)⟩
theorem soQ_ge {Q : List Nat} {x : Nat} (hl : Q.length < 2 ^ 31) : 0 ≤ soQ Q x ↔ x ∈ Q := by
  constructor
  · intro h
    apply Classical.byContradiction
    intro z
    rw [soQ_no z] at h
    exact absurd h (by decide)
  · intro h
    rw [soQ_in h]
    exact nI_pos' (by have := ixl_lt h; omega)
theorem m_mk288 {post : Int32 → St → Prop} {R : Nat} {Q : List Nat} {x2 : Int32} (hD : okD n Lt δ) (hR : R < n) (hall : ∀ k a b, a < n → b < n → eqv Lt δ R a b → eqv Lt δ k a b) :
    ∀ (d i : Nat) (σ : St), i + d = n → LD Lt δ n (σ.2 3) (σ.2 4) → (∀ x, x < n → σ.2 5 x = if x < i then soQ Q (ld Lt δ R x) else soQ Q x) →
      (∀ τ : St, Fr σ τ [7] [5] → τ.1 7 = 0 → (∀ x, x < n → τ.2 5 x = soQ Q (ld Lt δ R x)) → post (τ.1 6) τ) → L_M_make_288 post (d + 1) (nI n) x2 (nI i) σ := by
  have d2 := hD.2.1
  intro d
  induction d with
  | zero =>
    intro i σ hi hE h6 h
    have : i = n := by omega
    subst this
    exact ⟨fun _ => h (us σ 7 0) (Fr.us Fr.rf (by simp)) (us_s _ _ _) (fun x hx => by show σ.2 5 x = _; rw [h6 x hx, if_pos hx]), fun c => absurd (nI_le (Nat.le_refl _) (by omega)) c⟩
  | succ d ih =>
    intro i σ hi hE h6 h
    have hin : i < n := by omega
    have hl := ld_le Lt δ R i
    refine ⟨fun c => absurd c (nI_ge hin (by omega)), fun _ => m_ll d2 hR hall hE hin ⟨vp_in_nI (by omega) (by omega), vp_in_nI (by omega) (by omega), ?_⟩⟩
    rw [nI_clamp (n := i) (by omega), nI_clamp (by omega), nI_1]
    have hval : σ.2 5 (ld Lt δ R i) = soQ Q (ld Lt δ R i) := by
      rw [h6 _ (by omega)]
      split
      · rw [ld_idem]
      · rfl
    refine ih (i + 1) _ (by omega) hE (fun x hx => ?_) (fun τ hf => h τ ((Fr.uA Fr.rf (by simp)).tr hf))
    show upd (σ.2 5) i (σ.2 5 (ld Lt δ R i)) x = _
    by_cases e : x = i
    · subst e; rw [pk_us, if_pos (by omega), hval]
    · rw [pk_un e, h6 x hx]
      by_cases c : x < i
      · rw [if_pos c, if_pos (by omega)]
      · rw [if_neg c, if_neg (by omega)]
theorem m_mk182 {post : Int32 → St → Prop} {K : Int32 → Int32 → Int32 → St → Prop} {R p a : Nat} {x1 x2 : Int32} (hD : okD n Lt δ) (hR : R < n) (hall : ∀ k a b, a < n → b < n → eqv Lt δ R a b → eqv Lt δ k a b) (ha : a < n) :
    ∀ (d l : Nat) (Q : List Nat) (σ : St), l + d = Lt → σ.1 2 = nI Lt → TM σ n Lt δ → LD Lt δ n (σ.2 3) (σ.2 4) → okQ (ld Lt δ R) n Q → NQ n (σ.1 6) (σ.2 5) (σ.2 6) Q → Q[p]? = some a →
      (∀ τ : St, Fr σ τ [6] [5, 6] → NQ n (τ.1 6) (τ.2 5) (τ.2 6) (nin δ (ld Lt δ R) a d l Q) → K x1 x2 (nI (p + 1)) τ) → L_M_make_182 post K (d + 1) x1 x2 (nI p) (nI l) σ := by
  have d2 := hD.2.1
  have d3 := hD.2.2.1
  intro d
  induction d with
  | zero =>
    intro l Q σ hl h2 hT hE hok hq hp h
    have : l = Lt := by omega
    subst this
    refine ⟨fun _ => ?_, fun c => absurd (by rw [h2]; exact nI_le (Nat.le_refl _) (by omega)) c⟩
    rw [nI_1]
    exact h σ Fr.rf hq
  | succ d ih =>
    intro l Q σ hl h2 hT hE hok hq hp h
    have hlt : l < Lt := by omega
    have hQl := nodup_len n Q hok.1 (fun x hx => (hok.2.2 x hx).1)
    have hpl : p < Q.length := (List.getElem?_eq_some_iff.mp hp).1
    refine ⟨fun c => absurd c (by rw [h2]; exact nI_ge hlt (by omega)), fun _ => ⟨vp_in_nI (by omega) (by omega), ?_⟩⟩
    rw [nI_clamp (n := p) (by omega), hq.2.1 p a hp, p40_m, nI_clamp (n := 40 * a + l) (by omega), hT.2.2 a l ha hlt, nI_1]
    refine ⟨vp_in_nI (by omega) (by omega), ?_⟩
    have e : nin δ (ld Lt δ R) a (d + 1) l Q = nin δ (ld Lt δ R) a d (l + 1) (match δ a l with | none => Q | some t => nst Q (ld Lt δ R t)) := rfl
    rw [e] at h
    cases hd : δ a l with
    | none =>
      rw [hd] at h
      exact ⟨fun c => absurd c (by decide), fun _ => ⟨fun _ => ih (l + 1) Q σ (by omega) h2 hT hE hok hq hp h, fun c => absurd (by decide) c⟩⟩
    | some t =>
      rw [hd] at h
      have h : ∀ τ : St, Fr σ τ [6] [5, 6] → NQ n (τ.1 6) (τ.2 5) (τ.2 6) (nin δ (ld Lt δ R) a d (l + 1) (nst Q (ld Lt δ R t))) → K x1 x2 (nI (p + 1)) τ := h
      have ht := hD.2.2.2 a l t ha hlt hd
      have hlt2 := ld_le Lt δ R t
      have hr1 : ld Lt δ R t < n := by omega
      have hr2 := ld_idem Lt δ R t
      have et : enc (some t) = nI t := rfl
      rw [et]
      refine ⟨fun _ => m_ll d2 hR hall hE ht ⟨fun c => absurd c (nI_pos (by omega)), fun _ => ⟨vp_in_nI (by omega) (by omega), ?_⟩⟩, fun c => absurd (nI_pos' (by omega)) c⟩
      rw [nI_clamp (n := ld Lt δ R t) (by omega), hq.2.2 _ hr1]
      refine ⟨fun c => ?_, fun c => ?_⟩
      · have hm := (soQ_ge (by omega)).mp c
        have e2 : nst Q (ld Lt δ R t) = Q := by unfold nst; rw [if_pos hm]
        rw [e2] at h
        exact ih (l + 1) Q σ (by omega) h2 hT hE hok hq hp h
      · have hm : ld Lt δ R t ∉ Q := fun z => c ((soQ_ge (by omega)).mpr z)
        have e2 : nst Q (ld Lt δ R t) = Q ++ [ld Lt δ R t] := by unfold nst; rw [if_neg hm]
        have hok2 := (nst_spec (ld Lt δ R) hok hr1 hr2).1
        rw [e2] at h hok2
        have hQ2 := nodup_len n (Q ++ [ld Lt δ R t]) hok2.1 (fun x hx => (hok2.2.2 x hx).1)
        have hQ3 : Q.length + 1 ≤ n := by simpa using hQ2
        have e6 : (σ.1 6).toNatClampNeg = Q.length := by rw [hq.1, nI_clamp (by omega)]
        have f1 : (ua σ 5 (ld Lt δ R t) (σ.1 6)).1 6 = σ.1 6 := rfl
        rw [f1, e6]
        refine ⟨vp_in_nI (by omega) (by omega), by rw [hq.1]; exact vp_in_nI (by omega) (by omega), ?_⟩
        have hf : Fr σ (us (ua (ua σ 5 (ld Lt δ R t) (σ.1 6)) 6 Q.length (nI (ld Lt δ R t))) 6 ((ua (ua σ 5 (ld Lt δ R t) (σ.1 6)) 6 Q.length (nI (ld Lt δ R t))).1 6 + 1)) [6] [5, 6] := Fr.us (Fr.uA (Fr.uA Fr.rf (by simp)) (by simp)) (by simp)
        have key := NQ_app hq hm
        exact ih (l + 1) (Q ++ [ld Lt δ R t]) _ (by omega) h2 hT hE hok2 ⟨by rw [us_s]; exact key.1, key.2.1, key.2.2⟩ (by rw [List.getElem?_append_left hpl]; exact hp) (fun υ hg => h υ (hf.tr hg))
theorem m_mk171 {post : Int32 → St → Prop} {R : Nat} {x2 : Int32} (hD : okD n Lt δ) (hR : R < n) (hall : ∀ k a b, a < n → b < n → eqv Lt δ R a b → eqv Lt δ k a b) :
    ∀ (f p : Nat) (Q : List Nat) (σ : St), n < f + p → p ≤ Q.length → σ.1 2 = nI Lt → TM σ n Lt δ → LD Lt δ n (σ.2 3) (σ.2 4) → okQ (ld Lt δ R) n Q → NQ n (σ.1 6) (σ.2 5) (σ.2 6) Q →
      (∀ τ : St, Fr σ τ [6, 7] [5, 6] → τ.1 7 = 0 → τ.1 6 = nI (nout Lt δ (ld Lt δ R) f p Q).length → (∀ (q x : Nat), (nout Lt δ (ld Lt δ R) f p Q)[q]? = some x → τ.2 6 q = nI x) → (∀ x, x < n → τ.2 5 x = soQ (nout Lt δ (ld Lt δ R) f p Q) (ld Lt δ R x)) → post (nI (nout Lt δ (ld Lt δ R) f p Q).length) τ) → L_M_make_171 post f (nI n) x2 (nI p) σ := by
  have d2 := hD.2.1
  have hρ : ∀ x, x < n → ld Lt δ R x < n ∧ ld Lt δ R (ld Lt δ R x) = ld Lt δ R x := fun x hx => ⟨Nat.lt_of_le_of_lt (ld_le Lt δ R x) hx, ld_idem Lt δ R x⟩
  intro f
  induction f with
  | zero =>
    intro p Q σ hf hp h2 hT hE hok hq h
    have := nodup_len n Q hok.1 (fun x hx => (hok.2.2 x hx).1)
    omega
  | succ f ih =>
    intro p Q σ hf hp h2 hT hE hok hq h
    have hQl := nodup_len n Q hok.1 (fun x hx => (hok.2.2 x hx).1)
    cases hx : Q[p]? with
    | none =>
      have e : nout Lt δ (ld Lt δ R) (f + 1) p Q = Q := by show (match Q[p]? with | none => Q | some a => nout Lt δ (ld Lt δ R) f (p + 1) (nin δ (ld Lt δ R) a Lt 0 Q)) = _; rw [hx]
      rw [e] at h
      have h1 := List.getElem?_eq_none_iff.mp hx
      refine ⟨fun _ => ⟨n + 1, ?_⟩, fun c => absurd (by rw [hq.1]; exact nI_le h1 (by omega)) c⟩
      refine m_mk288 (Q := Q) hD hR hall n 0 σ (by omega) hE (fun x hx => by rw [if_neg (by omega)]; exact hq.2.2 x hx) (fun τ hg h7 h6 => ?_)
      have e6 : τ.1 6 = nI Q.length := (hg.1 6 (by simp)).trans hq.1
      rw [e6]
      exact h τ (hg.mo (fun k hk => by simp at hk ⊢; omega) (fun k hk => by simp at hk ⊢; omega)) h7 e6 (fun q x hqx => by rw [hg.2 6 (by simp)]; exact hq.2.1 q x hqx) h6
    | some a =>
      have e : nout Lt δ (ld Lt δ R) (f + 1) p Q = nout Lt δ (ld Lt δ R) f (p + 1) (nin δ (ld Lt δ R) a Lt 0 Q) := by show (match Q[p]? with | none => Q | some a => nout Lt δ (ld Lt δ R) f (p + 1) (nin δ (ld Lt δ R) a Lt 0 Q)) = _; rw [hx]
      rw [e] at h
      have hpl : p < Q.length := (List.getElem?_eq_some_iff.mp hx).1
      have ha := (hok.2.2 a (List.mem_of_getElem? hx)).1
      refine ⟨fun c => absurd c (by rw [hq.1]; exact nI_ge hpl (by omega)), fun _ => ⟨Lt + 1, ?_⟩⟩
      refine m_mk182 hD hR hall ha Lt 0 Q σ (by omega) h2 hT hE hok hq hx (fun τ hg hq2 => ?_)
      obtain ⟨k1, ⟨T, k2⟩, _⟩ := nin_spec Lt δ (ld Lt δ R) hD.2.2.2 hρ ha Lt 0 Q (by omega) hok
      have hlen : Q.length ≤ (nin δ (ld Lt δ R) a Lt 0 Q).length := by rw [k2]; simp
      exact ih (p + 1) (nin δ (ld Lt δ R) a Lt 0 Q) τ (by omega) (by omega) ((hg.1 2 (by simp)).trans h2) (hT.fr hg (by simp) (by simp) (by simp)) (by rw [hg.2 3 (by simp), hg.2 4 (by simp)]; exact hE) k1 hq2 (fun υ hg2 => h υ ((hg.mo (fun k hk => by simp at hk ⊢; omega) (fun k hk => hk)).tr hg2))
theorem m_mk132 {post : Int32 → St → Prop} {R : Nat} {x2 : Int32} (hD : okD n Lt δ) (hR : R < n) (hall : ∀ k a b, a < n → b < n → eqv Lt δ R a b → eqv Lt δ k a b) :
    ∀ (d i : Nat) (σ : St), i + d = n → σ.1 2 = nI Lt → TM σ n Lt δ → LD Lt δ n (σ.2 3) (σ.2 4) → (∀ x, x < i → σ.2 5 x = -1) →
      (∀ τ : St, Fr σ τ [6, 7] [5, 6] → τ.1 7 = 0 → τ.1 6 = nI (nout Lt δ (ld Lt δ R) (n + 1) 0 [0]).length → (∀ (q x : Nat), (nout Lt δ (ld Lt δ R) (n + 1) 0 [0])[q]? = some x → τ.2 6 q = nI x) → (∀ x, x < n → τ.2 5 x = soQ (nout Lt δ (ld Lt δ R) (n + 1) 0 [0]) (ld Lt δ R x)) → post (nI (nout Lt δ (ld Lt δ R) (n + 1) 0 [0]).length) τ) → L_M_make_132 post (d + 1) (nI n) x2 (nI i) σ := by
  have d1 := hD.1
  have d2 := hD.2.1
  intro d
  induction d with
  | zero =>
    intro i σ hi h2 hT hE h5 h
    have : i = n := by omega
    subst this
    have v0 : vp_in 0 120 := vp_in_nI (n := 0) (by omega) (by omega)
    refine ⟨fun _ => ⟨v0, v0, i + 1, ?_⟩, fun c => absurd (nI_le (Nat.le_refl _) (by omega)) c⟩
    have hf : Fr σ (us (ua (ua σ 5 ((0 : Int32).toNatClampNeg) 0) 6 ((0 : Int32).toNatClampNeg) 0) 6 1) [6, 7] [5, 6] := Fr.us (Fr.uA (Fr.uA Fr.rf (by simp)) (by simp)) (by simp)
    refine m_mk171 hD hR hall (i + 1) 0 [0] _ (by omega) (by simp) h2 hT hE ⟨by simp, by simp, fun x hx => by simp at hx; subst hx; exact ⟨by omega, Nat.le_zero.mp (ld_le Lt δ R 0)⟩⟩ ⟨us_s _ _ _, fun p x hp => ?_, fun x hx => ?_⟩ (fun τ hg => h τ (hf.tr hg))
    · have : p = 0 := by
        have := (List.getElem?_eq_some_iff.mp hp).1
        simp at this
        omega
      subst this
      simp at hp
      subst hp
      rfl
    · show upd (σ.2 5) 0 0 x = _
      by_cases e : x = 0
      · subst e; rw [pk_us]; rfl
      · rw [pk_un e, h5 x hx, soQ_no (by simp [e])]
  | succ d ih =>
    intro i σ hi h2 hT hE h5 h
    refine ⟨fun c => absurd c (nI_ge (by omega) (by omega)), fun _ => ⟨vp_in_nI (by omega) (by omega), ?_⟩⟩
    rw [nI_clamp (by omega), nI_1]
    refine ih (i + 1) _ (by omega) h2 hT hE (fun x hx => ?_) (fun τ hf => h τ ((Fr.uA Fr.rf (by simp)).tr hf))
    show upd (σ.2 5) i (-1) x = _
    by_cases e : x = i
    · subst e; rw [pk_us]
    · rw [pk_un e]; exact h5 x (by omega)
theorem m_mk116 {post : Int32 → St → Prop} {R : Nat} (hD : okD n Lt δ) (hR1 : R < n) (hR2 : stb Lt δ n R) (hR3 : ∀ r, r < R → ¬ stb Lt δ n r) :
    ∀ (d r : Nat) (σ : St), r + d = R → σ.1 2 = nI Lt → TM σ n Lt δ → LE Lt δ n r (σ.2 3) (σ.2 4) →
      (∀ τ : St, Fr σ τ [6, 7] [3, 4, 5, 6] → τ.1 7 = 0 → LD Lt δ n (τ.2 3) (τ.2 4) → τ.1 6 = nI (nout Lt δ (ld Lt δ R) (n + 1) 0 [0]).length → (∀ (q x : Nat), (nout Lt δ (ld Lt δ R) (n + 1) 0 [0])[q]? = some x → τ.2 6 q = nI x) → (∀ x, x < n → τ.2 5 x = soQ (nout Lt δ (ld Lt δ R) (n + 1) 0 [0]) (ld Lt δ R x)) → post (nI (nout Lt δ (ld Lt δ R) (n + 1) 0 [0]).length) τ) → L_M_make_116 post (d + 1) (nI n) (nI (r + 1)) σ := by
  have d2 := hD.2.1
  have hall := stb_all Lt δ hD.2.2.2 hR2
  intro d
  induction d with
  | zero =>
    intro r σ hr h2 hT hE h
    have : r = R := by omega
    subst this
    refine m_tell hD hT (by omega) hE (fun F G hE2 => ?_)
    rw [cI_f (fun q => q hR2)]
    have hf : Fr σ (uA (uA σ 3 F) 4 G) [6, 7] [3, 4, 5, 6] := Fr.uA (Fr.uA Fr.rf (by simp)) (by simp)
    have hLD : LD Lt δ n F G := fun a b ha hb => by
      have e := vl_end (Lt := Lt) (δ := δ) (R := r) (a := a) (b := b) (fun k => hall k a b ha hb)
      have := hE2 a b ha hb
      rw [e] at this
      exact this
    refine ⟨fun _ => ⟨n + 1, ?_⟩, fun c => absurd rfl c⟩
    exact m_mk132 hD hR1 hall n 0 (uA (uA σ 3 F) 4 G) (by omega) h2 hT hLD (fun x hx => by omega) (fun τ hg h7 => h τ (hf.tr (hg.mo (fun k hk => hk) (fun k hk => by simp at hk ⊢; omega))) h7 (by rw [hg.2 3 (by simp), hg.2 4 (by simp)]; exact hLD))
  | succ d ih =>
    intro r σ hr h2 hT hE h
    refine m_tell hD hT (by omega) hE (fun F G hE2 => ?_)
    rw [cI_t (hR3 r (by omega))]
    have hf : Fr σ (uA (uA σ 3 F) 4 G) [6, 7] [3, 4, 5, 6] := Fr.uA (Fr.uA Fr.rf (by simp)) (by simp)
    refine ⟨fun c => absurd c (by decide), fun _ => ?_⟩
    rw [nI_1]
    exact ih (r + 1) _ (by omega) h2 hT hE2 (fun τ hg => h τ (hf.tr hg))
theorem m_mk94 {post : Int32 → St → Prop} {x1 : Int32} : ∀ (d i : Nat) (σ : St), i + d = 14400 → (∀ τ : St, τ = uA σ 3 (fll (σ.2 3) i 14400 0) → ∃ n2, L_M_make_116 post n2 x1 1 τ) → L_M_make_94 post (d + 1) x1 (nI i) σ := by
  intro d
  induction d with
  | zero =>
    intro i σ hi h
    have : i = 14400 := by omega
    subst this
    rw [fll_end, uA_id] at h
    exact ⟨fun _ => h σ rfl, fun c => absurd (nI_le (Nat.le_refl 14400) (by omega)) c⟩
  | succ d ih =>
    intro i σ hi h
    refine ⟨fun c => absurd c (nI_ge (by omega) (by omega)), fun _ => ⟨vp_in_nI (by omega) (by omega), ?_⟩⟩
    rw [nI_clamp (by omega), nI_1]
    refine ih (i + 1) _ (by omega) (fun τ hτ => h τ ?_)
    rw [hτ, uA_uA, uA_s, fll_step (by omega)]
theorem m_mk50 {post : Int32 → St → Prop} {K : Int32 → Int32 → St → Prop} {σ : St} {s : Nat} {x1 : Int32} (hL : Lt ≤ 40) (hs : s < 120) (h2 : σ.1 2 = nI Lt) (hK : ∀ g, lay Lt (fun s l => σ.2 8 (40 * s + l)) g (s + 1) 0 → K x1 (nI (s + 1)) (uA σ 2 g)) :
    ∀ (d l : Nat) (g : Nat → Int32), l + d = Lt → lay Lt (fun s l => σ.2 8 (40 * s + l)) g s l → L_M_make_50 post K (d + 1) x1 (nI s) (nI l) (uA σ 2 g) := by
  intro d
  induction d with
  | zero =>
    intro l g hl hy
    have : l = Lt := by omega
    subst this
    refine ⟨fun _ => ?_, fun c => absurd (by show σ.1 2 ≤ _; rw [h2]; exact nI_le (Nat.le_refl _) (by omega)) c⟩
    rw [nI_1]
    exact hK g (lay_next hy)
  | succ d ih =>
    intro l g hl hy
    have hlt : l < Lt := by omega
    have hv : vp_in (nI (40 * s + l)) 4800 := vp_in_nI (by omega) (by omega)
    refine ⟨fun c => absurd c (by show ¬ σ.1 2 ≤ _; rw [h2]; exact nI_ge hlt (by omega)), fun _ => ?_⟩
    rw [p40_m]
    refine ⟨hv, hv, ?_⟩
    rw [nI_clamp (by omega), nI_1]
    unfold ua
    rw [uA_uA, uA_s]
    exact ih (l + 1) _ (by omega) (lay_step hL hlt hy)
theorem m_mk31 {post : Int32 → St → Prop} {σ : St} (hn : n ≤ 120) (hL : Lt ≤ 40) (h2 : σ.1 2 = nI Lt) (h : ∀ f g, (∀ i, i < n → f i = σ.2 7 i) → lay Lt (fun s l => σ.2 8 (40 * s + l)) g n 0 → ∃ n2, L_M_make_94 post n2 (nI n) 0 (uA (uA σ 1 f) 2 g)) :
    ∀ (d s : Nat) (f g : Nat → Int32), s + d = n → (∀ i, i < s → f i = σ.2 7 i) → lay Lt (fun s l => σ.2 8 (40 * s + l)) g s 0 → L_M_make_31 post (d + 1) (nI n) (nI s) (uA (uA σ 1 f) 2 g) := by
  intro d
  induction d with
  | zero =>
    intro s f g hs hf hy
    have : s = n := by omega
    subst this
    exact ⟨fun _ => h f g hf hy, fun c => absurd (nI_le (Nat.le_refl _) (by omega)) c⟩
  | succ d ih =>
    intro s f g hs hf hy
    refine ⟨fun c => absurd c (nI_ge (by omega) (by omega)), fun _ => ⟨vp_in_nI (by omega) (by omega), vp_in_nI (by omega) (by omega), Lt + 1, ?_⟩⟩
    rw [nI_clamp (by omega)]
    have e : ua (uA (uA σ 1 f) 2 g) 1 s ((uA (uA σ 1 f) 2 g).2 7 s) = uA (uA σ 1 (upd f s (σ.2 7 s))) 2 g := by
      unfold ua uA
      congr 1
      funext j
      unfold va_up
      by_cases q1 : j = 1
      · subst q1; simp
      · by_cases q2 : j = 2
        · subst q2; simp
        · simp [q1, q2]
    rw [e]
    refine m_mk50 (σ := uA σ 1 (upd f s (σ.2 7 s))) hL (by omega) h2 (fun g' hy' => ?_) Lt 0 g (by omega) hy
    refine ih (s + 1) _ g' (by omega) (fun i hi => ?_) hy'
    by_cases q : i = s
    · subst q; exact pk_us
    · rw [pk_un q]; exact hf i (by omega)
end MK
