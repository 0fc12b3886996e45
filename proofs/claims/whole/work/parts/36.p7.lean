/-! TOLD APART, the class, 2: partOnce, partSets. -/
noncomputable def cI (p : Prop) : Int32 := by classical exact if p then 1 else 0
theorem cI_t {p : Prop} (h : p) : cI p = 1 := by unfold cI; rw [if_pos h]
theorem cI_f {p : Prop} (h : ¬ p) : cI p = 0 := by unfold cI; rw [if_neg h]
theorem cI_zb (p : Prop) : zb (cI p) := by
  rcases Classical.em p with h | h
  · rw [cI_t h]; rfl
  · rw [cI_f h]; rfl
theorem cI_iff {p q : Prop} (h : p ↔ q) : cI p = cI q := by
  rcases Classical.em p with z | z
  · rw [cI_t z, cI_t (h.mp z)]
  · rw [cI_f z, cI_f (fun w => z (h.mpr w))]
section PS
variable {n Lt : Nat} {δ : Nat → Nat → Option Nat}
noncomputable def mix (Lt : Nat) (δ : Nat → Nat → Option Nat) (r i j : Nat) : Nat := if j < i then ld Lt δ (r + 1) j else ld Lt δ r j
theorem mix_0 (r j : Nat) : mix Lt δ r 0 j = ld Lt δ r j := by unfold mix; rw [if_neg (by omega)]
theorem mix_n {r i j : Nat} (h : j < i) : mix Lt δ r i j = ld Lt δ (r + 1) j := by unfold mix; rw [if_pos h]
theorem mix_o {r i j : Nat} (h : j ≠ i) : mix Lt δ r (i + 1) j = mix Lt δ r i j := by
  unfold mix
  by_cases e : j < i
  · rw [if_pos e, if_pos (by omega)]
  · rw [if_neg e, if_neg (by omega)]
theorem mix_lt {r i j : Nat} (hj : j < n) : mix Lt δ r i j < n := by
  unfold mix
  split
  · exact Nat.lt_of_le_of_lt (ld_le Lt δ _ _) hj
  · exact Nat.lt_of_le_of_lt (ld_le Lt δ _ _) hj
/-- what the measure rests on -/
theorem mix_D {r i : Nat} (hi : i < n) (h1 : ld Lt δ (r + 1) i = i) (h2 : ld Lt δ r i ≠ i) : ∀ o, o < n → mix Lt δ r (i + 1) o = o → o ≠ i → (o = ld Lt δ r i → dst Lt δ o i = r + 1) ∧ (o ≠ ld Lt δ r i → dst Lt δ o i = dst Lt δ o (ld Lt δ r i)) := by
  intro o ho co oi
  have hfi : ld Lt δ r i < i := by have := ld_le Lt δ r i; omega
  have ef := ld_eqv Lt δ r i
  have hff : ld Lt δ (r + 1) (ld Lt δ r i) = ld Lt δ r i := ld_keep Lt δ (ld_idem Lt δ r i)
  refine ⟨fun e => ?_, fun e => ?_⟩
  · subst e
    exact dst_is Lt δ ef (ld_min Lt δ (by rw [h1]; exact hfi))
  · rcases Classical.em (eqv Lt δ r o (ld Lt δ r i)) with z | z
    · have hlo : ld Lt δ r o = ld Lt δ r i := by
        have := (ld_iff Lt δ).mpr z
        rw [ld_idem] at this
        exact this
      have hoi : o < i + 1 := by
        rcases Nat.lt_or_ge o (i + 1) with q | q
        · exact q
        · unfold mix at co
          rw [if_neg (by omega)] at co
          exact absurd (co.symm.trans hlo) e
      rw [mix_n hoi] at co
      have a1 : dst Lt δ o i = r + 1 := dst_is Lt δ (eqv_trans Lt δ r z ef) (fun q => oi (by
        have := (ld_iff Lt δ).mpr q
        rw [co, h1] at this
        exact this))
      have a2 : dst Lt δ o (ld Lt δ r i) = r + 1 := dst_is Lt δ z (fun q => e (by
        have := (ld_iff Lt δ).mpr q
        rw [co, hff] at this
        exact this))
      rw [a1, a2]
    · exact dst_near Lt δ ef z
def newL (Lt : Nat) (δ : Nat → Nat → Option Nat) (r i : Nat) : Prop := ∃ j, j < i ∧ ld Lt δ (r + 1) j = j ∧ ld Lt δ r j ≠ j
theorem newL_stb {r : Nat} : newL Lt δ r n ↔ ¬ stb Lt δ n r := ⟨fun ⟨_, h1, h2, h3⟩ => new_nstb Lt δ h1 h2 h3, fun h => nstb_new Lt δ h⟩
theorem t_po_loop {post : Int32 → St → Prop} {r : Nat} (hD : okD n Lt δ) :
    ∀ (d i : Nat) (σ : St), i + d = n → TS σ n Lt δ → (∀ j, j < n → σ.2 5 j = nI (ld Lt δ r j)) → (∀ j, j < n → σ.2 4 j = nI (mix Lt δ r i j)) → RL n (mix Lt δ r i) (dst Lt δ) (σ.2 8) →
      (∀ τ : St, Fr σ τ [] [4, 8] → (∀ j, j < n → τ.2 4 j = nI (ld Lt δ (r + 1) j)) → RL n (ld Lt δ (r + 1)) (dst Lt δ) (τ.2 8) → post (cI (newL Lt δ r n)) τ) → L_T_partOnce_21 post (d + 1) (nI (r + 1)) (cI (newL Lt δ r i)) (nI i) σ := by
  have d2 := hD.2.1
  intro d
  induction d with
  | zero =>
    intro i σ hi hT h5 h4 hR h
    have : i = n := by omega
    subst this
    refine ⟨fun _ => ⟨cI_zb _, h σ Fr.rf (fun j hj => by rw [h4 j hj, mix_n hj]) (fun a b ha hb hab ca cb => hR a b ha hb hab (by rw [mix_n ha]; exact ca) (by rw [mix_n hb]; exact cb))⟩, fun c => absurd (by rw [hT.2.1]; exact nI_le (Nat.le_refl _) (by omega)) c⟩
  | succ d ih =>
    intro i σ hi hT h5 h4 hR h
    have hin : i < n := by omega
    have l1 := ld_le Lt δ (r + 1) i
    have l2 := ld_le Lt δ r i
    refine ⟨fun c => absurd c (by rw [hT.2.1]; exact nI_ge hin (by omega)), fun _ => ?_⟩
    refine t_findLeader hD hT hin (fun j hj => by rw [h4 j (by omega), mix_n hj]) h5 ?_
    have hv : vp_in (nI i) 120 := vp_in_nI (by omega) (by omega)
    refine ⟨hv, hv, ?_⟩
    rw [nI_clamp (by omega), nI_1]
    have g4 : ∀ j, j < n → (ua σ 4 i (nI (ld Lt δ (r + 1) i))).2 4 j = nI (mix Lt δ r (i + 1) j) := by
      intro j hj
      show upd (σ.2 4) i (nI (ld Lt δ (r + 1) i)) j = _
      by_cases e : j = i
      · subst e; rw [pk_us, mix_n (by omega)]
      · rw [pk_un e, h4 j hj, mix_o e]
    have g5 : ∀ j, j < n → (ua σ 4 i (nI (ld Lt δ (r + 1) i))).2 5 j = nI (ld Lt δ r j) := h5
    have gT : TS (ua σ 4 i (nI (ld Lt δ (r + 1) i))) n Lt δ := hT
    have gF : Fr σ (ua σ 4 i (nI (ld Lt δ (r + 1) i))) [] [4, 8] := Fr.uA Fr.rf (by simp)
    have g8 : (ua σ 4 i (nI (ld Lt δ (r + 1) i))).2 8 = σ.2 8 := rfl
    rw [g4 i hin, g5 i hin, mix_n (by omega)]
    have plain : ¬ (ld Lt δ (r + 1) i = i ∧ ld Lt δ r i ≠ i) → L_T_partOnce_21 post (d + 1) (nI (r + 1)) (cI (newL Lt δ r i)) (nI (i + 1)) (ua σ 4 i (nI (ld Lt δ (r + 1) i))) := by
      intro q
      have eN : newL Lt δ r i ↔ newL Lt δ r (i + 1) := ⟨fun ⟨j, a, b⟩ => ⟨j, by omega, b⟩, fun ⟨j, a, b⟩ => ⟨j, by
        have : j ≠ i := fun e => by subst e; exact q b
        omega, b⟩⟩
      rw [cI_iff eN]
      refine ih (i + 1) _ (by omega) gT g5 g4 (fun a b ha hb hab ca cb => ?_) (fun τ hf => h τ (gF.tr hf))
      rw [g8]
      have lead : ∀ z, z < n → mix Lt δ r (i + 1) z = z → mix Lt δ r i z = z := by
        intro z hz cz
        by_cases e : z = i
        · subst e
          rw [mix_n (by omega)] at cz
          unfold mix
          rw [if_neg (by omega)]
          apply Classical.byContradiction
          intro w
          exact q ⟨cz, w⟩
        · rw [mix_o e] at cz; exact cz
      exact hR a b ha hb hab (lead a ha ca) (lead b hb cb)
    refine ⟨fun c => plain (fun q => c (by rw [q.1])), fun c => ⟨hv, fun c2 => plain (fun q => q.2 ((nI_eq (by omega) (by omega)).mp c2)), fun c2 => ?_⟩⟩
    have e1 : ld Lt δ (r + 1) i = i := (nI_eq (by omega) (by omega)).mp c
    have e2 : ld Lt δ r i ≠ i := fun e => c2 (by rw [e])
    refine t_measure (cur := mix Lt δ r (i + 1)) (dd := dst Lt δ) (f := ld Lt δ r i) d2 gT.2.1 g4 (fun j hj => mix_lt hj) hin (by omega) e2 (by rw [mix_n (by omega)]; exact ld_keep Lt δ (ld_idem Lt δ r i)) (dst_symm Lt δ) (g5 i hin) (mix_D hin e1 e2) (fun a b ha hb hab ca cb ai bi => ?_) (fun g hg => ?_)
    · rw [g8]
      exact hR a b ha hb hab (by rw [← mix_o ai]; exact ca) (by rw [← mix_o bi]; exact cb)
    · have eN : cI (newL Lt δ r (i + 1)) = 1 := cI_t ⟨i, by omega, e1, e2⟩
      have := ih (i + 1) (uA (ua σ 4 i (nI (ld Lt δ (r + 1) i))) 8 g) (by omega) gT g5 g4 hg (fun τ hf => h τ ((Fr.uA gF (by simp)).tr hf))
      rw [eN] at this
      exact this
theorem cpy_0 {f g : Nat → Int32} {n j : Nat} (h : j < n) : va_cpy f g 0 0 n j = f j := by
  rw [pk_cpy_in (by omega) (by omega)]
  congr 1
  omega
theorem cpok_0 {n : Nat} (h : n ≤ 120) : cpok 0 0 (nI n) 120 120 := by
  have e0 : ((0 : Int32).toNatClampNeg) = 0 := rfl
  refine ⟨by decide, by decide, nI_pos (by omega), ?_, ?_⟩
  · rw [e0, nI_clamp (by omega)]; omega
  · rw [e0, nI_clamp (by omega)]; omega
theorem t_partOnce {post : Int32 → St → Prop} {r : Nat} {σ : St} (hD : okD n Lt δ) (hT : TS σ n Lt δ) (h4 : ∀ j, j < n → σ.2 4 j = nI (ld Lt δ r j)) (hR : RL n (ld Lt δ r) (dst Lt δ) (σ.2 8)) (h : ∀ τ : St, Fr σ τ [] [4, 5, 8] → (∀ j, j < n → τ.2 4 j = nI (ld Lt δ (r + 1) j)) → RL n (ld Lt δ (r + 1)) (dst Lt δ) (τ.2 8) → post (cI (newL Lt δ r n)) τ) : wp_T_partOnce (nI (r + 1)) σ post := by
  have d2 := hD.2.1
  unfold wp_T_partOnce
  rw [hT.2.1]
  refine ⟨cpok_0 d2, n + 1, ?_⟩
  have e0 : cI (newL Lt δ r 0) = 0 := cI_f (fun ⟨j, hj, _⟩ => by omega)
  have ec : (nI n).toNatClampNeg = n := nI_clamp (by omega)
  rw [ec]
  have key := t_po_loop (post := post) (r := r) hD n 0 (uA σ 5 (va_cpy (σ.2 4) (σ.2 5) ((0 : Int32).toNatClampNeg) ((0 : Int32).toNatClampNeg) n)) (by omega) hT (fun j hj => by
    show va_cpy (σ.2 4) (σ.2 5) 0 0 n j = _
    rw [cpy_0 hj]; exact h4 j hj) (fun j hj => by rw [mix_0]; exact h4 j hj) (fun a b ha hb hab ca cb => hR a b ha hb hab (by rw [← mix_0 (Lt := Lt) (δ := δ) r a]; exact ca) (by rw [← mix_0 (Lt := Lt) (δ := δ) r b]; exact cb)) (fun τ hf => h τ ((Fr.uA Fr.rf (by simp)).tr (hf.mo (fun k hk => hk) (fun k hk => by simp at hk ⊢; omega))))
  rw [e0] at key
  exact key
theorem ld_stb {R : Nat} (h : stb Lt δ n R) {s : Nat} (hs : s < n) : ld Lt δ (R + 1) s = ld Lt δ R s := by
  apply Nat.le_antisymm
  · exact ld_lei Lt δ (h _ s (Nat.lt_of_le_of_lt (ld_le Lt δ R s) hs) hs (ld_eqv Lt δ R s))
  · exact ld_lei Lt δ (ld_eqv Lt δ (R + 1) s).1
theorem t_ps_loop {post : St → Prop} {R : Nat} (hD : okD n Lt δ) (hR1 : R < n) (hR2 : stb Lt δ n R) (hR3 : ∀ r, r < R → ¬ stb Lt δ n r) :
    ∀ (d r : Nat) (σ : St), r + d = R → TS σ n Lt δ → (∀ j, j < n → σ.2 4 j = nI (ld Lt δ r j)) → RL n (ld Lt δ r) (dst Lt δ) (σ.2 8) → σ.1 7 = nI r →
      (∀ τ : St, Fr σ τ [7] [4, 5, 8] → (∀ j, j < n → τ.2 4 j = nI (ld Lt δ R j)) → RL n (ld Lt δ R) (dst Lt δ) (τ.2 8) → τ.1 7 = nI R → post τ) → L_T_partSets_20 post (d + 1) (nI (r + 1)) σ := by
  have d2 := hD.2.1
  intro d
  induction d with
  | zero =>
    intro r σ hr hT h4 hL h7 h
    have : r = R := by omega
    subst this
    refine ⟨fun _ => h σ Fr.rf h4 hL h7, fun c => t_partOnce hD hT h4 hL (fun τ hf k4 kL => ?_)⟩
    have e0 : cI (newL Lt δ r n) = 0 := cI_f (fun q => newL_stb.mp q hR2)
    rw [e0]
    refine ⟨fun c => absurd rfl c, fun _ => h τ (hf.mo (fun k hk => by simp at hk) (fun k hk => hk)) (fun j hj => by rw [k4 j hj, ld_stb hR2 hj]) (fun a b ha hb hab ca cb => kL a b ha hb hab (by rw [ld_stb hR2 ha]; exact ca) (by rw [ld_stb hR2 hb]; exact cb)) ((hf.1 7 (by simp)).trans h7)⟩
  | succ d ih =>
    intro r σ hr hT h4 hL h7 h
    have hrn : r + 1 < n := by omega
    refine ⟨fun c => absurd c (by rw [hT.2.1]; exact nI_ge hrn (by omega)), fun _ => t_partOnce hD hT h4 hL (fun τ hf k4 kL => ?_)⟩
    have e1 : cI (newL Lt δ r n) = 1 := cI_t (newL_stb.mpr (hR3 r (by omega)))
    rw [e1]
    refine ⟨fun _ => ?_, fun c => absurd c (by decide)⟩
    rw [nI_1]
    have hf2 : Fr σ (us τ 7 (nI (r + 1))) [7] [4, 5, 8] := Fr.us (hf.mo (fun k hk => by simp at hk) (fun k hk => hk)) (by simp)
    exact ih (r + 1) (us τ 7 (nI (r + 1))) (by omega) (hT.fr hf2 (by simp) (by simp) (by simp)) k4 kL (us_s _ _ _) (fun υ hg => h υ (hf2.tr hg))
theorem t_partSets {post : St → Prop} {R : Nat} {σ : St} (hD : okD n Lt δ) (hR1 : R < n) (hR2 : stb Lt δ n R) (hR3 : ∀ r, r < R → ¬ stb Lt δ n r) (hT : TS σ n Lt δ) (h : ∀ τ : St, Fr σ τ [7] [4, 5, 8] → (∀ j, j < n → τ.2 4 j = nI (ld Lt δ R j)) → RL n (ld Lt δ R) (dst Lt δ) (τ.2 8) → τ.1 7 = nI R → post τ) : wp_T_partSets σ post := by
  have d2 := hD.2.1
  unfold wp_T_partSets
  rw [hT.2.1]
  refine a_fill4_7 d2 ⟨R + 1, ?_⟩
  have hf : Fr σ (us (uA σ 4 (fll (σ.2 4) 0 n 0)) 7 0) [7] [4, 5, 8] := Fr.us (Fr.uA Fr.rf (by simp)) (by simp)
  have key := t_ps_loop (post := post) hD hR1 hR2 hR3 R 0 (us (uA σ 4 (fll (σ.2 4) 0 n 0)) 7 0) (by omega) (hT.fr hf (by simp) (by simp) (by simp)) (fun j hj => by
    show fll (σ.2 4) 0 n 0 j = _
    unfold fll
    rw [if_pos ⟨by omega, hj⟩, ld_zero]; rfl) (fun a b ha hb hab ca cb => by
    rw [ld_zero] at ca cb
    omega) (us_s _ _ _) (fun τ hg => h τ (hf.tr hg))
  exact key
end PS
