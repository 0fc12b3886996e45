/-! THE STATES' NUMBERS, the class: numberState, numberStates. -/
def soQ (Q : List Nat) (x : Nat) : Int32 := if x ∈ Q then nI (ixl Q x) else -1
def NQ (n : Nat) (c : Int32) (so lo : Nat → Int32) (Q : List Nat) : Prop := c = nI Q.length ∧ (∀ (p x : Nat), Q[p]? = some x → lo p = nI x) ∧ ∀ x, x < n → so x = soQ Q x
theorem soQ_no {Q : List Nat} {x : Nat} (h : x ∉ Q) : soQ Q x = -1 := by unfold soQ; rw [if_neg h]
theorem soQ_in {Q : List Nat} {x : Nat} (h : x ∈ Q) : soQ Q x = nI (ixl Q x) := by unfold soQ; rw [if_pos h]
theorem NQ_app {n : Nat} {c : Int32} {so lo : Nat → Int32} {Q : List Nat} {x : Nat} (h : NQ n c so lo Q) (hx : x ∉ Q) : NQ n (c + 1) (upd so x c) (upd lo Q.length (nI x)) (Q ++ [x]) := by
  obtain ⟨h1, h2, h3⟩ := h
  refine ⟨?_, ?_, ?_⟩
  · rw [h1, nI_1]; simp
  · intro p y hp
    by_cases e : p < Q.length
    · rw [List.getElem?_append_left e] at hp
      rw [pk_un (by omega)]
      exact h2 p y hp
    · have hl : p < (Q ++ [x]).length := (List.getElem?_eq_some_iff.mp hp).1
      have : p = Q.length := by simp at hl; omega
      subst this
      rw [List.getElem?_append_right (Nat.le_refl _)] at hp
      simp at hp
      rw [pk_us, hp]
  · intro y hy
    by_cases e : y = x
    · subst e
      rw [pk_us, soQ_in (by simp), ixl_new hx, h1]
    · rw [pk_un e, h3 y hy]
      by_cases m : y ∈ Q
      · rw [soQ_in m, soQ_in (List.mem_append_left _ m), ixl_app _ m]
      · rw [soQ_no m, soQ_no (by simp [m, e])]
theorem soQ_1 {Q : List Nat} {x : Nat} (hl : Q.length < 2 ^ 31) : soQ Q x = -1 ↔ x ∉ Q := by
  constructor
  · intro h c
    rw [soQ_in c] at h
    exact nI_ne1 (by have := ixl_lt c; omega) h
  · exact soQ_no
section NS
variable {n Lt : Nat} {δ : Nat → Nat → Option Nat} {ρ : Nat → Nat}
theorem t_ns1 {post : St → Prop} {σ : St} {Q : List Nat} {x : Nat} (hn : n ≤ 120) (hQ : Q.length < 120) (hx : x < n) (hq : NQ n (σ.1 6) (σ.2 6) (σ.2 7) Q) (hni : x ∉ Q) (h : ∀ τ : St, Fr σ τ [6] [6, 7] → NQ n (τ.1 6) (τ.2 6) (τ.2 7) (Q ++ [x]) → post τ) : wp_T_numberState (nI x) σ post := by
  have e6 : (σ.1 6).toNatClampNeg = Q.length := by rw [hq.1, nI_clamp (by omega)]
  unfold wp_T_numberState
  rw [nI_clamp (by omega)]
  have e1 : (ua σ 6 x (σ.1 6)).1 6 = σ.1 6 := rfl
  rw [e1, e6]
  refine ⟨vp_in_nI (by omega) (by omega), by rw [hq.1]; exact vp_in_nI hQ (by omega), ?_⟩
  refine h _ (Fr.us (Fr.uA (Fr.uA Fr.rf (by simp)) (by simp)) (by simp)) ?_
  have key := NQ_app hq hni
  have a1 : (us (ua (ua σ 6 x (σ.1 6)) 7 Q.length (nI x)) 6 ((ua (ua σ 6 x (σ.1 6)) 7 Q.length (nI x)).1 6 + 1)).1 6 = σ.1 6 + 1 := us_s _ _ _
  have a2 : (us (ua (ua σ 6 x (σ.1 6)) 7 Q.length (nI x)) 6 ((ua (ua σ 6 x (σ.1 6)) 7 Q.length (nI x)).1 6 + 1)).2 6 = upd (σ.2 6) x (σ.1 6) := rfl
  have a3 : (us (ua (ua σ 6 x (σ.1 6)) 7 Q.length (nI x)) 6 ((ua (ua σ 6 x (σ.1 6)) 7 Q.length (nI x)).1 6 + 1)).2 7 = upd (σ.2 7) Q.length (nI x) := rfl
  rw [a1, a2, a3]
  exact key
theorem t_ns35 {post : St → Prop} {K : Int32 → St → Prop} {p a : Nat} (hD : okD n Lt δ) (hρ : ∀ x, x < n → ρ x < n ∧ ρ (ρ x) = ρ x) (ha : a < n) :
    ∀ (d l : Nat) (Q : List Nat) (σ : St), l + d = Lt → TS σ n Lt δ → (∀ j, j < n → σ.2 4 j = nI (ρ j)) → okQ ρ n Q → NQ n (σ.1 6) (σ.2 6) (σ.2 7) Q → Q[p]? = some a →
      (∀ τ : St, Fr σ τ [6] [6, 7] → NQ n (τ.1 6) (τ.2 6) (τ.2 7) (nin δ ρ a d l Q) → K (nI (p + 1)) τ) → L_T_numberStates_35 post K (d + 1) (nI p) (nI l) σ := by
  have d2 := hD.2.1
  have d3 := hD.2.2.1
  intro d
  induction d with
  | zero =>
    intro l Q σ hl hT h4 hok hq hp h
    have : l = Lt := by omega
    subst this
    refine ⟨fun _ => ?_, fun c => absurd (by rw [hT.1]; exact nI_le (Nat.le_refl _) (by omega)) c⟩
    rw [nI_1]
    exact h σ Fr.rf hq
  | succ d ih =>
    intro l Q σ hl hT h4 hok hq hp h
    have hlt : l < Lt := by omega
    have hQl := nodup_len n Q hok.1 (fun x hx => (hok.2.2 x hx).1)
    have hpl : p < Q.length := (List.getElem?_eq_some_iff.mp hp).1
    refine ⟨fun c => absurd c (by rw [hT.1]; exact nI_ge hlt (by omega)), fun _ => ⟨vp_in_nI (by omega) (by omega), ?_⟩⟩
    rw [nI_clamp (by omega), hq.2.1 p a hp, nI_1]
    refine t_la7 hD hT h4 ha hlt ?_
    have e : nin δ ρ a (d + 1) l Q = nin δ ρ a d (l + 1) (match δ a l with | none => Q | some t => nst Q (ρ t)) := rfl
    rw [e] at h
    cases hd : δ a l with
    | none =>
      rw [hd] at h
      refine ⟨fun _ => ih (l + 1) Q σ (by omega) hT h4 hok hq hp h, fun c => absurd rfl c⟩
    | some t =>
      rw [hd] at h
      have h : ∀ τ : St, Fr σ τ [6] [6, 7] → NQ n (τ.1 6) (τ.2 6) (τ.2 7) (nin δ ρ a d (l + 1) (nst Q (ρ t))) → K (nI (p + 1)) τ := h
      have ht := hD.2.2.2 a l t ha hlt hd
      obtain ⟨hr1, hr2⟩ := hρ t ht
      have em : enc (Option.map ρ (some t)) = nI (ρ t) := rfl
      rw [em]
      refine ⟨fun c => absurd c (nI_ne1 (by omega)), fun _ => ⟨vp_in_nI (by omega) (by omega), ?_⟩⟩
      rw [nI_clamp (by omega), hq.2.2 (ρ t) hr1]
      refine ⟨fun c => ?_, fun c => ?_⟩
      · have hm : ρ t ∈ Q := by
          apply Classical.byContradiction
          intro z
          exact c (soQ_no z)
        have e2 : nst Q (ρ t) = Q := by unfold nst; rw [if_pos hm]
        rw [e2] at h
        exact ih (l + 1) Q σ (by omega) hT h4 hok hq hp h
      · have hm : ρ t ∉ Q := (soQ_1 (by omega)).mp c
        have e2 : nst Q (ρ t) = Q ++ [ρ t] := by unfold nst; rw [if_neg hm]
        have hok2 := (nst_spec ρ hok hr1 hr2).1
        rw [e2] at h hok2
        have hQ2 := nodup_len n (Q ++ [ρ t]) hok2.1 (fun x hx => (hok2.2.2 x hx).1)
        have hQ3 : Q.length + 1 ≤ n := by simpa using hQ2
        refine t_ns1 d2 (by omega) hr1 hq hm (fun τ hf hq2 => ?_)
        exact ih (l + 1) (Q ++ [ρ t]) τ (by omega) (hT.fr hf (by simp) (by simp) (by simp)) (fun j hj => by rw [hf.2 4 (by simp)]; exact h4 j hj) hok2 hq2 (by rw [List.getElem?_append_left hpl]; exact hp) (fun υ hg => h υ (hf.tr hg))
theorem t_ns93 {post : St → Prop} {Q : List Nat} (hD : okD n Lt δ) (hρ : ∀ x, x < n → ρ x < n ∧ ρ (ρ x) = ρ x) (hle : ∀ x, ρ x ≤ x) :
    ∀ (d i : Nat) (σ : St), i + d = n → TS σ n Lt δ → (∀ j, j < n → σ.2 4 j = nI (ρ j)) → (∀ x, x < n → σ.2 6 x = if x < i then soQ Q (ρ x) else soQ Q x) →
      (∀ τ : St, Fr σ τ [] [6] → (∀ x, x < n → τ.2 6 x = soQ Q (ρ x)) → post τ) → L_T_numberStates_93 post (d + 1) (nI i) σ := by
  have d2 := hD.2.1
  intro d
  induction d with
  | zero =>
    intro i σ hi hT h4 h6 h
    have : i = n := by omega
    subst this
    exact ⟨fun _ => h σ Fr.rf (fun x hx => by rw [h6 x hx, if_pos hx]), fun c => absurd (by rw [hT.2.1]; exact nI_le (Nat.le_refl _) (by omega)) c⟩
  | succ d ih =>
    intro i σ hi hT h4 h6 h
    have hin : i < n := by omega
    have hr := hρ i hin
    have hl := hle i
    have hv : vp_in (nI i) 120 := vp_in_nI (by omega) (by omega)
    refine ⟨fun c => absurd c (by rw [hT.2.1]; exact nI_ge hin (by omega)), fun _ => ⟨hv, ?_⟩⟩
    rw [nI_clamp (n := i) (by omega), h4 i hin, nI_clamp (by omega), nI_1]
    refine ⟨vp_in_nI (by omega) (by omega), hv, ?_⟩
    have hval : σ.2 6 (ρ i) = soQ Q (ρ i) := by
      rw [h6 (ρ i) hr.1]
      split
      · rw [hr.2]
      · rfl
    refine ih (i + 1) _ (by omega) hT h4 (fun x hx => ?_) (fun τ hf => h τ ((Fr.uA Fr.rf (by simp)).tr hf))
    show upd (σ.2 6) i (σ.2 6 (ρ i)) x = _
    by_cases e : x = i
    · subst e; rw [pk_us, if_pos (by omega), hval]
    · rw [pk_un e, h6 x hx]
      by_cases c : x < i
      · rw [if_pos c, if_pos (by omega)]
      · rw [if_neg c, if_neg (by omega)]
theorem t_ns25 {post : St → Prop} (hD : okD n Lt δ) (hρ : ∀ x, x < n → ρ x < n ∧ ρ (ρ x) = ρ x) (hle : ∀ x, ρ x ≤ x) :
    ∀ (f p : Nat) (Q : List Nat) (σ : St), n < f + p → p ≤ Q.length → TS σ n Lt δ → (∀ j, j < n → σ.2 4 j = nI (ρ j)) → okQ ρ n Q → NQ n (σ.1 6) (σ.2 6) (σ.2 7) Q →
      (∀ τ : St, Fr σ τ [6] [6, 7] → τ.1 6 = nI (nout Lt δ ρ f p Q).length → (∀ (q x : Nat), (nout Lt δ ρ f p Q)[q]? = some x → τ.2 7 q = nI x) → (∀ x, x < n → τ.2 6 x = soQ (nout Lt δ ρ f p Q) (ρ x)) → post τ) → L_T_numberStates_25 post f (nI p) σ := by
  have d2 := hD.2.1
  intro f
  induction f with
  | zero =>
    intro p Q σ hf hp hT h4 hok hq h
    have := nodup_len n Q hok.1 (fun x hx => (hok.2.2 x hx).1)
    omega
  | succ f ih =>
    intro p Q σ hf hp hT h4 hok hq h
    have hQl := nodup_len n Q hok.1 (fun x hx => (hok.2.2 x hx).1)
    cases hx : Q[p]? with
    | none =>
      have e : nout Lt δ ρ (f + 1) p Q = Q := by show (match Q[p]? with | none => Q | some a => nout Lt δ ρ f (p + 1) (nin δ ρ a Lt 0 Q)) = _; rw [hx]
      rw [e] at h
      have h1 := List.getElem?_eq_none_iff.mp hx
      refine ⟨fun _ => ⟨n + 1, ?_⟩, fun c => absurd (by rw [hq.1]; exact nI_le h1 (by omega)) c⟩
      exact t_ns93 (Q := Q) hD hρ hle n 0 σ (by omega) hT h4 (fun x hx => by rw [if_neg (by omega)]; exact hq.2.2 x hx) (fun τ hg h6 => h τ (hg.mo (fun k hk => by simp at hk) (fun k hk => by simp at hk ⊢; omega)) ((hg.1 6 (by simp)).trans hq.1) (fun q x hqx => by rw [hg.2 7 (by simp)]; exact hq.2.1 q x hqx) h6)
    | some a =>
      have e : nout Lt δ ρ (f + 1) p Q = nout Lt δ ρ f (p + 1) (nin δ ρ a Lt 0 Q) := by show (match Q[p]? with | none => Q | some a => nout Lt δ ρ f (p + 1) (nin δ ρ a Lt 0 Q)) = _; rw [hx]
      rw [e] at h
      have hpl : p < Q.length := (List.getElem?_eq_some_iff.mp hx).1
      have ha := (hok.2.2 a (List.mem_of_getElem? hx)).1
      refine ⟨fun c => absurd c (by rw [hq.1]; exact nI_ge hpl (by omega)), fun _ => ⟨Lt + 1, ?_⟩⟩
      refine t_ns35 hD hρ ha Lt 0 Q σ (by omega) hT h4 hok hq hx (fun τ hg hq2 => ?_)
      obtain ⟨k1, ⟨T, k2⟩, _⟩ := nin_spec Lt δ ρ hD.2.2.2 hρ ha Lt 0 Q (by omega) hok
      have hlen : Q.length ≤ (nin δ ρ a Lt 0 Q).length := by rw [k2]; simp
      exact ih (p + 1) (nin δ ρ a Lt 0 Q) τ (by omega) (by omega) (hT.fr hg (by simp) (by simp) (by simp)) (fun j hj => by rw [hg.2 4 (by simp)]; exact h4 j hj) k1 hq2 (fun υ hg2 => h υ (hg.tr hg2))
theorem t_numberStates {post : St → Prop} {σ : St} (hD : okD n Lt δ) (hρ : ∀ x, x < n → ρ x < n ∧ ρ (ρ x) = ρ x) (hle : ∀ x, ρ x ≤ x) (hT : TS σ n Lt δ) (h4 : ∀ j, j < n → σ.2 4 j = nI (ρ j))
    (h : ∀ τ : St, Fr σ τ [6] [6, 7] → τ.1 6 = nI (nout Lt δ ρ (n + 1) 0 [0]).length → (∀ (q x : Nat), (nout Lt δ ρ (n + 1) 0 [0])[q]? = some x → τ.2 7 q = nI x) → (∀ x, x < n → τ.2 6 x = soQ (nout Lt δ ρ (n + 1) 0 [0]) (ρ x)) → post τ) : wp_T_numberStates σ post := by
  have d1 := hD.1
  have d2 := hD.2.1
  unfold wp_T_numberStates
  rw [hT.2.1]
  refine a_fill4_9 d2 ?_
  have hf : Fr σ (us (uA σ 6 (fll (σ.2 6) 0 n (-1))) 6 0) [6] [6, 7] := Fr.us (Fr.uA Fr.rf (by simp)) (by simp)
  refine t_ns1 (n := n) (Q := []) (x := 0) d2 (by simp) (by omega) ⟨us_s _ _ _, fun p x hp => by simp at hp, fun x hx => ?_⟩ (by simp) (fun τ hg hq => ⟨n + 1, ?_⟩)
  · show fll (σ.2 6) 0 n (-1) x = _
    unfold fll
    rw [if_pos ⟨by omega, hx⟩, soQ_no (by simp)]
  · have hfg := hf.tr hg
    have r0 : ρ 0 = 0 := Nat.le_zero.mp (hle 0)
    exact t_ns25 hD hρ hle (n + 1) 0 [0] τ (by omega) (by simp) (hT.fr hfg (by simp) (by simp) (by simp)) (fun j hj => by rw [hfg.2 4 (by simp)]; exact h4 j hj) ⟨by simp, by simp, fun x hx => by simp at hx; subst hx; exact ⟨by omega, r0⟩⟩ hq (fun υ hg2 => h υ (hfg.tr hg2))
end NS
