/-! THE STATES' NUMBERS, the class: numberStates. -/
def soQ (Q : List Nat) (x : Nat) : Int32 := if x ∈ Q then nI (ixl Q x) else -1
def NQ (n : Nat) (c : Int32) (so lo : Nat → Int32) (Q : List Nat) : Prop := c = nI Q.length ∧ (∀ (p x : Nat), Q[p]? = some x → lo p = nI x) ∧ ∀ x, x < n → so x = soQ Q x
theorem soQ_no {Q : List Nat} {x : Nat} (h : x ∉ Q) : soQ Q x = -1 := by unfold soQ; rw [if_neg h]
theorem soQ_in {Q : List Nat} {x : Nat} (h : x ∈ Q) : soQ Q x = nI (ixl Q x) := by unfold soQ; rw [if_pos h]
theorem NQ_app {n : Nat} {c : Int32} {so lo : Nat → Int32} {Q : List Nat} {x : Nat} (h : NQ n c so lo Q) (hx : x ∉ Q) : NQ n (c + 1) (upd so x c) (upd lo Q.length (nI x)) (Q ++ [x]) := by
  obtain ⟨h1, h2, h3⟩ := h
  refine ⟨?_, ?_, ?_⟩
  · rw [h1, nI_1]; simp
  · intro p y hp
    by_cases e : p < Q.length
    · rw [List.getElem?_append_left e] at hp
      rw [pk_un (by omega)]
      exact h2 p y hp
    · have hl : p < (Q ++ [x]).length := (List.getElem?_eq_some_iff.mp hp).1
      have : p = Q.length := by simp at hl; omega
      subst this
      rw [List.getElem?_append_right (Nat.le_refl _)] at hp
      simp at hp
      rw [pk_us, hp]
  · intro y hy
    by_cases e : y = x
    · subst e
      rw [pk_us, soQ_in (by simp), ixl_new hx, h1]
    · rw [pk_un e, h3 y hy]
      by_cases m : y ∈ Q
      · rw [soQ_in m, soQ_in (List.mem_append_left _ m), ixl_app _ m]
      · rw [soQ_no m, soQ_no (by simp [m, e])]
theorem soQ_1 {Q : List Nat} {x : Nat} (hl : Q.length < 2 ^ 31) : soQ Q x = -1 ↔ x ∉ Q := by
  constructor
  · intro h c
    rw [soQ_in c] at h
    exact nI_ne1 (by have := ixl_lt c; omega) h
  · exact soQ_no
theorem soQ_app {Q : List Nat} {x : Nat} (T : List Nat) (h : x ∈ Q) : soQ (Q ++ T) x = soQ Q x := by rw [soQ_in h, soQ_in (List.mem_append_left _ h), ixl_app _ h]
section NS
variable {n Lt : Nat} {δ : Nat → Nat → Option Nat} {ρ : Nat → Nat}
theorem t_ns7 {post : St → Prop} (hn : n ≤ 120) (hle : ∀ x, ρ x ≤ x) (hid : ∀ x, ρ (ρ x) = ρ x) :
    ∀ (d i : Nat) (σ : St), i + d = n → σ.1 5 = nI n → (∀ j, j < n → σ.2 4 j = nI (ρ j)) → NQ 0 (σ.1 6) (σ.2 6) (σ.2 7) (ldr ρ i) → (∀ x, x < i → σ.2 6 x = soQ (ldr ρ i) (ρ x)) →
      (∀ τ : St, Fr σ τ [6] [6, 7] → τ.1 6 = nI (ldr ρ n).length → (∀ (q x : Nat), (ldr ρ n)[q]? = some x → τ.2 7 q = nI x) → (∀ x, x < n → τ.2 6 x = soQ (ldr ρ n) (ρ x)) → post τ) → L_T_numberStates_7 post (d + 1) (nI i) σ := by
  intro d
  induction d with
  | zero =>
    intro i σ hi h5 h4 hq h6 h
    have : i = n := by omega
    subst this
    exact ⟨fun _ => h σ Fr.rf hq.1 hq.2.1 h6, fun c => absurd (by rw [h5]; exact nI_le (Nat.le_refl _) (by omega)) c⟩
  | succ d ih =>
    intro i σ hi h5 h4 hq h6 h
    have hin : i < n := by omega
    have hl := hle i
    have hlen := ldr_len (ρ := ρ) i
    have hv : vp_in (nI i) 120 := vp_in_nI (by omega) (by omega)
    refine ⟨fun c => absurd c (by rw [h5]; exact nI_ge hin (by omega)), fun _ => ⟨hv, ?_⟩⟩
    rw [nI_clamp (n := i) (by omega), h4 i hin, nI_clamp (n := ρ i) (by omega), nI_1]
    refine ⟨fun c => ⟨hv, vp_in_nI (by omega) (by omega), hv, ?_⟩, fun c => ⟨hv, ?_, ?_⟩⟩
    · have hne : ¬ ρ i = i := fun e => c (by rw [e])
      have e1 := ldr_n hne
      have hval : σ.2 6 (ρ i) = soQ (ldr ρ i) (ρ i) := by rw [h6 (ρ i) (by omega), hid]
      refine ih (i + 1) _ (by omega) h5 h4 (by rw [e1]; exact ⟨hq.1, hq.2.1, fun x hx => by omega⟩) (fun x hx => ?_) (fun τ hf => h τ ((Fr.uA Fr.rf (by simp)).tr hf))
      show upd (σ.2 6) i (σ.2 6 (ρ i)) x = _
      rw [e1]
      by_cases e : x = i
      · subst e; rw [pk_us, hval]
      · rw [pk_un e, h6 x (by omega)]
    · have e1 : (ua σ 6 i (σ.1 6)).1 6 = σ.1 6 := rfl
      rw [e1, hq.1]
      exact vp_in_nI (by omega) (by omega)
    · have hy : ρ i = i := (nI_eq (by omega) (by omega)).mp c
      have e2 := ldr_y hy
      have e6 : (σ.1 6).toNatClampNeg = (ldr ρ i).length := by rw [hq.1, nI_clamp (by omega)]
      have e1 : (ua σ 6 i (σ.1 6)).1 6 = σ.1 6 := rfl
      rw [e1, e6]
      have hni : i ∉ ldr ρ i := fun z => by have := (ldr_mem.mp z).1; omega
      have key := NQ_app hq hni
      refine ih (i + 1) _ (by omega) h5 h4 ?_ (fun x hx => ?_) (fun τ hf => h τ ((Fr.us (Fr.uA (Fr.uA Fr.rf (by simp)) (by simp)) (by simp)).tr hf))
      · have a1 : (us (ua (ua σ 6 i (σ.1 6)) 7 (ldr ρ i).length (nI i)) 6 ((ua (ua σ 6 i (σ.1 6)) 7 (ldr ρ i).length (nI i)).1 6 + 1)).1 6 = σ.1 6 + 1 := us_s _ _ _
        have a2 : (us (ua (ua σ 6 i (σ.1 6)) 7 (ldr ρ i).length (nI i)) 6 ((ua (ua σ 6 i (σ.1 6)) 7 (ldr ρ i).length (nI i)).1 6 + 1)).2 6 = upd (σ.2 6) i (σ.1 6) := rfl
        have a3 : (us (ua (ua σ 6 i (σ.1 6)) 7 (ldr ρ i).length (nI i)) 6 ((ua (ua σ 6 i (σ.1 6)) 7 (ldr ρ i).length (nI i)).1 6 + 1)).2 7 = upd (σ.2 7) (ldr ρ i).length (nI i) := rfl
        rw [a1, a2, a3, e2]
        exact key
      · show upd (σ.2 6) i (σ.1 6) x = _
        rw [e2]
        by_cases e : x = i
        · subst e; rw [pk_us, hy, soQ_in (by simp), ixl_new hni, hq.1]
        · have hxl := hle x
          rw [pk_un e, h6 x (by omega), soQ_app _ (ldr_mem.mpr ⟨by omega, hid x⟩)]
theorem t_numberStates {post : St → Prop} {σ : St} (hD : okD n Lt δ) (hle : ∀ x, ρ x ≤ x) (hid : ∀ x, ρ (ρ x) = ρ x) (hT : TS σ n Lt δ) (h4 : ∀ j, j < n → σ.2 4 j = nI (ρ j))
    (h : ∀ τ : St, Fr σ τ [6] [6, 7] → τ.1 6 = nI (ldr ρ n).length → (∀ (q x : Nat), (ldr ρ n)[q]? = some x → τ.2 7 q = nI x) → (∀ x, x < n → τ.2 6 x = soQ (ldr ρ n) (ρ x)) → post τ) : wp_T_numberStates σ post :=
  ⟨n + 1, t_ns7 hD.2.1 hle hid n 0 (us σ 6 0) (by omega) hT.2.1 h4 ⟨us_s _ _ _, fun p x hp => absurd hp (by show ¬ ([] : List Nat)[p]? = _; simp), fun x hx => by omega⟩ (fun x hx => by omega) (fun τ hf => h τ ((Fr.us Fr.rf (by simp)).tr hf))⟩
end NS
