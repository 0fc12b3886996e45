/-! THE SETS: reach, indexOf, findSets, laySteps of the class; led, follow of the reference. -/
theorem bz1 {b : Bool} {A B : Prop} (hA : b = false → A) (hB : b = true → B) : (¬ bI b = 1 → A) ∧ (bI b = 1 → B) := ⟨fun c => hA (by cases b; rfl; exact absurd rfl c), fun c => hB ((bI_1 b).mp c)⟩
theorem g_reach_loop {post : Int32 → St → Prop} {σ : St} {N l : Nat} {x : Int32} {W : Nat → Int32} (hN : N ≤ 24) (hl : l < 40) (h1 : σ.1 1 = nI N) (h2 : σ.2 0 = W) (h : post (rch W l x N) σ) : ∀ (d k : Nat), k + d = N → L_G_reach_5 post (d + 1) x (nI l) (rch W l x k) (nI k) σ := by
  intro d
  induction d with
  | zero =>
    intro k hk
    have : k = N := by omega
    subst this
    exact ⟨fun _ => h, fun c => absurd (by rw [h1]; exact nI_le (Nat.le_refl k) (by omega)) c⟩
  | succ d ih =>
    intro k hk
    refine ⟨fun c => absurd c (by rw [h1]; exact nI_ge (by omega) (by omega)), fun _ => ?_⟩
    rw [u_bit _ (by omega), nI_1]
    have hp := plc (a := k) (l := l) (by omega) hl
    refine bz (fun e => ?_) (fun e => ?_)
    · have e2 : rch W l x (k + 1) = rch W l x k := by show (if _ then _ else _) = _; rw [if_neg (by rw [e]; decide)]
      rw [← e2]
      exact ih (k + 1) (by omega)
    · have e2 : rch W l x (k + 1) = rch W l x k ||| W (24 * l + k) := by show (if _ then _ else _) = _; rw [if_pos e]
      show vp_in (nI l * nI 24 + nI k) 960 ∧ _
      rw [plc_c]
      refine ⟨vp_in_nI hp (by omega), ?_⟩
      rw [nI_clamp (by omega), h2, ← e2]
      exact ih (k + 1) (by omega)
theorem g_reach {post : Int32 → St → Prop} {σ : St} {N l : Nat} {x : Int32} {W : Nat → Int32} (hN : N ≤ 24) (hl : l < 40) (h1 : σ.1 1 = nI N) (h2 : σ.2 0 = W) (h : post (rch W l x N) σ) : wp_G_reach x (nI l) σ post := ⟨N + 1, g_reach_loop hN hl h1 h2 h N 0 (by omega)⟩
theorem m_led_loop {post : Int32 → St → Prop} {σ : St} {N l : Nat} {x : Int32} {W : Nat → Int32} (hN : N ≤ 24) (hl : l < 40) (h1 : σ.1 1 = nI N) (h2 : σ.2 0 = W) (h : post (rch W l x N) σ) : ∀ (d k : Nat), k + d = N → L_M_led_5 post (d + 1) x (nI l) (rch W l x k) (nI k) σ := by
  intro d
  induction d with
  | zero =>
    intro k hk
    have : k = N := by omega
    subst this
    exact ⟨fun _ => h, fun c => absurd (by rw [h1]; exact nI_le (Nat.le_refl k) (by omega)) c⟩
  | succ d ih =>
    intro k hk
    refine ⟨fun c => absurd c (by rw [h1]; exact nI_ge (by omega) (by omega)), fun _ => ?_⟩
    rw [s_bit _ (by omega), nI_1, plc_m]
    have hp := plc (a := k) (l := l) (by omega) hl
    refine bz1 (fun e => ?_) (fun e => ?_)
    · have e2 : rch W l x (k + 1) = rch W l x k := by show (if _ then _ else _) = _; rw [if_neg (by rw [e]; decide)]
      rw [Int32.or_zero, ← e2]
      exact ih (k + 1) (by omega)
    · have e2 : rch W l x (k + 1) = rch W l x k ||| W (24 * l + k) := by show (if _ then _ else _) = _; rw [if_pos e]
      refine ⟨vp_in_nI hp (by omega), ?_⟩
      rw [nI_clamp (by omega), h2, ← e2]
      exact ih (k + 1) (by omega)
theorem m_led {post : Int32 → St → Prop} {σ : St} {N l : Nat} {x : Int32} {W : Nat → Int32} (hN : N ≤ 24) (hl : l < 40) (h1 : σ.1 1 = nI N) (h2 : σ.2 0 = W) (h : post (rch W l x N) σ) : wp_M_led x (nI l) σ post := ⟨N + 1, m_led_loop hN hl h1 h2 h N 0 (by omega)⟩
/-- indexOf's answer -/
def ixo (S : List Int32) (r : Int32) : Int32 := if r ∈ S then nI (ixl S r) else -1
theorem ixo_scan {S : List Int32} {r : Int32} {i : Nat} (hb : ∀ j : Nat, j < i → S[j]? ≠ some r) (h : S[i]? = some r) : ixo S r = nI i := by
  unfold ixo
  rw [if_pos (List.mem_of_getElem? h), ixl_first hb h]
theorem ixo_none {S : List Int32} {r : Int32} (hb : ∀ j : Nat, j < S.length → S[j]? ≠ some r) : ixo S r = -1 := by
  unfold ixo
  rw [if_neg]
  intro h
  obtain ⟨j, hj⟩ := List.getElem?_of_mem h
  exact hb j (List.getElem?_eq_some_iff.mp hj).1 hj
theorem t_ix5_loop {post : Int32 → St → Prop} {σ : St} {S : List Int32} {r : Int32} (hS : S.length ≤ 120) (ha : arr (σ.2 2) S) (h : post (ixo S r) σ) : ∀ (d i : Nat), i + d = S.length → (∀ j, j < i → S[j]? ≠ some r) → L_T_indexOf_5_2 post (d + 1) (nI S.length) r (nI i) σ := by
  intro d
  induction d with
  | zero =>
    intro i hi hb
    rw [ixo_none (fun j hj => hb j (by omega))] at h
    have : i = S.length := by omega
    subst this
    exact ⟨fun _ => h, fun c => absurd (nI_le (Nat.le_refl _) (by omega)) c⟩
  | succ d ih =>
    intro i hi hb
    refine ⟨fun c => absurd c (nI_ge (by omega) (by omega)), fun _ => ⟨vp_in_nI (by omega) (by omega), ?_⟩⟩
    rw [nI_clamp (by omega), nI_1]
    have hi2 := ha i (by omega)
    refine ⟨fun c => ih (i + 1) (by omega) (fun j hj => ?_), fun c => ?_⟩
    · by_cases e : j = i
      · subst e; rw [hi2]; intro z; exact c (Option.some.inj z)
      · exact hb j (by omega)
    · rw [ixo_scan hb (by rw [hi2, c])] at h
      exact h
theorem t_ix5 {post : Int32 → St → Prop} {σ : St} {S : List Int32} {r : Int32} (hS : S.length ≤ 120) (ha : arr (σ.2 2) S) (h : post (ixo S r) σ) : wp_T_indexOf_5 (nI S.length) r σ post := ⟨S.length + 1, t_ix5_loop hS ha h S.length 0 (by omega) (fun j hj => by omega)⟩
theorem t_ix4_loop {post : Int32 → St → Prop} {σ : St} {S : List Int32} {r : Int32} (hS : S.length ≤ 120) (ha : arr (σ.2 1) S) (h : post (ixo S r) σ) : ∀ (d i : Nat), i + d = S.length → (∀ j, j < i → S[j]? ≠ some r) → L_T_indexOf_4_2 post (d + 1) (nI S.length) r (nI i) σ := by
  intro d
  induction d with
  | zero =>
    intro i hi hb
    rw [ixo_none (fun j hj => hb j (by omega))] at h
    have : i = S.length := by omega
    subst this
    exact ⟨fun _ => h, fun c => absurd (nI_le (Nat.le_refl _) (by omega)) c⟩
  | succ d ih =>
    intro i hi hb
    refine ⟨fun c => absurd c (nI_ge (by omega) (by omega)), fun _ => ⟨vp_in_nI (by omega) (by omega), ?_⟩⟩
    rw [nI_clamp (by omega), nI_1]
    have hi2 := ha i (by omega)
    refine ⟨fun c => ih (i + 1) (by omega) (fun j hj => ?_), fun c => ?_⟩
    · by_cases e : j = i
      · subst e; rw [hi2]; intro z; exact c (Option.some.inj z)
      · exact hb j (by omega)
    · rw [ixo_scan hb (by rw [hi2, c])] at h
      exact h
theorem t_ix4 {post : Int32 → St → Prop} {σ : St} {S : List Int32} {r : Int32} (hS : S.length ≤ 120) (ha : arr (σ.2 1) S) (h : post (ixo S r) σ) : wp_T_indexOf_4 (nI S.length) r σ post := ⟨S.length + 1, t_ix4_loop hS ha h S.length 0 (by omega) (fun j hj => by omega)⟩
theorem nI_ne1 {j : Nat} (h : j < 2 ^ 31) : ¬ nI j = -1 := fun e => by
  have a := nI_toInt h
  rw [e] at a
  have : (-1 : Int32).toInt = -1 := by decide
  omega
theorem ixo_1 {S : List Int32} {r : Int32} (hS : S.length ≤ 120) : ixo S r = -1 ↔ r ∉ S := by
  unfold ixo
  constructor
  · intro h c
    rw [if_pos c] at h
    exact nI_ne1 (by have := ixl_lt c; omega) h
  · intro c
    rw [if_neg c]
theorem inn_len (W : Nat → Int32) (N : Nat) {x : Int32} : ∀ (d l : Nat) (S S' : List Int32), inn W N x d l S = some S' → S.length ≤ S'.length := by
  intro d
  induction d with
  | zero => intro l S S' h; have : S' = S := (Option.some.inj h).symm; subst this; exact Nat.le_refl _
  | succ d ih =>
    intro l S S' h
    have h : (stp S (rch W l x N)).bind (inn W N x d (l + 1)) = some S' := h
    cases hs : stp S (rch W l x N) with
    | none => rw [hs] at h; cases h
    | some S1 =>
      rw [hs] at h
      have h : inn W N x d (l + 1) S1 = some S' := h
      have a := ih (l + 1) S1 S' h
      have b : S.length ≤ S1.length := by
        unfold stp at hs
        split at hs
        · rw [← Option.some.inj hs]; exact Nat.le_refl _
        · split at hs
          · cases hs
          · rw [← Option.some.inj hs]; simp
      omega
/-- findSets: the inner loop, over letters -/
theorem t_fs24 {post : Int32 → St → Prop} {K : Int32 → Int32 → St → Prop} {σ : St} {N Lt s0 s : Nat} {W : Nat → Int32} {x : Int32} (hg : GG σ N Lt s0 W) (ok : okG N Lt s0 W) :
    ∀ (d l : Nat) (S : List Int32) (f : Nat → Int32), l + d = Lt → S.length ≤ 120 → arr f S → S[s]? = some x →
      (inn W N x d l S = none → ∀ g, post (-1) (uA σ 2 g)) → (∀ S', inn W N x d l S = some S' → ∀ g, arr g S' → S'.length ≤ 120 → K (nI S'.length) (nI (s + 1)) (uA σ 2 g)) →
      L_T_findSets_1_24 post K (d + 1) (nI S.length) (nI s) (nI l) (uA σ 2 f) := by
  have hN := ok.2.1
  have hL := ok.2.2.2.1
  intro d
  induction d with
  | zero =>
    intro l S f hl hS ha hx h0 h1
    have : l = Lt := by omega
    subst this
    refine ⟨fun _ => ?_, fun c => absurd (by show σ.1 2 ≤ _; rw [hg.2.1]; exact nI_le (Nat.le_refl _) (by omega)) c⟩
    rw [nI_1]
    exact h1 S rfl f ha hS
  | succ d ih =>
    intro l S f hl hS ha hx h0 h1
    have hs : s < S.length := (List.getElem?_eq_some_iff.mp hx).1
    have hfs : f s = x := by
      have := ha s hs
      rw [hx] at this
      exact (Option.some.inj this).symm
    have e1 : inn W N x (d + 1) l S = (stp S (rch W l x N)).bind (inn W N x d (l + 1)) := rfl
    rw [e1] at h0
    have h1 : ∀ S', (stp S (rch W l x N)).bind (inn W N x d (l + 1)) = some S' → ∀ g, arr g S' → S'.length ≤ 120 → K (nI S'.length) (nI (s + 1)) (uA σ 2 g) := h1
    refine ⟨fun c => absurd c (by show ¬ σ.1 2 ≤ _; rw [hg.2.1]; exact nI_ge (by omega) (by omega)), fun _ => ⟨vp_in_nI (by omega) (by omega), ?_⟩⟩
    rw [nI_clamp (by omega), uA_s, hfs, nI_1]
    refine g_reach (σ := uA σ 2 f) hN (by omega) hg.1 hg.2.2.2 ?_
    refine ⟨fun c => ?_, fun c => ?_⟩
    · have e : stp S (rch W l x N) = some S := by unfold stp; rw [if_pos (Or.inl c)]
      rw [e] at h0 h1
      exact ih (l + 1) S f (by omega) hS ha hx h0 h1
    · refine t_ix5 hS (by rw [uA_s]; exact ha) ⟨fun c2 => ?_, fun c2 => ?_⟩
      · have hm : rch W l x N ∈ S := by
          apply Classical.byContradiction
          intro z
          exact c2 ((ixo_1 hS).mpr z)
        have e : stp S (rch W l x N) = some S := by unfold stp; rw [if_pos (Or.inr hm)]
        rw [e] at h0 h1
        exact ih (l + 1) S f (by omega) hS ha hx h0 h1
      · have hm : rch W l x N ∉ S := (ixo_1 hS).mp c2
        have hno : ¬ (rch W l x N = 0 ∨ rch W l x N ∈ S) := fun z => z.elim c hm
        refine ⟨fun c3 => ?_, fun c3 => ?_⟩
        · have hlt : S.length < 120 := (nI_ltI (by omega) (by omega)).mp c3
          have e : stp S (rch W l x N) = some (S ++ [rch W l x N]) := by unfold stp; rw [if_neg hno, if_neg (by omega)]
          rw [e] at h0 h1
          refine ⟨vp_in_nI hlt (by omega), ?_⟩
          rw [nI_clamp (by omega), nI_1]
          unfold ua
          rw [uA_uA, uA_s]
          have := ih (l + 1) (S ++ [rch W l x N]) (upd f S.length (rch W l x N)) (by omega) (by simp; omega) (arr_app ha _) (by rw [List.getElem?_append_left hs]; exact hx) h0 h1
          simpa using this
        · have hge : S.length = 120 := by
            have : ¬ S.length < 120 := fun z => c3 (nI_lt z (by omega))
            omega
          have e : stp S (rch W l x N) = none := by unfold stp; rw [if_neg hno, if_pos hge]
          rw [e] at h0
          exact h0 rfl f
theorem t_fs16 {post : Int32 → St → Prop} {σ : St} {N Lt s0 : Nat} {W : Nat → Int32} (hg : GG σ N Lt s0 W) (ok : okG N Lt s0 W) :
    ∀ (m s : Nat) (S : List Int32) (f : Nat → Int32), m + s = 122 → s ≤ S.length → S.length ≤ 120 → arr f S →
      (bfs W N Lt m s S = none → ∀ g, post (-1) (uA σ 2 g)) → (∀ S', bfs W N Lt m s S = some S' → ∀ g, arr g S' → S'.length ≤ 120 → post (nI S'.length) (uA σ 2 g)) →
      L_T_findSets_1_16 post m (nI S.length) (nI s) (uA σ 2 f) := by
  intro m
  induction m with
  | zero => intro s S f hm hs hS; omega
  | succ m ih =>
    intro s S f hm hs hS ha h0 h1
    cases hx : S[s]? with
    | none =>
      have hsl := List.getElem?_eq_none_iff.mp hx
      have e : bfs W N Lt (m + 1) s S = some S := by show (match S[s]? with | none => some S | some x => (inn W N x Lt 0 S).bind (bfs W N Lt m (s + 1))) = _; rw [hx]
      refine ⟨fun _ => h1 S e f ha hS, fun c => absurd (nI_le hsl (by omega)) c⟩
    | some x =>
      have hsl : s < S.length := (List.getElem?_eq_some_iff.mp hx).1
      have e : bfs W N Lt (m + 1) s S = (inn W N x Lt 0 S).bind (bfs W N Lt m (s + 1)) := by show (match S[s]? with | none => some S | some x => (inn W N x Lt 0 S).bind (bfs W N Lt m (s + 1))) = _; rw [hx]
      rw [e] at h0
      have h1 : ∀ S', (inn W N x Lt 0 S).bind (bfs W N Lt m (s + 1)) = some S' → ∀ g, arr g S' → S'.length ≤ 120 → post (nI S'.length) (uA σ 2 g) := fun S' z => h1 S' (by rw [e]; exact z)
      refine ⟨fun c => absurd c (nI_ge hsl (by omega)), fun _ => ⟨Lt + 1, ?_⟩⟩
      refine t_fs24 hg ok Lt 0 S f (by omega) hS ha hx (fun z => h0 (by rw [z]; rfl)) (fun S' hS' g hag hlen => ?_)
      rw [hS'] at h0 h1
      have hle : s + 1 ≤ S'.length := by
        have : S.length ≤ S'.length := inn_len W N _ _ _ _ hS'
        omega
      exact ih (s + 1) S' g (by omega) hle hlen hag h0 h1
