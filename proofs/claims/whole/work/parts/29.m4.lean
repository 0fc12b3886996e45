/-! MATHEMATICS 4: the leaders in order are the states in the order in which they are found. -/
/-- the leaders below m -/
def ldr (ρ : Nat → Nat) : Nat → List Nat
  | 0 => []
  | m + 1 => if ρ m = m then ldr ρ m ++ [m] else ldr ρ m
theorem ldr_y {ρ : Nat → Nat} {m : Nat} (h : ρ m = m) : ldr ρ (m + 1) = ldr ρ m ++ [m] := by show (if _ then _ else _) = _; rw [if_pos h]
theorem ldr_n {ρ : Nat → Nat} {m : Nat} (h : ¬ ρ m = m) : ldr ρ (m + 1) = ldr ρ m := by show (if _ then _ else _) = _; rw [if_neg h]
theorem ldr_mem {ρ : Nat → Nat} : ∀ {m x : Nat}, x ∈ ldr ρ m ↔ x < m ∧ ρ x = x := by
  intro m
  induction m with
  | zero => intro x; exact ⟨fun h => absurd h (by show ¬ x ∈ []; simp), fun h => by omega⟩
  | succ m ih =>
    intro x
    by_cases c : ρ m = m
    · rw [ldr_y c, List.mem_append, ih, List.mem_singleton]
      constructor
      · rintro (h | h)
        · exact ⟨by omega, h.2⟩
        · subst h; exact ⟨by omega, c⟩
      · intro h
        by_cases e : x = m
        · exact Or.inr e
        · exact Or.inl ⟨by omega, h.2⟩
    · rw [ldr_n c, ih]
      constructor
      · intro h; exact ⟨by omega, h.2⟩
      · intro h
        have : x ≠ m := fun e => c (by rw [← e]; exact h.2)
        exact ⟨by omega, h.2⟩
theorem ldr_len {ρ : Nat → Nat} : ∀ m, (ldr ρ m).length ≤ m := by
  intro m
  induction m with
  | zero => exact Nat.le_refl 0
  | succ m ih =>
    by_cases c : ρ m = m
    · rw [ldr_y c, List.length_append, List.length_singleton]; omega
    · rw [ldr_n c]; omega
theorem ldr_pre {ρ : Nat → Nat} {s : Nat} : ∀ d, ∃ T, ldr ρ (s + d) = ldr ρ s ++ T := by
  intro d
  induction d with
  | zero => exact ⟨[], by simp⟩
  | succ d ih =>
    obtain ⟨T, hT⟩ := ih
    by_cases c : ρ (s + d) = s + d
    · exact ⟨T ++ [s + d], by rw [← Nat.add_assoc, ldr_y c, hT, List.append_assoc]⟩
    · exact ⟨T, by rw [← Nat.add_assoc, ldr_n c, hT]⟩
theorem ldr_at {ρ : Nat → Nat} {s m : Nat} (h : s < m) (hs : ρ s = s) : (ldr ρ m)[(ldr ρ s).length]? = some s := by
  obtain ⟨T, hT⟩ := ldr_pre (ρ := ρ) (s := s + 1) (m - (s + 1))
  have e : s + 1 + (m - (s + 1)) = m := by omega
  rw [e, ldr_y hs, List.append_assoc] at hT
  rw [hT, List.getElem?_append_right (Nat.le_refl _)]
  simp
section OR
variable {n Lt : Nat} {δ : Nat → Nat → Option Nat} {ρ : Nat → Nat}
/-- place (s', l') comes before (s, l) -/
def bef (s' l' s l : Nat) : Prop := s' < s ∨ (s' = s ∧ l' < l)
/-- each set but the first is first led to from a place before it, and all that is led to before that place has a lesser number -/
def ord (n Lt : Nat) (δ : Nat → Nat → Option Nat) : Prop := ∀ k, 0 < k → k < n → ∃ s l, s < k ∧ l < Lt ∧ δ s l = some k ∧ ∀ s' l' t, l' < Lt → bef s' l' s l → δ s' l' = some t → t < k
/-- all that is led to before the place (s, l) is below m -/
def bel (Lt : Nat) (δ : Nat → Nat → Option Nat) (s l m : Nat) : Prop := ∀ s' l' t, l' < Lt → bef s' l' s l → δ s' l' = some t → t < m
theorem bel_next {s m : Nat} (h : bel Lt δ s Lt m) : bel Lt δ (s + 1) 0 m := by
  intro s' l' t h1 h2 h3
  refine h s' l' t h1 ?_ h3
  rcases h2 with z | ⟨_, z⟩
  · by_cases e : s' = s
    · exact Or.inr ⟨e, h1⟩
    · exact Or.inl (by omega)
  · omega
theorem bel_none {s l m : Nat} (h : bel Lt δ s l m) (hd : δ s l = none) : bel Lt δ s (l + 1) m := by
  intro s' l' t h1 h2 h3
  by_cases e : s' = s ∧ l' = l
  · rw [e.1, e.2, hd] at h3; cases h3
  · refine h s' l' t h1 ?_ h3
    rcases h2 with z | ⟨z, y⟩
    · exact Or.inl z
    · exact Or.inr ⟨z, by omega⟩
theorem bel_some {s l m t m' : Nat} (h : bel Lt δ s l m) (hd : δ s l = some t) (h1 : m ≤ m') (h2 : t < m') : bel Lt δ s (l + 1) m' := by
  intro s' l' t' k1 k2 k3
  by_cases e : s' = s ∧ l' = l
  · rw [e.1, e.2, hd] at k3; cases k3; exact h2
  · refine Nat.lt_of_lt_of_le (h s' l' t' k1 ?_ k3) h1
    rcases k2 with z | ⟨z, y⟩
    · exact Or.inl z
    · exact Or.inr ⟨z, by omega⟩
/-- a number m that isn't below all is met only from the place (s, l) on -/
theorem ord_le (hO : ord n Lt δ) {s l m t : Nat} (hm : 0 < m) (hl : l < Lt) (h : bel Lt δ s l m) (hd : δ s l = some t) (ht : t < n) : t ≤ m := by
  apply Classical.byContradiction
  intro c
  obtain ⟨s1, l1, a1, a2, a3, a4⟩ := hO m hm (by omega)
  by_cases e1 : bef s1 l1 s l
  · exact Nat.lt_irrefl m (h s1 l1 m a2 e1 a3)
  · by_cases e2 : bef s l s1 l1
    · have := a4 s l t hl e2 hd; omega
    · have : s1 = s ∧ l1 = l := by
        unfold bef at e1 e2
        omega
      rw [this.1, this.2, hd] at a3
      cases a3
      omega
theorem ord_in (hO : ord n Lt δ) {s m : Nat} (hm : 0 < m) (h : bel Lt δ s 0 m) (hs : s < n) : s < m := by
  apply Classical.byContradiction
  intro c
  obtain ⟨s1, l1, a1, a2, a3, _⟩ := hO m hm (by omega)
  exact Nat.lt_irrefl m (h s1 l1 m a2 (Or.inl (by omega)) a3)
theorem ord_all (hO : ord n Lt δ) {m : Nat} (hm : 0 < m) (h : bel Lt δ n 0 m) : n ≤ m := by
  apply Classical.byContradiction
  intro c
  obtain ⟨s1, l1, a1, a2, a3, _⟩ := hO m hm (by omega)
  exact Nat.lt_irrefl m (h s1 l1 m a2 (Or.inl (by omega)) a3)
/-- a leader's letters -/
theorem ord_nin (hO : ord n Lt δ) (hδ : ∀ s l b, s < n → l < Lt → δ s l = some b → b < n) (hle : ∀ x, ρ x ≤ x) (hid : ∀ x, ρ (ρ x) = ρ x) {s : Nat} (hs : s < n) :
    ∀ (d l m : Nat), l + d = Lt → 0 < m → m ≤ n → bel Lt δ s l m → ∃ m', 0 < m' ∧ m' ≤ n ∧ bel Lt δ (s + 1) 0 m' ∧ nin δ ρ s d l (ldr ρ m) = ldr ρ m' := by
  intro d
  induction d with
  | zero =>
    intro l m hl hm hmn h
    have : l = Lt := by omega
    subst this
    exact ⟨m, hm, hmn, bel_next h, rfl⟩
  | succ d ih =>
    intro l m hl hm hmn h
    have e : nin δ ρ s (d + 1) l (ldr ρ m) = nin δ ρ s d (l + 1) (match δ s l with | none => ldr ρ m | some t => nst (ldr ρ m) (ρ t)) := rfl
    rw [e]
    cases hd : δ s l with
    | none => exact ih (l + 1) m (by omega) hm hmn (bel_none h hd)
    | some t =>
      show ∃ m', 0 < m' ∧ m' ≤ n ∧ bel Lt δ (s + 1) 0 m' ∧ nin δ ρ s d (l + 1) (nst (ldr ρ m) (ρ t)) = ldr ρ m'
      have ht := hδ s l t hs (by omega) hd
      have htm := ord_le hO hm (by omega) h hd ht
      by_cases c : t < m
      · have hmem : ρ t ∈ ldr ρ m := ldr_mem.mpr ⟨Nat.lt_of_le_of_lt (hle t) c, hid t⟩
        have e2 : nst (ldr ρ m) (ρ t) = ldr ρ m := by unfold nst; rw [if_pos hmem]
        rw [e2]
        exact ih (l + 1) m (by omega) hm hmn (bel_some h hd (Nat.le_refl _) c)
      · have htm2 : t = m := by omega
        subst htm2
        have e2 : nst (ldr ρ t) (ρ t) = ldr ρ (t + 1) := by
          unfold nst
          by_cases c2 : ρ t = t
          · rw [ldr_y c2, c2, if_neg (fun z => by have := (ldr_mem.mp z).1; omega)]
          · rw [ldr_n c2, if_pos (ldr_mem.mpr ⟨by have := hle t; omega, hid t⟩)]
        rw [e2]
        exact ih (l + 1) (t + 1) (by omega) (by omega) (by omega) (bel_some h hd (by omega) (by omega))
/-- the letters of a set that is no leader bring no new leader -/
theorem ord_no (hO : ord n Lt δ) (hδ : ∀ s l b, s < n → l < Lt → δ s l = some b → b < n) (hle : ∀ x, ρ x ≤ x) {s : Nat} (hs : s < n) (hns : ¬ ρ s = s) (hcg : ∀ l t, l < Lt → δ s l = some t → ∃ t', δ (ρ s) l = some t' ∧ ρ t' = ρ t) :
    ∀ (d l m : Nat), l + d = Lt → 0 < m → m ≤ n → bel Lt δ s l m → ∃ m', 0 < m' ∧ m' ≤ n ∧ bel Lt δ (s + 1) 0 m' ∧ ldr ρ m = ldr ρ m' := by
  intro d
  induction d with
  | zero =>
    intro l m hl hm hmn h
    have : l = Lt := by omega
    subst this
    exact ⟨m, hm, hmn, bel_next h, rfl⟩
  | succ d ih =>
    intro l m hl hm hmn h
    cases hd : δ s l with
    | none => exact ih (l + 1) m (by omega) hm hmn (bel_none h hd)
    | some t =>
      have ht := hδ s l t hs (by omega) hd
      have htm := ord_le hO hm (by omega) h hd ht
      by_cases c : t < m
      · exact ih (l + 1) m (by omega) hm hmn (bel_some h hd (Nat.le_refl _) c)
      · have htm2 : t = m := by omega
        subst htm2
        obtain ⟨t', k1, k2⟩ := hcg l t (by omega) hd
        have hrs := hle s
        have k3 : t' < t := h (ρ s) l t' (by omega) (Or.inl (by omega)) k1
        have k4 := hle t'
        have e : ldr ρ (t + 1) = ldr ρ t := ldr_n (by omega)
        obtain ⟨m', q1, q2, q3, q4⟩ := ih (l + 1) (t + 1) (by omega) (by omega) (by omega) (bel_some h hd (by omega) (by omega))
        exact ⟨m', q1, q2, q3, by rw [← q4, e]⟩
theorem ord_nout (hO : ord n Lt δ) (hδ : ∀ s l b, s < n → l < Lt → δ s l = some b → b < n) (hle : ∀ x, ρ x ≤ x) (hid : ∀ x, ρ (ρ x) = ρ x) (hcg : ∀ s l t, s < n → l < Lt → δ s l = some t → ∃ t', δ (ρ s) l = some t' ∧ ρ t' = ρ t) :
    ∀ (d s m f : Nat), s + d = n → 0 < m → m ≤ n → bel Lt δ s 0 m → n < f + (ldr ρ s).length → nout Lt δ ρ f (ldr ρ s).length (ldr ρ m) = ldr ρ n := by
  intro d
  induction d with
  | zero =>
    intro s m f hs hm hmn h hf
    have : s = n := by omega
    subst this
    have e : m = s := Nat.le_antisymm hmn (ord_all hO hm h)
    subst e
    cases f with
    | zero => rfl
    | succ f =>
      show (match (ldr ρ m)[(ldr ρ m).length]? with | none => ldr ρ m | some a => nout Lt δ ρ f ((ldr ρ m).length + 1) (nin δ ρ a Lt 0 (ldr ρ m))) = _
      rw [List.getElem?_eq_none_iff.mpr (Nat.le_refl _)]
  | succ d ih =>
    intro s m f hs hm hmn h hf
    have hsn : s < n := by omega
    have hsm := ord_in hO hm h hsn
    by_cases c : ρ s = s
    · cases f with
      | zero => have := ldr_len (ρ := ρ) s; omega
      | succ f =>
        show (match (ldr ρ m)[(ldr ρ s).length]? with | none => ldr ρ m | some a => nout Lt δ ρ f ((ldr ρ s).length + 1) (nin δ ρ a Lt 0 (ldr ρ m))) = _
        rw [ldr_at hsm c]
        show nout Lt δ ρ f ((ldr ρ s).length + 1) (nin δ ρ s Lt 0 (ldr ρ m)) = _
        obtain ⟨m', q1, q2, q3, q4⟩ := ord_nin hO hδ hle hid hsn Lt 0 m (by omega) hm hmn h
        have el : (ldr ρ (s + 1)).length = (ldr ρ s).length + 1 := by rw [ldr_y c, List.length_append, List.length_singleton]
        rw [q4, ← el]
        exact ih (s + 1) m' f (by omega) q1 q2 q3 (by omega)
    · obtain ⟨m', q1, q2, q3, q4⟩ := ord_no hO hδ hle hsn c (fun l t => hcg s l t hsn) Lt 0 m (by omega) hm hmn h
      rw [q4, ← ldr_n c]
      exact ih (s + 1) m' f (by omega) q1 q2 q3 (by rw [ldr_n c]; exact hf)
theorem nout_ldr (hn : 1 ≤ n) (hO : ord n Lt δ) (hδ : ∀ s l b, s < n → l < Lt → δ s l = some b → b < n) (hle : ∀ x, ρ x ≤ x) (hid : ∀ x, ρ (ρ x) = ρ x) (hcg : ∀ s l t, s < n → l < Lt → δ s l = some t → ∃ t', δ (ρ s) l = some t' ∧ ρ t' = ρ t) : nout Lt δ ρ (n + 1) 0 [0] = ldr ρ n := by
  have r0 : ρ 0 = 0 := Nat.le_zero.mp (hle 0)
  have e : ldr ρ 1 = [0] := by rw [ldr_y r0]; rfl
  have key := ord_nout hO hδ hle hid hcg n 0 1 (n + 1) (by omega) (by omega) hn (fun s' l' t _ z => by unfold bef at z; omega) (by omega)
  rw [e] at key
  exact key
end OR
section BO
variable (W : Nat → Int32) (N Lt : Nat)
/-- what is led to from places before (s, l) is among the sets -/
def clS (S : List Int32) (s l : Nat) : Prop := ∀ (s' l' : Nat) (x : Int32), l' < Lt → bef s' l' s l → S[s']? = some x → rch W l' x N = 0 ∨ rch W l' x N ∈ S
/-- each set but the first has its place; what is led to before that place stands before it -/
def orS (S : List Int32) : Prop := ∀ (k : Nat) (y : Int32), 0 < k → S[k]? = some y → ∃ (s : Nat) (x : Int32) (l : Nat), s < k ∧ l < Lt ∧ S[s]? = some x ∧ y ≠ 0 ∧ rch W l x N = y ∧ ∀ (s' l' : Nat) (x' : Int32), l' < Lt → bef s' l' s l → S[s']? = some x' → rch W l' x' N = 0 ∨ ∃ j : Nat, j < k ∧ S[j]? = some (rch W l' x' N)
theorem clS_next {S : List Int32} {s : Nat} (h : clS W N Lt S s Lt) : clS W N Lt S (s + 1) 0 := by
  intro s' l' x h1 h2 h3
  refine h s' l' x h1 ?_ h3
  rcases h2 with z | ⟨_, z⟩
  · by_cases e : s' = s
    · exact Or.inr ⟨e, h1⟩
    · exact Or.inl (by omega)
  · omega
theorem clS_step {S T : List Int32} {s l : Nat} {x : Int32} (h : clS W N Lt S s l) (hx : S[s]? = some x) (hr : rch W l x N = 0 ∨ rch W l x N ∈ S ++ T) : clS W N Lt (S ++ T) s (l + 1) := by
  intro s' l' y h1 h2 h3
  have hs : s < S.length := (List.getElem?_eq_some_iff.mp hx).1
  have hs' : s' < S.length := by unfold bef at h2; omega
  rw [List.getElem?_append_left hs'] at h3
  by_cases e : s' = s ∧ l' = l
  · obtain ⟨rfl, rfl⟩ := e
    rw [hx] at h3
    cases h3
    exact hr
  · rcases h s' l' y h1 (by unfold bef at h2 ⊢; omega) h3 with z | z
    · exact Or.inl z
    · exact Or.inr (List.mem_append_left _ z)
theorem orS_app {S : List Int32} {s l : Nat} {x : Int32} (h : orS W N Lt S) (hc : clS W N Lt S s l) (hx : S[s]? = some x) (hl : l < Lt) (h0 : rch W l x N ≠ 0) : orS W N Lt (S ++ [rch W l x N]) := by
  have hs : s < S.length := (List.getElem?_eq_some_iff.mp hx).1
  intro k y hk hy
  by_cases hks : k < S.length
  · rw [List.getElem?_append_left hks] at hy
    obtain ⟨s1, x1, l1, a1, a2, a3, a4, a5, a6⟩ := h k y hk hy
    refine ⟨s1, x1, l1, a1, a2, by rw [List.getElem?_append_left (by omega)]; exact a3, a4, a5, fun s' l' x' b1 b2 b3 => ?_⟩
    rw [List.getElem?_append_left (by unfold bef at b2; omega)] at b3
    rcases a6 s' l' x' b1 b2 b3 with z | ⟨j, z1, z2⟩
    · exact Or.inl z
    · exact Or.inr ⟨j, z1, by rw [List.getElem?_append_left (by omega)]; exact z2⟩
  · have hks2 : k < (S ++ [rch W l x N]).length := (List.getElem?_eq_some_iff.mp hy).1
    have : k = S.length := by simp at hks2; omega
    subst this
    rw [List.getElem?_append_right (Nat.le_refl _)] at hy
    simp at hy
    refine ⟨s, x, l, hs, hl, by rw [List.getElem?_append_left hs]; exact hx, by rw [← hy]; exact h0, hy, fun s' l' x' b1 b2 b3 => ?_⟩
    rw [List.getElem?_append_left (by unfold bef at b2; omega)] at b3
    rcases hc s' l' x' b1 b2 b3 with z | z
    · exact Or.inl z
    · obtain ⟨j, hj⟩ := List.getElem?_of_mem z
      have hjl : j < S.length := (List.getElem?_eq_some_iff.mp hj).1
      exact Or.inr ⟨j, hjl, by rw [List.getElem?_append_left hjl]; exact hj⟩
theorem inn_ord {x : Int32} {s : Nat} : ∀ (d l : Nat) (S S' : List Int32), inn W N x d l S = some S' → l + d = Lt → S.length ≤ 120 → orS W N Lt S → clS W N Lt S s l → S[s]? = some x → orS W N Lt S' ∧ clS W N Lt S' (s + 1) 0 ∧ S'.length ≤ 120 ∧ S.length ≤ S'.length := by
  intro d
  induction d with
  | zero =>
    intro l S S' h hl h1 h2 h3 hx
    have : S' = S := (Option.some.inj h).symm
    subst this
    have : l = Lt := by omega
    subst this
    exact ⟨h2, clS_next W N l h3, h1, Nat.le_refl _⟩
  | succ d ih =>
    intro l S S' h hl h1 h2 h3 hx
    have g : (stp S (rch W l x N)).bind (inn W N x d (l + 1)) = some S' := h
    clear h
    cases hs : stp S (rch W l x N) with
    | none => rw [hs] at g; cases g
    | some S1 =>
      rw [hs] at g
      have h : inn W N x d (l + 1) S1 = some S' := g
      clear g
      rcases stp_spec hs h1 with ⟨e, c⟩ | ⟨e, c1, c2, c3⟩
      · subst e
        have k := clS_step W N Lt (T := []) h3 hx (by simpa using c)
        rw [List.append_nil] at k
        exact ih (l + 1) S1 S' h (by omega) h1 h2 k hx
      · subst e
        have hsl : s < S.length := (List.getElem?_eq_some_iff.mp hx).1
        have k := clS_step W N Lt (T := [rch W l x N]) h3 hx (Or.inr (by simp))
        obtain ⟨g1, g2, g3, g4⟩ := ih (l + 1) _ S' h (by omega) (by simp; omega) (orS_app W N Lt h2 h3 hx (by omega) c1) k (by rw [List.getElem?_append_left hsl]; exact hx)
        exact ⟨g1, g2, g3, by simp at g4; omega⟩
theorem bfs_ord : ∀ (f s : Nat) (S S' : List Int32), bfs W N Lt f s S = some S' → S.length ≤ 120 → orS W N Lt S → clS W N Lt S s 0 → orS W N Lt S' := by
  intro f
  induction f with
  | zero => intro s S S' h; cases h
  | succ f ih =>
    intro s S S' h h1 h2 h3
    cases hx : S[s]? with
    | none =>
      have e : bfs W N Lt (f + 1) s S = some S := by show (match S[s]? with | none => some S | some x => (inn W N x Lt 0 S).bind (bfs W N Lt f (s + 1))) = _; rw [hx]
      rw [e] at h
      have : S' = S := (Option.some.inj h).symm
      subst this
      exact h2
    | some x =>
      have e : bfs W N Lt (f + 1) s S = (inn W N x Lt 0 S).bind (bfs W N Lt f (s + 1)) := by show (match S[s]? with | none => some S | some x => (inn W N x Lt 0 S).bind (bfs W N Lt f (s + 1))) = _; rw [hx]
      rw [e] at h
      cases hi : inn W N x Lt 0 S with
      | none => rw [hi] at h; cases h
      | some S1 =>
        rw [hi] at h
        have h : bfs W N Lt f (s + 1) S1 = some S' := h
        obtain ⟨g1, g2, g3, _⟩ := inn_ord W N Lt Lt 0 S S1 hi (by omega) h1 h2 h3 hx
        exact ih (s + 1) S1 S' h g3 g1 g2
end BO
