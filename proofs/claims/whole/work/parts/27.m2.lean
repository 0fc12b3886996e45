/-! MATHEMATICS 2: places in a list; the sets, in the order in which they are found; the numbers of the states. -/
def ixl {α : Type} [DecidableEq α] : List α → α → Nat
  | [], _ => 0
  | a :: t, r => if a = r then 0 else ixl t r + 1
theorem ixl_le {α : Type} [DecidableEq α] (S : List α) (r : α) : ixl S r ≤ S.length := by
  induction S with
  | nil => exact Nat.le_refl 0
  | cons a t ih =>
    show (if a = r then 0 else ixl t r + 1) ≤ t.length + 1
    split <;> omega
theorem ixl_lt {α : Type} [DecidableEq α] {S : List α} {r : α} (h : r ∈ S) : ixl S r < S.length := by
  induction S with
  | nil => cases h
  | cons a t ih =>
    show (if a = r then 0 else ixl t r + 1) < t.length + 1
    split
    · omega
    · rename_i hne
      rcases List.mem_cons.mp h with e | e
      · exact absurd e.symm hne
      · have := ih e
        omega
theorem ixl_get {α : Type} [DecidableEq α] {S : List α} {r : α} (h : r ∈ S) : S[ixl S r]? = some r := by
  induction S with
  | nil => cases h
  | cons a t ih =>
    by_cases e : a = r
    · have : ixl (a :: t) r = 0 := by show (if a = r then 0 else ixl t r + 1) = 0; rw [if_pos e]
      rw [this, e]; rfl
    · have e2 : ixl (a :: t) r = ixl t r + 1 := by show (if a = r then 0 else ixl t r + 1) = _; rw [if_neg e]
      rw [e2]
      rcases List.mem_cons.mp h with q | q
      · exact absurd q.symm e
      · simpa using ih q
theorem ixl_first {α : Type} [DecidableEq α] {r : α} : ∀ {S : List α} {i : Nat}, (∀ j, j < i → S[j]? ≠ some r) → S[i]? = some r → ixl S r = i := by
  intro S
  induction S with
  | nil => intro i _ h; simp at h
  | cons a t ih =>
    intro i h1 h2
    show (if a = r then 0 else ixl t r + 1) = i
    cases i with
    | zero =>
      simp at h2
      rw [if_pos h2]
    | succ i =>
      have : a ≠ r := fun e => h1 0 (by omega) (by simp [e])
      rw [if_neg this, ih (i := i) (fun j hj => by simpa using h1 (j + 1) (by omega)) (by simpa using h2)]
theorem ixl_app {α : Type} [DecidableEq α] {S : List α} {r : α} (T : List α) (h : r ∈ S) : ixl (S ++ T) r = ixl S r := by
  induction S with
  | nil => cases h
  | cons a t ih =>
    show (if a = r then 0 else ixl (t ++ T) r + 1) = (if a = r then 0 else ixl t r + 1)
    by_cases e : a = r
    · rw [if_pos e, if_pos e]
    · rw [if_neg e, if_neg e]
      rcases List.mem_cons.mp h with q | q
      · exact absurd q.symm e
      · rw [ih q]
theorem ixl_new {α : Type} [DecidableEq α] {S : List α} {r : α} (h : r ∉ S) : ixl (S ++ [r]) r = S.length := by
  induction S with
  | nil => show (if r = r then 0 else _) = 0; rw [if_pos rfl]
  | cons a t ih =>
    show (if a = r then 0 else ixl (t ++ [r]) r + 1) = t.length + 1
    have : a ≠ r := fun e => h (by rw [e]; exact List.mem_cons_self)
    rw [if_neg this, ih (fun q => h (List.mem_cons_of_mem _ q))]
theorem nodup_at {α : Type} : ∀ {S : List α}, S.Nodup → ∀ {i j : Nat} {r : α}, S[i]? = some r → S[j]? = some r → i = j := by
  intro S
  induction S with
  | nil => intro _ i j r h; simp at h
  | cons a t ih =>
    intro hn i j r h1 h2
    obtain ⟨ha, ht⟩ := List.nodup_cons.mp hn
    cases i with
    | zero =>
      cases j with
      | zero => rfl
      | succ j =>
        simp at h1 h2
        exact absurd (List.mem_of_getElem? h2) (by rw [← h1]; exact ha)
    | succ i =>
      cases j with
      | zero =>
        simp at h1 h2
        exact absurd (List.mem_of_getElem? h1) (by rw [← h2]; exact ha)
      | succ j =>
        simp at h1 h2
        rw [ih ht h1 h2]
theorem ixl_nodup {α : Type} [DecidableEq α] {S : List α} (hn : S.Nodup) {i : Nat} {r : α} (h : S[i]? = some r) : ixl S r = i := nodup_at hn (ixl_get (List.mem_of_getElem? h)) h
/-- a Nodup list of numbers below n isn't longer than n -/
theorem nodup_len : ∀ (n : Nat) (Q : List Nat), Q.Nodup → (∀ x, x ∈ Q → x < n) → Q.length ≤ n := by
  intro n
  induction n with
  | zero =>
    intro Q _ h
    cases Q with
    | nil => exact Nat.le_refl 0
    | cons a t => exact absurd (h a List.mem_cons_self) (by omega)
  | succ n ih =>
    intro Q hn h
    by_cases hm : n ∈ Q
    · have h1 := ih (Q.erase n) (hn.erase n) (fun x hx => by
        have a := h x (List.mem_of_mem_erase hx)
        have b : x ≠ n := fun e => by
          rw [e] at hx
          exact (hn.mem_erase_iff.mp hx).1 rfl
        omega)
      rw [List.length_erase_of_mem hm] at h1
      omega
    · exact Nat.le_succ_of_le (ih Q hn (fun x hx => by
        have a := h x hx
        have b : x ≠ n := fun e => hm (by rw [← e]; exact hx)
        omega))
/-- a row that begins with a list -/
def arr (f : Nat → Int32) (S : List Int32) : Prop := ∀ i, i < S.length → S[i]? = some (f i)
theorem arr_app {f : Nat → Int32} {S : List Int32} (h : arr f S) (r : Int32) : arr (upd f S.length r) (S ++ [r]) := by
  intro i hi
  rw [List.length_append] at hi
  simp only [List.length_singleton] at hi
  by_cases e : i < S.length
  · rw [List.getElem?_append_left e, h i e]
    show some (f i) = some (if i = S.length then r else f i)
    rw [if_neg (by omega)]
  · have e2 : i = S.length := by omega
    subst e2
    rw [List.getElem?_append_right (Nat.le_refl _)]
    show _ = some (if S.length = S.length then r else f S.length)
    rw [if_pos rfl]
    simp
theorem arr_of {f g : Nat → Int32} {S : List Int32} (h : arr f S) (hg : ∀ i, i < S.length → g i = f i) : arr g S := fun i hi => by rw [hg i hi]; exact h i hi
/-- where letter l leads from the set x, of nodes below k -/
def rch (W : Nat → Int32) (l : Nat) (x : Int32) : Nat → Int32
  | 0 => 0
  | k + 1 => if bt x k = true then rch W l x k ||| W (24 * l + k) else rch W l x k
def stp (S : List Int32) (r : Int32) : Option (List Int32) := if r = 0 ∨ r ∈ S then some S else if S.length = 120 then none else some (S ++ [r])
section BF
variable (W : Nat → Int32) (N Lt : Nat)
def inn (x : Int32) : Nat → Nat → List Int32 → Option (List Int32)
  | 0, _, S => some S
  | d + 1, l, S => (stp S (rch W l x N)).bind (inn x d (l + 1))
def bfs : Nat → Nat → List Int32 → Option (List Int32)
  | 0, _, _ => none
  | f + 1, s, S => match S[s]? with
    | none => some S
    | some x => (inn W N x Lt 0 S).bind (bfs f (s + 1))
theorem stp_spec {S S' : List Int32} {r : Int32} (h : stp S r = some S') (hl : S.length ≤ 120) : (S' = S ∧ (r = 0 ∨ r ∈ S)) ∨ (S' = S ++ [r] ∧ r ≠ 0 ∧ r ∉ S ∧ S.length < 120) := by
  unfold stp at h
  by_cases c : r = 0 ∨ r ∈ S
  · rw [if_pos c] at h
    exact Or.inl ⟨(Option.some.inj h).symm, c⟩
  · rw [if_neg c] at h
    by_cases c2 : S.length = 120
    · rw [if_pos c2] at h; cases h
    · rw [if_neg c2] at h
      exact Or.inr ⟨(Option.some.inj h).symm, fun e => c (Or.inl e), fun e => c (Or.inr e), by omega⟩
/-- what a list of sets is like as it grows: each but the first is led to from one before it -/
def okS (S : List Int32) : Prop := S.Nodup ∧ 1 ≤ S.length ∧ S.length ≤ 120 ∧ ∀ (k : Nat) (y : Int32), 0 < k → S[k]? = some y → ∃ (s : Nat) (x : Int32) (l : Nat), s < k ∧ l < Lt ∧ S[s]? = some x ∧ y ≠ 0 ∧ rch W l x N = y
theorem nodup_snoc {S : List Int32} {r : Int32} (h : S.Nodup) (hr : r ∉ S) : (S ++ [r]).Nodup := by
  rw [List.nodup_append]
  refine ⟨h, by simp, ?_⟩
  intro a ha b hb e
  simp at hb
  exact hr (by rw [← hb, ← e]; exact ha)
theorem inn_spec {x : Int32} {s : Nat} : ∀ (d l : Nat) (S S' : List Int32), inn W N x d l S = some S' → l + d ≤ Lt → okS W N Lt S → S[s]? = some x → (∃ T, S' = S ++ T) ∧ okS W N Lt S' ∧ ∀ l', l ≤ l' → l' < l + d → rch W l' x N = 0 ∨ rch W l' x N ∈ S' := by
  intro d
  induction d with
  | zero =>
    intro l S S' h _ hok _
    have : S' = S := (Option.some.inj h).symm
    subst this
    exact ⟨⟨[], by simp⟩, hok, fun l' a b => by omega⟩
  | succ d ih =>
    intro l S S' h hl hok hx
    have h : (stp S (rch W l x N)).bind (inn W N x d (l + 1)) = some S' := h
    cases hs : stp S (rch W l x N) with
    | none => rw [hs] at h; cases h
    | some S1 =>
      rw [hs] at h
      have h : inn W N x d (l + 1) S1 = some S' := h
      have ⟨h1, h2, h3⟩ : (∃ T, S1 = S ++ T) ∧ okS W N Lt S1 ∧ (rch W l x N = 0 ∨ rch W l x N ∈ S1) := by
        rcases stp_spec hs hok.2.2.1 with ⟨e, c⟩ | ⟨e, c1, c2, c3⟩
        · subst e; exact ⟨⟨[], by simp⟩, hok, c⟩
        · subst e
          refine ⟨⟨_, rfl⟩, ⟨nodup_snoc hok.1 c2, by simp, by simp; omega, ?_⟩, Or.inr (by simp)⟩
          intro k y hk hy
          by_cases hks : k < S.length
          · rw [List.getElem?_append_left hks] at hy
            obtain ⟨s', x', l', a1, a2, a3, a4⟩ := hok.2.2.2 k y hk hy
            exact ⟨s', x', l', a1, a2, by rw [List.getElem?_append_left (by omega)]; exact a3, a4⟩
          · have hks2 : k < (S ++ [rch W l x N]).length := (List.getElem?_eq_some_iff.mp hy).1
            have : k = S.length := by simp at hks2; omega
            subst this
            rw [List.getElem?_append_right (Nat.le_refl _)] at hy
            simp at hy
            have hsl : s < S.length := (List.getElem?_eq_some_iff.mp hx).1
            exact ⟨s, x, l, hsl, by omega, by rw [List.getElem?_append_left hsl]; exact hx, by rw [← hy]; exact c1, hy⟩
      obtain ⟨T, hT⟩ := h1
      have hsl : s < S.length := (List.getElem?_eq_some_iff.mp hx).1
      obtain ⟨⟨T', hT'⟩, g2, g3⟩ := ih (l + 1) S1 S' h (by omega) h2 (by rw [hT, List.getElem?_append_left hsl]; exact hx)
      refine ⟨⟨T ++ T', by rw [hT', hT, List.append_assoc]⟩, g2, fun l' a b => ?_⟩
      by_cases e : l' = l
      · subst e
        rcases h3 with z | z
        · exact Or.inl z
        · exact Or.inr (by rw [hT']; exact List.mem_append_left _ z)
      · exact g3 l' (by omega) (by omega)
theorem bfs_spec : ∀ (f s : Nat) (S S' : List Int32), bfs W N Lt f s S = some S' → okS W N Lt S → (∀ (k : Nat) (x : Int32), k < s → S[k]? = some x → ∀ l, l < Lt → rch W l x N = 0 ∨ rch W l x N ∈ S) → s ≤ S.length → (∃ T, S' = S ++ T) ∧ okS W N Lt S' ∧ ∀ (k : Nat) (x : Int32), S'[k]? = some x → ∀ l, l < Lt → rch W l x N = 0 ∨ rch W l x N ∈ S' := by
  intro f
  induction f with
  | zero => intro s S S' h; cases h
  | succ f ih =>
    intro s S S' h hok hc hs
    cases hx : S[s]? with
    | none =>
      have e : bfs W N Lt (f + 1) s S = some S := by show (match S[s]? with | none => some S | some x => (inn W N x Lt 0 S).bind (bfs W N Lt f (s + 1))) = _; rw [hx]
      rw [e] at h
      have : S' = S := (Option.some.inj h).symm
      subst this
      refine ⟨⟨[], by simp⟩, hok, fun k x hk l hl => hc k x ?_ hk l hl⟩
      have h1 := List.getElem?_eq_none_iff.mp hx
      have h2 := (List.getElem?_eq_some_iff.mp hk).1
      omega
    | some x =>
      have e : bfs W N Lt (f + 1) s S = (inn W N x Lt 0 S).bind (bfs W N Lt f (s + 1)) := by show (match S[s]? with | none => some S | some x => (inn W N x Lt 0 S).bind (bfs W N Lt f (s + 1))) = _; rw [hx]
      rw [e] at h
      cases hi : inn W N x Lt 0 S with
      | none => rw [hi] at h; cases h
      | some S1 =>
        rw [hi] at h
        have h : bfs W N Lt f (s + 1) S1 = some S' := h
        obtain ⟨⟨T, hT⟩, h2, h3⟩ := inn_spec W N Lt Lt 0 S S1 hi (by omega) hok hx
        have hsl : s < S.length := (List.getElem?_eq_some_iff.mp hx).1
        have hlen : S.length ≤ S1.length := by rw [hT]; simp
        obtain ⟨⟨T', hT'⟩, g2, g3⟩ := ih (s + 1) S1 S' h h2 (fun k y hk hy l hl => by
          by_cases e : k = s
          · subst e
            rw [hT, List.getElem?_append_left hsl, hx] at hy
            cases hy
            exact h3 l (by omega) (by omega)
          · have hks : k < S.length := by omega
            rw [hT, List.getElem?_append_left hks] at hy
            rcases hc k y (by omega) hy l hl with z | z
            · exact Or.inl z
            · exact Or.inr (by rw [hT]; exact List.mem_append_left _ z)) (by omega)
        exact ⟨⟨T ++ T', by rw [hT', hT, List.append_assoc]⟩, g2, g3⟩
end BF
/-- the numbers of states: leaders in the order in which they are found -/
def nst (Q : List Nat) (x : Nat) : List Nat := if x ∈ Q then Q else Q ++ [x]
section NU
variable (Lt : Nat) (δ : Nat → Nat → Option Nat) (ρ : Nat → Nat)
def nin (a : Nat) : Nat → Nat → List Nat → List Nat
  | 0, _, Q => Q
  | d + 1, l, Q => nin a d (l + 1) (match δ a l with
    | none => Q
    | some t => nst Q (ρ t))
def nout : Nat → Nat → List Nat → List Nat
  | 0, _, Q => Q
  | f + 1, p, Q => match Q[p]? with
    | none => Q
    | some a => nout f (p + 1) (nin δ ρ a Lt 0 Q)
def okQ (n : Nat) (Q : List Nat) : Prop := Q.Nodup ∧ 1 ≤ Q.length ∧ (∀ x, x ∈ Q → x < n ∧ ρ x = x)
theorem nst_spec {n x : Nat} {Q : List Nat} (h : okQ ρ n Q) (hx : x < n) (hr : ρ x = x) : okQ ρ n (nst Q x) ∧ (∃ T, nst Q x = Q ++ T) ∧ x ∈ nst Q x := by
  unfold nst
  by_cases c : x ∈ Q
  · rw [if_pos c]
    exact ⟨h, ⟨[], by simp⟩, c⟩
  · rw [if_neg c]
    refine ⟨⟨?_, by simp, ?_⟩, ⟨[x], rfl⟩, by simp⟩
    · rw [List.nodup_append]
      refine ⟨h.1, by simp, ?_⟩
      intro a ha b hb e
      simp at hb
      exact c (by rw [← hb, ← e]; exact ha)
    · intro y hy
      rcases List.mem_append.mp hy with z | z
      · exact h.2.2 y z
      · simp at z; subst z; exact ⟨hx, hr⟩
theorem nin_spec {n a : Nat} (hδ : ∀ s l b, s < n → l < Lt → δ s l = some b → b < n) (hρ : ∀ x, x < n → ρ x < n ∧ ρ (ρ x) = ρ x) (ha : a < n) : ∀ (d l : Nat) (Q : List Nat), l + d ≤ Lt → okQ ρ n Q → okQ ρ n (nin δ ρ a d l Q) ∧ (∃ T, nin δ ρ a d l Q = Q ++ T) ∧ ∀ l', l ≤ l' → l' < l + d → ∀ t, δ a l' = some t → ρ t ∈ nin δ ρ a d l Q := by
  intro d
  induction d with
  | zero => intro l Q _ h; exact ⟨h, ⟨[], by simp [nin]⟩, fun l' x y => by omega⟩
  | succ d ih =>
    intro l Q hl h
    have e : nin δ ρ a (d + 1) l Q = nin δ ρ a d (l + 1) (match δ a l with | none => Q | some t => nst Q (ρ t)) := rfl
    rw [e]
    cases hd : δ a l with
    | none =>
      obtain ⟨g1, g2, g3⟩ := ih (l + 1) Q (by omega) h
      refine ⟨g1, g2, fun l' x y t ht => ?_⟩
      by_cases z : l' = l
      · subst z; rw [hd] at ht; cases ht
      · exact g3 l' (by omega) (by omega) t ht
    | some b =>
      have hb := hδ a l b ha (by omega) hd
      obtain ⟨k1, ⟨T, k2⟩, k3⟩ := nst_spec ρ h (hρ b hb).1 (hρ b hb).2
      obtain ⟨g1, ⟨T', g2⟩, g3⟩ := ih (l + 1) (nst Q (ρ b)) (by omega) k1
      refine ⟨g1, ⟨T ++ T', ?_⟩, fun l' x y t ht => ?_⟩
      · show nin δ ρ a d (l + 1) (nst Q (ρ b)) = _
        rw [g2, k2, List.append_assoc]
      · by_cases z : l' = l
        · subst z
          rw [hd] at ht
          cases ht
          show ρ b ∈ nin δ ρ a d (l' + 1) (nst Q (ρ b))
          rw [g2]
          exact List.mem_append_left _ k3
        · exact g3 l' (by omega) (by omega) t ht
theorem nout_spec {n : Nat} (hδ : ∀ s l b, s < n → l < Lt → δ s l = some b → b < n) (hρ : ∀ x, x < n → ρ x < n ∧ ρ (ρ x) = ρ x) : ∀ (f p : Nat) (Q : List Nat), n < f + p → okQ ρ n Q → p ≤ Q.length → (∀ (k x : Nat), k < p → Q[k]? = some x → ∀ l, l < Lt → ∀ t, δ x l = some t → ρ t ∈ Q) → okQ ρ n (nout Lt δ ρ f p Q) ∧ (∃ T, nout Lt δ ρ f p Q = Q ++ T) ∧ ∀ x, x ∈ nout Lt δ ρ f p Q → ∀ l, l < Lt → ∀ t, δ x l = some t → ρ t ∈ nout Lt δ ρ f p Q := by
  intro f
  induction f with
  | zero =>
    intro p Q hf h hp
    have := nodup_len n Q h.1 (fun x hx => (h.2.2 x hx).1)
    omega
  | succ f ih =>
    intro p Q hf h hp hc
    cases hx : Q[p]? with
    | none =>
      have e : nout Lt δ ρ (f + 1) p Q = Q := by show (match Q[p]? with | none => Q | some a => nout Lt δ ρ f (p + 1) (nin δ ρ a Lt 0 Q)) = _; rw [hx]
      rw [e]
      refine ⟨h, ⟨[], by simp⟩, fun x hx2 l hl t ht => ?_⟩
      obtain ⟨k, hk⟩ := List.getElem?_of_mem hx2
      have h1 := List.getElem?_eq_none_iff.mp hx
      have h2 := (List.getElem?_eq_some_iff.mp hk).1
      exact hc k x (by omega) hk l hl t ht
    | some a =>
      have e : nout Lt δ ρ (f + 1) p Q = nout Lt δ ρ f (p + 1) (nin δ ρ a Lt 0 Q) := by show (match Q[p]? with | none => Q | some a => nout Lt δ ρ f (p + 1) (nin δ ρ a Lt 0 Q)) = _; rw [hx]
      rw [e]
      have hpl : p < Q.length := (List.getElem?_eq_some_iff.mp hx).1
      have ha := (h.2.2 a (List.mem_of_getElem? hx)).1
      obtain ⟨k1, ⟨T, k2⟩, k3⟩ := nin_spec Lt δ ρ hδ hρ ha Lt 0 Q (by omega) h
      have hlen : Q.length ≤ (nin δ ρ a Lt 0 Q).length := by rw [k2]; simp
      obtain ⟨g1, ⟨T', g2⟩, g3⟩ := ih (p + 1) (nin δ ρ a Lt 0 Q) (by omega) k1 (by omega) (fun k x hk hxk l hl t ht => by
        by_cases z : k = p
        · subst z
          rw [k2, List.getElem?_append_left hpl, hx] at hxk
          cases hxk
          exact k3 l (by omega) (by omega) t ht
        · have hkl : k < Q.length := by omega
          rw [k2, List.getElem?_append_left hkl] at hxk
          rw [k2]
          exact List.mem_append_left _ (hc k x (by omega) hxk l hl t ht))
      refine ⟨g1, ⟨T ++ T', by rw [g2, k2, List.append_assoc]⟩, g3⟩
end NU
