/-! MATHEMATICS 1: sets told apart by rows of letters. δ s l: where letter l leads from set s; eqv k s t: no row of at most k letters tells s and t apart. -/
def sim (e : Nat → Nat → Prop) : Option Nat → Option Nat → Prop
  | none, none => True
  | some a, some b => e a b
  | _, _ => False
theorem sim_mono {e e' : Nat → Nat → Prop} (h : ∀ a b, e a b → e' a b) : ∀ {x y : Option Nat}, sim e x y → sim e' x y := by
  intro x y hs
  cases x <;> cases y <;> first | exact hs | exact h _ _ hs
theorem sim_symm {e : Nat → Nat → Prop} (h : ∀ a b, e a b → e b a) : ∀ {x y : Option Nat}, sim e x y → sim e y x := by
  intro x y hs
  cases x <;> cases y <;> first | exact hs | exact h _ _ hs
theorem sim_trans {e : Nat → Nat → Prop} (h : ∀ a b c, e a b → e b c → e a c) : ∀ {x y z : Option Nat}, sim e x y → sim e y z → sim e x z := by
  intro x y z hs ht
  cases x <;> cases y <;> cases z <;> first | exact trivial | exact False.elim hs | exact False.elim ht | exact h _ _ _ hs ht
section MQ
variable (Lt : Nat) (δ : Nat → Nat → Option Nat)
def eqv : Nat → Nat → Nat → Prop
  | 0, _, _ => True
  | k + 1, s, t => eqv k s t ∧ ∀ l, l < Lt → sim (eqv k) (δ s l) (δ t l)
theorem eqv_refl : ∀ (k s : Nat), eqv Lt δ k s s := by
  intro k
  induction k with
  | zero => intro s; exact trivial
  | succ k ih =>
    intro s
    refine ⟨ih s, fun l _ => ?_⟩
    cases δ s l with
    | none => exact trivial
    | some a => exact ih a
theorem eqv_symm : ∀ (k : Nat) {s t : Nat}, eqv Lt δ k s t → eqv Lt δ k t s := by
  intro k
  induction k with
  | zero => intro s t _; exact trivial
  | succ k ih =>
    intro s t h
    exact ⟨ih h.1, fun l hl => sim_symm (e := eqv Lt δ k) (fun a b k1 => ih k1) (h.2 l hl)⟩
theorem eqv_trans : ∀ (k : Nat) {s t u : Nat}, eqv Lt δ k s t → eqv Lt δ k t u → eqv Lt δ k s u := by
  intro k
  induction k with
  | zero => intro s t u _ _; exact trivial
  | succ k ih =>
    intro s t u h h'
    exact ⟨ih h.1 h'.1, fun l hl => sim_trans (e := eqv Lt δ k) (fun a b c k1 k2 => ih k1 k2) (h.2 l hl) (h'.2 l hl)⟩
theorem eqv_le : ∀ {j k : Nat}, j ≤ k → ∀ {s t : Nat}, eqv Lt δ k s t → eqv Lt δ j s t := by
  intro j k hjk
  induction hjk with
  | refl => intro s t h; exact h
  | step _ ih => intro s t h; exact ih h.1
/-- the length of the least row that tells s and t apart; 0: none does -/
noncomputable def dst (s t : Nat) : Nat := by
  classical exact if h : ∃ k, ¬ eqv Lt δ k s t then (pk_least _ h).choose else 0
theorem dst_0 {s t : Nat} (h : ∀ k, eqv Lt δ k s t) : dst Lt δ s t = 0 := by
  unfold dst
  rw [dif_neg]
  rintro ⟨k, hk⟩
  exact hk (h k)
theorem dst_n {s t k : Nat} (h : ¬ eqv Lt δ k s t) : 0 < dst Lt δ s t ∧ dst Lt δ s t ≤ k ∧ ¬ eqv Lt δ (dst Lt δ s t) s t ∧ ∀ j, j < dst Lt δ s t → eqv Lt δ j s t := by
  have hx : ∃ k, ¬ eqv Lt δ k s t := ⟨k, h⟩
  have e : dst Lt δ s t = (pk_least _ hx).choose := by
    unfold dst
    rw [dif_pos hx]
  obtain ⟨h1, h2⟩ := (pk_least _ hx).choose_spec
  rw [← e] at h1 h2
  refine ⟨?_, ?_, h1, fun j hj => Classical.not_not.mp (h2 j hj)⟩
  · rcases Nat.eq_zero_or_pos (dst Lt δ s t) with z | z
    · rw [z] at h1
      exact absurd trivial h1
    · exact z
  · rcases Nat.lt_or_ge k (dst Lt δ s t) with z | z
    · exact absurd h (h2 k z)
    · exact z
theorem dst_is {s t r : Nat} (h1 : eqv Lt δ r s t) (h2 : ¬ eqv Lt δ (r + 1) s t) : dst Lt δ s t = r + 1 := by
  obtain ⟨_, a2, a3, _⟩ := dst_n Lt δ h2
  rcases Nat.lt_or_ge r (dst Lt δ s t) with z | z
  · omega
  · exact absurd (eqv_le Lt δ z h1) a3
theorem dst_iff {s t r : Nat} : (0 < dst Lt δ s t ∧ dst Lt δ s t ≤ r) ↔ ¬ eqv Lt δ r s t := by
  constructor
  · rintro ⟨h1, h2⟩ h
    by_cases hx : ∃ k, ¬ eqv Lt δ k s t
    · obtain ⟨k, hk⟩ := hx
      obtain ⟨_, _, a3, _⟩ := dst_n Lt δ hk
      exact a3 (eqv_le Lt δ h2 h)
    · have := dst_0 Lt δ (s := s) (t := t) (fun k => Classical.not_not.mp (fun z => hx ⟨k, z⟩))
      omega
  · intro h
    exact ⟨(dst_n Lt δ h).1, (dst_n Lt δ h).2.1⟩
theorem dst_inv {s t r : Nat} (h : dst Lt δ s t = r + 1) : eqv Lt δ r s t ∧ ¬ eqv Lt δ (r + 1) s t := by
  have h1 : ¬ eqv Lt δ (r + 1) s t := (dst_iff Lt δ).mp ⟨by omega, by omega⟩
  refine ⟨?_, h1⟩
  rcases Classical.em (eqv Lt δ r s t) with z | z
  · exact z
  · have := (dst_iff Lt δ).mpr z
    omega
theorem dst_z {s t : Nat} (h : dst Lt δ s t = 0) (k : Nat) : eqv Lt δ k s t := by
  rcases Classical.em (eqv Lt δ k s t) with z | z
  · exact z
  · have := (dst_iff Lt δ).mpr z
    omega
theorem dst_self (s : Nat) : dst Lt δ s s = 0 := dst_0 Lt δ (fun k => eqv_refl Lt δ k s)
/-- the same rows tell apart: the same length -/
theorem dst_same {s t u v : Nat} (h : ∀ k, eqv Lt δ k s t ↔ eqv Lt δ k u v) : dst Lt δ s t = dst Lt δ u v := by
  rcases Nat.eq_zero_or_pos (dst Lt δ s t) with z | z
  · rw [z]
    exact (dst_0 Lt δ (fun k => (h k).mp (dst_z Lt δ z k))).symm
  · obtain ⟨r, hr⟩ : ∃ r, dst Lt δ s t = r + 1 := ⟨dst Lt δ s t - 1, by omega⟩
    obtain ⟨h1, h2⟩ := dst_inv Lt δ hr
    rw [hr]
    exact (dst_is Lt δ ((h r).mp h1) (fun q => h2 ((h (r + 1)).mpr q))).symm
theorem dst_symm (s t : Nat) : dst Lt δ s t = dst Lt δ t s := dst_same Lt δ (fun k => ⟨eqv_symm Lt δ k, eqv_symm Lt δ k⟩)
/-- f and x are alike up to r, o is not: o is told apart from both by the same length -/
theorem dst_near {o f x r : Nat} (h : eqv Lt δ r f x) (h2 : ¬ eqv Lt δ r o f) : dst Lt δ o x = dst Lt δ o f := by
  obtain ⟨k, hk⟩ : ∃ k, dst Lt δ o f = k + 1 := ⟨dst Lt δ o f - 1, by have := (dst_n Lt δ h2).1; omega⟩
  have hle : k + 1 ≤ r := by have := (dst_n Lt δ h2).2.1; omega
  obtain ⟨a1, a2⟩ := dst_inv Lt δ hk
  rw [hk]
  refine dst_is Lt δ (eqv_trans Lt δ k a1 (eqv_le Lt δ (by omega) h)) (fun q => a2 ?_)
  exact eqv_trans Lt δ (k + 1) q (eqv_symm Lt δ _ (eqv_le Lt δ hle h))
/-- the least set that is alike up to r -/
noncomputable def ld (r s : Nat) : Nat := (pk_least (fun t => eqv Lt δ r t s) ⟨s, eqv_refl Lt δ r s⟩).choose
theorem ld_eqv (r s : Nat) : eqv Lt δ r (ld Lt δ r s) s := (pk_least (fun t => eqv Lt δ r t s) ⟨s, eqv_refl Lt δ r s⟩).choose_spec.1
theorem ld_min {r s j : Nat} (h : j < ld Lt δ r s) : ¬ eqv Lt δ r j s := (pk_least (fun t => eqv Lt δ r t s) ⟨s, eqv_refl Lt δ r s⟩).choose_spec.2 j h
theorem ld_le (r s : Nat) : ld Lt δ r s ≤ s := by
  rcases Nat.lt_or_ge s (ld Lt δ r s) with z | z
  · exact absurd (eqv_refl Lt δ r s) (ld_min Lt δ z)
  · exact z
theorem ld_lei {r s t : Nat} (h : eqv Lt δ r t s) : ld Lt δ r s ≤ t := by
  rcases Nat.lt_or_ge t (ld Lt δ r s) with z | z
  · exact absurd h (ld_min Lt δ z)
  · exact z
theorem ld_iff {r s t : Nat} : ld Lt δ r s = ld Lt δ r t ↔ eqv Lt δ r s t := by
  constructor
  · intro h
    have a := ld_eqv Lt δ r s
    rw [h] at a
    exact eqv_trans Lt δ r (eqv_symm Lt δ r a) (ld_eqv Lt δ r t)
  · intro h
    apply Nat.le_antisymm
    · exact ld_lei Lt δ (eqv_trans Lt δ r (ld_eqv Lt δ r t) (eqv_symm Lt δ r h))
    · exact ld_lei Lt δ (eqv_trans Lt δ r (ld_eqv Lt δ r s) h)
theorem ld_idem (r s : Nat) : ld Lt δ r (ld Lt δ r s) = ld Lt δ r s := (ld_iff Lt δ).mpr (ld_eqv Lt δ r s)
theorem ld_zero (s : Nat) : ld Lt δ 0 s = 0 := Nat.le_zero.mp (ld_lei Lt δ (t := 0) trivial)
theorem ld_keep {r s : Nat} (h : ld Lt δ r s = s) : ld Lt δ (r + 1) s = s := by
  apply Nat.le_antisymm (ld_le Lt δ _ _)
  have a := ld_lei Lt δ (ld_eqv Lt δ (r + 1) s).1
  omega
theorem sim_ld {r : Nat} : ∀ {x y : Option Nat}, sim (eqv Lt δ r) x y ↔ x.map (ld Lt δ r) = y.map (ld Lt δ r) := by
  intro x y
  cases x <;> cases y
  · exact ⟨fun _ => rfl, fun _ => trivial⟩
  · exact ⟨fun h => False.elim h, fun h => by simp at h⟩
  · exact ⟨fun h => False.elim h, fun h => by simp at h⟩
  · rename_i a b
    show eqv Lt δ r a b ↔ _
    simp only [Option.map_some, Option.some.injEq]
    exact (ld_iff Lt δ).symm
theorem eqv_step {r s t : Nat} : eqv Lt δ (r + 1) s t ↔ eqv Lt δ r s t ∧ ∀ l, l < Lt → (δ s l).map (ld Lt δ r) = (δ t l).map (ld Lt δ r) := by
  constructor
  · intro h
    exact ⟨h.1, fun l hl => (sim_ld Lt δ).mp (h.2 l hl)⟩
  · intro h
    exact ⟨h.1, fun l hl => (sim_ld Lt δ).mpr (h.2 l hl)⟩
/-- nothing more is told apart -/
def stb (n r : Nat) : Prop := ∀ s t, s < n → t < n → eqv Lt δ r s t → eqv Lt δ (r + 1) s t
theorem stb_all {n r : Nat} (hδ : ∀ s l a, s < n → l < Lt → δ s l = some a → a < n) (h : stb Lt δ n r) : ∀ k s t, s < n → t < n → eqv Lt δ r s t → eqv Lt δ k s t := by
  have key : ∀ j s t, s < n → t < n → eqv Lt δ r s t → eqv Lt δ (r + j) s t := by
    intro j
    induction j with
    | zero => intro s t _ _ e; exact e
    | succ j ih =>
      intro s t hs ht e
      refine ⟨ih s t hs ht e, fun l hl => ?_⟩
      have a := (h s t hs ht e).2 l hl
      cases ha : δ s l with
      | none =>
        cases hb : δ t l with
        | none => exact trivial
        | some b => rw [ha, hb] at a; exact False.elim a
      | some b =>
        cases hb : δ t l with
        | none => rw [ha, hb] at a; exact False.elim a
        | some c =>
          rw [ha, hb] at a
          exact ih b c (hδ s l b hs hl ha) (hδ t l c ht hl hb) a
  intro k s t hs ht e
  rcases Nat.le_total r k with z | z
  · have := key (k - r) s t hs ht e
    rwa [show r + (k - r) = k by omega] at this
  · exact eqv_le Lt δ z e
/-- where something more is told apart, a set becomes a leader -/
theorem nstb_new {n r : Nat} (h : ¬ stb Lt δ n r) : ∃ x, x < n ∧ ld Lt δ (r + 1) x = x ∧ ld Lt δ r x ≠ x := by
  have ⟨s, t, hs, ht, e, ne⟩ : ∃ s t, s < n ∧ t < n ∧ eqv Lt δ r s t ∧ ¬ eqv Lt δ (r + 1) s t := by
    apply Classical.byContradiction
    intro q
    apply h
    intro s t hs ht e
    apply Classical.byContradiction
    intro z
    exact q ⟨s, t, hs, ht, e, z⟩
  have a1 := ld_idem Lt δ (r + 1) s
  have b1 := ld_idem Lt δ (r + 1) t
  have hab : eqv Lt δ r (ld Lt δ (r + 1) s) (ld Lt δ (r + 1) t) := eqv_trans Lt δ r (ld_eqv Lt δ (r + 1) s).1 (eqv_trans Lt δ r e (eqv_symm Lt δ r (ld_eqv Lt δ (r + 1) t).1))
  have hl := (ld_iff Lt δ).mpr hab
  rcases Classical.em (ld Lt δ r (ld Lt δ (r + 1) s) = ld Lt δ (r + 1) s) with z | z
  · rcases Classical.em (ld Lt δ r (ld Lt δ (r + 1) t) = ld Lt δ (r + 1) t) with z' | z'
    · exact absurd ((ld_iff Lt δ).mp (z.symm.trans (hl.trans z'))) ne
    · exact ⟨_, Nat.lt_of_le_of_lt (ld_le Lt δ _ _) ht, b1, z'⟩
  · exact ⟨_, Nat.lt_of_le_of_lt (ld_le Lt δ _ _) hs, a1, z⟩
theorem new_nstb {n r x : Nat} (hx : x < n) (h1 : ld Lt δ (r + 1) x = x) (h2 : ld Lt δ r x ≠ x) : ¬ stb Lt δ n r := by
  intro h
  have hl : ld Lt δ r x < x := by have := ld_le Lt δ r x; omega
  have a := h (ld Lt δ r x) x (by omega) hx (ld_eqv Lt δ r x)
  have b := ld_lei Lt δ a
  omega
/-- how many leaders -/
noncomputable def nld (r : Nat) : Nat → Nat
  | 0 => 0
  | m + 1 => nld r m + if ld Lt δ r m = m then 1 else 0
theorem nld_le (r m : Nat) : nld Lt δ r m ≤ m := by
  induction m with
  | zero => exact Nat.le_refl 0
  | succ m ih =>
    show nld Lt δ r m + _ ≤ m + 1
    split <;> omega
theorem nld_mono (r m : Nat) : nld Lt δ r m ≤ nld Lt δ (r + 1) m := by
  induction m with
  | zero => exact Nat.le_refl 0
  | succ m ih =>
    show nld Lt δ r m + _ ≤ nld Lt δ (r + 1) m + _
    by_cases h : ld Lt δ r m = m
    · rw [if_pos h, if_pos (ld_keep Lt δ h)]; omega
    · rw [if_neg h]; omega
theorem nld_more {r x : Nat} (h1 : ld Lt δ (r + 1) x = x) (h2 : ld Lt δ r x ≠ x) : ∀ {m : Nat}, x < m → nld Lt δ r m + 1 ≤ nld Lt δ (r + 1) m := by
  intro m hm
  induction m with
  | zero => omega
  | succ m ih =>
    show nld Lt δ r m + _ + 1 ≤ nld Lt δ (r + 1) m + _
    by_cases hx : x = m
    · subst hx
      rw [if_pos h1, if_neg h2]
      have := nld_mono Lt δ r x
      omega
    · have := ih (by omega)
      by_cases h : ld Lt δ r m = m
      · rw [if_pos h, if_pos (ld_keep Lt δ h)]; omega
      · rw [if_neg h]; omega
theorem nld_0 {m : Nat} (h : 0 < m) : 1 ≤ nld Lt δ 0 m := by
  induction m with
  | zero => omega
  | succ m ih =>
    show 1 ≤ nld Lt δ 0 m + _
    by_cases hm : m = 0
    · subst hm
      rw [if_pos (ld_zero Lt δ 0)]
      omega
    · have := ih (by omega)
      omega
/-- the round at which all is told apart -/
theorem stb_ex {n : Nat} (hn : 0 < n) : ∃ R, R < n ∧ stb Lt δ n R ∧ ∀ r, r < R → ¬ stb Lt δ n r := by
  have ⟨R, h1, h2⟩ : ∃ R, stb Lt δ n R ∧ ∀ r, r < R → ¬ stb Lt δ n r := by
    apply pk_least
    apply Classical.byContradiction
    intro q
    have key : ∀ r, r + 1 ≤ nld Lt δ r n := by
      intro r
      induction r with
      | zero => exact nld_0 Lt δ hn
      | succ r ih =>
        obtain ⟨x, hx, a, b⟩ := nstb_new Lt δ (n := n) (r := r) (fun z => q ⟨r, z⟩)
        have := nld_more Lt δ a b hx
        omega
    have := key n
    have := nld_le Lt δ n n
    omega
  refine ⟨R, ?_, h1, h2⟩
  have key : ∀ r, r ≤ R → r + 1 ≤ nld Lt δ r n := by
    intro r
    induction r with
    | zero => intro _; exact nld_0 Lt δ hn
    | succ r ih =>
      intro hr
      obtain ⟨x, hx, a, b⟩ := nstb_new Lt δ (h2 r (by omega))
      have := nld_more Lt δ a b hx
      have := ih (by omega)
      omega
  have := key R (Nat.le_refl R)
  have := nld_le Lt δ R n
  omega
end MQ
