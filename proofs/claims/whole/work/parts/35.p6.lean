/-! TOLD APART, the class: leaderAfter, goAlike, findLeader, pair, measure, partOnce, partSets. -/
def enc : Option Nat → Int32
  | none => -1
  | some k => nI k
theorem enc_inj {x y : Option Nat} (hx : ∀ a, x = some a → a < 2 ^ 31) (hy : ∀ a, y = some a → a < 2 ^ 31) : enc x = enc y ↔ x = y := by
  constructor
  · intro h
    cases x with
    | none =>
      cases y with
      | none => rfl
      | some b => exact absurd h.symm (nI_ne1 (hy b rfl))
    | some a =>
      cases y with
      | none => exact absurd h (nI_ne1 (hx a rfl))
      | some b =>
        have := (nI_eq (hx a rfl) (hy b rfl)).mp h
        rw [this]
  · intro h; rw [h]
def okD (n Lt : Nat) (δ : Nat → Nat → Option Nat) : Prop := 1 ≤ n ∧ n ≤ 120 ∧ Lt ≤ 40 ∧ ∀ s l a, s < n → l < Lt → δ s l = some a → a < n
/-- the class's table: letters, sets, steps -/
def TS (σ : St) (n Lt : Nat) (δ : Nat → Nat → Option Nat) : Prop := σ.1 4 = nI Lt ∧ σ.1 5 = nI n ∧ ∀ s l, s < n → l < Lt → σ.2 3 (40 * s + l) = enc (δ s l)
theorem TS.fr {σ τ : St} {n Lt : Nat} {δ : Nat → Nat → Option Nat} {ss aa : List Nat} (h : TS σ n Lt δ) (f : Fr σ τ ss aa) (h4 : 4 ∉ ss) (h5 : 5 ∉ ss) (h3 : 3 ∉ aa) : TS τ n Lt δ := ⟨(f.1 4 h4).trans h.1, (f.1 5 h5).trans h.2.1, fun s l hs hl => by rw [f.2 3 h3]; exact h.2.2 s l hs hl⟩
theorem enc_test {x : Option Nat} (hx : ∀ a, x = some a → a < 2 ^ 31) {A B : Prop} (hn : x = none → B) (hs : ∀ a, x = some a → A) : (¬ enc x = -1 → A) ∧ (enc x = -1 → B) := by
  cases x with
  | none => exact ⟨fun c => absurd rfl c, fun _ => hn rfl⟩
  | some a => exact ⟨fun _ => hs a rfl, fun c => absurd c (nI_ne1 (hx a rfl))⟩
theorem t_la8 {post : Int32 → St → Prop} {σ : St} {n Lt s l : Nat} {δ : Nat → Nat → Option Nat} {B : Nat → Nat} (hD : okD n Lt δ) (hT : TS σ n Lt δ) (hB : ∀ j, j < n → σ.2 5 j = nI (B j)) (hs : s < n) (hl : l < Lt) (h : post (enc ((δ s l).map B)) σ) : wp_T_leaderAfter_8 (nI s) (nI l) σ post := by
  obtain ⟨d1, d2, d3, d4⟩ := hD
  have hp : 40 * s + l < 4800 := by omega
  unfold wp_T_leaderAfter_8
  rw [p40_c]
  refine ⟨vp_in_nI hp (by omega), ?_⟩
  rw [nI_clamp (by omega), hT.2.2 s l hs hl]
  refine enc_test (fun a e => by have := d4 s l a hs hl e; omega) (fun e => ?_) (fun a e => ?_)
  · rw [e] at h; exact h
  · rw [e] at h ⊢
    have ha := d4 s l a hs hl e
    show vp_in (nI a) 120 ∧ post (σ.2 5 (nI a).toNatClampNeg) σ
    rw [nI_clamp (by omega), hB a ha]
    exact ⟨vp_in_nI (by omega) (by omega), h⟩
theorem t_la7 {post : Int32 → St → Prop} {σ : St} {n Lt s l : Nat} {δ : Nat → Nat → Option Nat} {B : Nat → Nat} (hD : okD n Lt δ) (hT : TS σ n Lt δ) (hB : ∀ j, j < n → σ.2 4 j = nI (B j)) (hs : s < n) (hl : l < Lt) (h : post (enc ((δ s l).map B)) σ) : wp_T_leaderAfter_7 (nI s) (nI l) σ post := by
  obtain ⟨d1, d2, d3, d4⟩ := hD
  have hp : 40 * s + l < 4800 := by omega
  unfold wp_T_leaderAfter_7
  rw [p40_c]
  refine ⟨vp_in_nI hp (by omega), ?_⟩
  rw [nI_clamp (by omega), hT.2.2 s l hs hl]
  refine enc_test (fun a e => by have := d4 s l a hs hl e; omega) (fun e => ?_) (fun a e => ?_)
  · rw [e] at h; exact h
  · rw [e] at h ⊢
    have ha := d4 s l a hs hl e
    show vp_in (nI a) 120 ∧ post (σ.2 4 (nI a).toNatClampNeg) σ
    rw [nI_clamp (by omega), hB a ha]
    exact ⟨vp_in_nI (by omega) (by omega), h⟩
theorem t_ga_loop {post : Int32 → St → Prop} {σ : St} {n Lt a b : Nat} {δ : Nat → Nat → Option Nat} {B : Nat → Nat} (hD : okD n Lt δ) (hT : TS σ n Lt δ) (hB : ∀ j, j < n → σ.2 5 j = nI (B j)) (hB2 : ∀ j, j < n → B j < n) (ha : a < n) (hb : b < n) (h1 : (∀ l, l < Lt → (δ a l).map B = (δ b l).map B) → post 1 σ) (h0 : ¬ (∀ l, l < Lt → (δ a l).map B = (δ b l).map B) → post 0 σ) :
    ∀ (d l : Nat), l + d = Lt → (∀ j, j < l → (δ a j).map B = (δ b j).map B) → L_T_goAlike_2 post (d + 1) (nI a) (nI b) (nI l) σ := by
  have d2 := hD.2.1
  have d3 := hD.2.2.1
  intro d
  induction d with
  | zero =>
    intro l hl hj
    have : l = Lt := by omega
    subst this
    exact ⟨fun _ => h1 hj, fun c => absurd (by rw [hT.1]; exact nI_le (Nat.le_refl _) (by omega)) c⟩
  | succ d ih =>
    intro l hl hj
    have hlt : l < Lt := by omega
    refine ⟨fun c => absurd c (by rw [hT.1]; exact nI_ge hlt (by omega)), fun _ => ?_⟩
    refine t_la8 hD hT hB ha hlt (t_la8 hD hT hB hb hlt ?_)
    have small : ∀ s, s < n → ∀ z, (δ s l).map B = some z → z < 2 ^ 31 := by
      intro s hs z hz
      cases hd : δ s l with
      | none => rw [hd] at hz; cases hz
      | some w =>
        rw [hd] at hz
        have := hB2 w (hD.2.2.2 s l w hs hlt hd)
        have : B w = z := Option.some.inj hz
        omega
    refine ⟨fun c => ?_, fun c => h0 (fun z => c (by rw [z l hlt]))⟩
    rw [nI_1]
    have c2 := (enc_inj (small a ha) (small b hb)).mp c
    exact ih (l + 1) (by omega) (fun j hj2 => by
      by_cases e : j = l
      · rw [e]; exact c2
      · exact hj j (by omega))
theorem t_goAlike {post : Int32 → St → Prop} {σ : St} {n Lt a b : Nat} {δ : Nat → Nat → Option Nat} {B : Nat → Nat} (hD : okD n Lt δ) (hT : TS σ n Lt δ) (hB : ∀ j, j < n → σ.2 5 j = nI (B j)) (hB2 : ∀ j, j < n → B j < n) (ha : a < n) (hb : b < n) (h1 : (∀ l, l < Lt → (δ a l).map B = (δ b l).map B) → post 1 σ) (h0 : ¬ (∀ l, l < Lt → (δ a l).map B = (δ b l).map B) → post 0 σ) : wp_T_goAlike (nI a) (nI b) σ post :=
  ⟨Lt + 1, t_ga_loop hD hT hB hB2 ha hb h1 h0 Lt 0 (by omega) (fun j hj => by omega)⟩
theorem t_fl_loop {post : Int32 → St → Prop} {σ : St} {n Lt s r : Nat} {δ : Nat → Nat → Option Nat} {x2 : Int32} (hD : okD n Lt δ) (hT : TS σ n Lt δ) (hs : s < n) (h4 : ∀ j, j < s → σ.2 4 j = nI (ld Lt δ (r + 1) j)) (h5 : ∀ j, j < n → σ.2 5 j = nI (ld Lt δ r j)) (hx : x2 = nI (ld Lt δ r s)) (h : post (nI (ld Lt δ (r + 1) s)) σ) :
    ∀ (d o : Nat), o + d = s → (∀ j, ld Lt δ r s ≤ j → j < o → ¬ eqv Lt δ (r + 1) j s) → ld Lt δ r s ≤ o → L_T_findLeader_9 post (d + 1) (nI s) x2 (nI o) σ := by
  have d2 := hD.2.1
  intro d
  induction d with
  | zero =>
    intro o ho hb _
    have : o = s := by omega
    subst this
    have e : ld Lt δ (r + 1) o = o := by
      apply Nat.le_antisymm (ld_le Lt δ _ _)
      rcases Nat.lt_or_ge (ld Lt δ (r + 1) o) o with z | z
      · have a := ld_eqv Lt δ (r + 1) o
        exact absurd a (hb _ (ld_lei Lt δ a.1) z)
      · exact z
    rw [e] at h
    exact ⟨fun _ => h, fun c => absurd (nI_le (Nat.le_refl _) (by omega)) c⟩
  | succ d ih =>
    intro o ho hb hlo
    have hos : o < s := by omega
    have next : ¬ eqv Lt δ (r + 1) o s → L_T_findLeader_9 post (d + 1) (nI s) x2 (nI (o + 1)) σ := fun q =>
      ih (o + 1) (by omega) (fun j h1 h2 => by
        by_cases e : j = o
        · rw [e]; exact q
        · exact hb j h1 (by omega)) (by omega)
    refine ⟨fun c => absurd c (nI_ge hos (by omega)), fun _ => ⟨vp_in_nI (by omega) (by omega), ?_⟩⟩
    rw [hx] at next ⊢
    rw [nI_clamp (by omega), nI_1, h4 o hos, h5 o (by omega)]
    have l1 := ld_le Lt δ (r + 1) o
    have l2 := ld_le Lt δ r o
    have l3 := ld_le Lt δ r s
    refine ⟨fun c => next (fun q => ?_), fun c => ⟨vp_in_nI (by omega) (by omega), fun c2 => next (fun q => c2 (by rw [(ld_iff Lt δ).mpr q.1])), fun c2 => ?_⟩⟩
    · have hne : ld Lt δ (r + 1) o ≠ o := fun e => c (by rw [e])
      have a : eqv Lt δ (r + 1) (ld Lt δ (r + 1) o) s := eqv_trans Lt δ _ (ld_eqv Lt δ (r + 1) o) q
      exact hb _ (ld_lei Lt δ a.1) (by omega) a
    · have e2 : eqv Lt δ r o s := (ld_iff Lt δ).mp ((nI_eq (by omega) (by omega)).mp c2)
      refine t_goAlike hD hT h5 (fun j hj => Nat.lt_of_le_of_lt (ld_le Lt δ r j) hj) (by omega) hs (fun g => ⟨fun c3 => absurd c3 (by decide), fun _ => ?_⟩) (fun g => ⟨fun _ => next (fun q => g ((eqv_step Lt δ).mp q).2), fun c3 => absurd rfl c3⟩)
      have e3 : eqv Lt δ (r + 1) o s := (eqv_step Lt δ).mpr ⟨e2, g⟩
      have e4 : ld Lt δ (r + 1) s = o := by
        apply Nat.le_antisymm (ld_lei Lt δ e3)
        rcases Nat.lt_or_ge (ld Lt δ (r + 1) s) o with z | z
        · have a := ld_eqv Lt δ (r + 1) s
          exact absurd a (hb _ (ld_lei Lt δ a.1) z)
        · exact z
      rw [e4] at h
      exact h
theorem t_findLeader {post : Int32 → St → Prop} {σ : St} {n Lt s r : Nat} {δ : Nat → Nat → Option Nat} (hD : okD n Lt δ) (hT : TS σ n Lt δ) (hs : s < n) (h4 : ∀ j, j < s → σ.2 4 j = nI (ld Lt δ (r + 1) j)) (h5 : ∀ j, j < n → σ.2 5 j = nI (ld Lt δ r j)) (h : post (nI (ld Lt δ (r + 1) s)) σ) : wp_T_findLeader (nI s) σ post := by
  have d2 := hD.2.1
  have l3 := ld_le Lt δ r s
  refine ⟨vp_in_nI (by omega) (by omega), s - ld Lt δ r s + 1, ?_⟩
  rw [nI_clamp (by omega), h5 s hs]
  exact t_fl_loop hD hT hs h4 h5 rfl h _ _ (by omega) (fun j h1 h2 => by omega) (Nat.le_refl _)
/-- the place of two sets -/
def tri : Nat → Nat
  | 0 => 0
  | b + 1 => tri b + b
theorem tri_2 : ∀ b, b * (b - 1) = 2 * tri b := by
  intro b
  induction b with
  | zero => rfl
  | succ b ih =>
    show (b + 1) * b = 2 * (tri b + b)
    cases b with
    | zero => rfl
    | succ c =>
      have ih : (c + 1) * c = 2 * tri (c + 1) := ih
      have e : (c + 1 + 1) * (c + 1) = (c + 1) * c + 2 * (c + 1) := by
        simp only [Nat.add_mul, Nat.mul_add]
        omega
      rw [e, ih]
      omega
theorem tri_lt : ∀ {b d : Nat}, b < d → tri b + b ≤ tri d := by
  intro b d h
  induction d with
  | zero => omega
  | succ d ih =>
    show tri b + b ≤ tri d + d
    by_cases e : b = d
    · rw [e]; exact Nat.le_refl _
    · have := ih (by omega)
      omega
theorem tri_120 : tri 120 = 7140 := by decide +kernel
def pr (a b : Nat) : Nat := if a < b then tri b + a else tri a + b
theorem pr_comm {a b : Nat} (h : a ≠ b) : pr a b = pr b a := by
  unfold pr
  by_cases e : a < b
  · rw [if_pos e, if_neg (by omega)]
  · rw [if_neg e, if_pos (by omega)]
theorem pr_lt {a b : Nat} (h : a ≠ b) (ha : a < 120) (hb : b < 120) : pr a b < 7140 := by
  rw [← tri_120]
  unfold pr
  split
  · have := tri_lt (b := b) (d := 120) (by omega); omega
  · have := tri_lt (b := a) (d := 120) (by omega); omega
theorem tri_inj {a b c d : Nat} (h1 : a < b) (h2 : c < d) (h : tri b + a = tri d + c) : a = c ∧ b = d := by
  rcases Nat.lt_trichotomy b d with z | z | z
  · have := tri_lt z; omega
  · subst z; omega
  · have := tri_lt z; omega
theorem pr_inj {a b c d : Nat} (h1 : a ≠ b) (h2 : c ≠ d) (h : pr a b = pr c d) : (a = c ∧ b = d) ∨ (a = d ∧ b = c) := by
  unfold pr at h
  by_cases e1 : a < b
  · rw [if_pos e1] at h
    by_cases e2 : c < d
    · rw [if_pos e2] at h
      exact Or.inl (tri_inj e1 e2 h)
    · rw [if_neg e2] at h
      exact Or.inr (tri_inj e1 (by omega) h)
  · rw [if_neg e1] at h
    by_cases e2 : c < d
    · rw [if_pos e2] at h
      have := tri_inj (a := b) (b := a) (by omega) e2 h
      exact Or.inr ⟨this.2, this.1⟩
    · rw [if_neg e2] at h
      have := tri_inj (a := b) (b := a) (c := d) (d := c) (by omega) (by omega) h
      exact Or.inl ⟨this.2, this.1⟩
theorem pr_int {b : Nat} (h0 : 0 < b) (hb : b < 120) : (nI b * (nI b - 1)) / nI 2 = nI (tri b) := by
  obtain ⟨c, rfl⟩ : ∃ c, b = c + 1 := ⟨b - 1, by omega⟩
  have e : (c + 1) * c = 2 * tri (c + 1) := tri_2 (c + 1)
  have hl := tri_lt hb
  rw [tri_120] at hl
  rw [nI_pred, pk_mul, e, pk_div (by omega) (by omega) (by omega)]
  congr 1
  omega
theorem t_pair {post : Int32 → St → Prop} {σ : St} {a b : Nat} (h : a ≠ b) (ha : a < 120) (hb : b < 120) (hp : post (nI (pr a b)) σ) : wp_T_pair (nI a) (nI b) σ post := by
  unfold wp_T_pair
  unfold pr at hp
  by_cases e : a < b
  · rw [if_pos e] at hp
    rw [if_pos (nI_lt e (by omega)), if_neg (nI_nlt (by omega) (by omega)), pr_int (by omega) hb, nI_add]
    exact hp
  · rw [if_neg e] at hp
    rw [if_neg (nI_nlt (by omega) (by omega)), if_pos (nI_lt (by omega) (by omega)), pr_int (by omega) ha, nI_add]
    exact hp
/-- the rows' lengths of those that lead -/
def RL (n : Nat) (cur : Nat → Nat) (d : Nat → Nat → Nat) (g : Nat → Int32) : Prop := ∀ a b, a < n → b < n → a ≠ b → cur a = a → cur b = b → g (pr a b) = nI (d a b)
theorem t_me_loop {post : St → Prop} {σ : St} {n x f r : Nat} {cur : Nat → Nat} {dd : Nat → Nat → Nat} (hn : n ≤ 120) (h5 : σ.1 5 = nI n) (h4 : ∀ j, j < n → σ.2 4 j = nI (cur j)) (hcn : ∀ j, j < n → cur j < n) (hx : x < n) (hf : f < n) (hfx : f ≠ x) (hcf : cur f = f) (hsym : ∀ a b, dd a b = dd b a)
    (hD : ∀ o, o < n → cur o = o → o ≠ x → (o = f → dd o x = r) ∧ (o ≠ f → dd o x = dd o f)) (hp : ∀ g, RL n cur dd g → post (uA σ 8 g)) :
    ∀ (d o : Nat) (g : Nat → Int32), o + d = n → (∀ a b, a < n → b < n → a ≠ b → cur a = a → cur b = b → a ≠ x → b ≠ x → g (pr a b) = nI (dd a b)) → (∀ j, j < o → cur j = j → j ≠ x → g (pr j x) = nI (dd j x)) → L_T_measure_10 post (d + 1) (nI x) (nI r) (nI f) (nI o) (uA σ 8 g) := by
  intro d
  induction d with
  | zero =>
    intro o g ho g1 g2
    have : o = n := by omega
    subst this
    refine ⟨fun _ => hp g (fun a b ha hb hab ca cb => ?_), fun c => absurd (by show σ.1 5 ≤ _; rw [h5]; exact nI_le (Nat.le_refl _) (by omega)) c⟩
    by_cases ea : a = x
    · subst ea
      rw [pr_comm hab, g2 b hb cb (fun e => hab e.symm), hsym]
    · by_cases eb : b = x
      · subst eb
        exact g2 a ha ca hab
      · exact g1 a b ha hb hab ca cb ea eb
  | succ d ih =>
    intro o g ho g1 g2
    have hon : o < n := by omega
    have skip : (cur o = o → o = x) → L_T_measure_10 post (d + 1) (nI x) (nI r) (nI f) (nI (o + 1)) (uA σ 8 g) := fun q =>
      ih (o + 1) g (by omega) g1 (fun j hj cj jx => by
        by_cases e : j = o
        · subst e; exact absurd (q cj) jx
        · exact g2 j (by omega) cj jx)
    have put : cur o = o → o ≠ x → L_T_measure_10 post (d + 1) (nI x) (nI r) (nI f) (nI (o + 1)) (uA σ 8 (upd g (pr o x) (nI (dd o x)))) := fun co ox =>
      ih (o + 1) _ (by omega) (fun a b ha hb hab ca cb ax bx => by
        rw [pk_un (fun e => by rcases pr_inj hab ox e with ⟨_, z⟩ | ⟨z, _⟩; exact bx z; exact ax z)]
        exact g1 a b ha hb hab ca cb ax bx) (fun j hj cj jx => by
        by_cases e : j = o
        · subst e; exact pk_us
        · rw [pk_un (fun q => by rcases pr_inj jx ox q with ⟨z, _⟩ | ⟨z, _⟩; exact e z; exact jx z)]
          exact g2 j (by omega) cj jx)
    refine ⟨fun c => absurd c (by show ¬ σ.1 5 ≤ _; rw [h5]; exact nI_ge hon (by omega)), fun _ => ⟨vp_in_nI (by omega) (by omega), ?_⟩⟩
    have e4 : (uA σ 8 g).2 4 o = nI (cur o) := h4 o hon
    have hco := hcn o hon
    rw [nI_clamp (by omega), e4, nI_1]
    refine ⟨fun c => skip (fun q => absurd (by rw [q]) c), fun c => ?_⟩
    have co : cur o = o := (nI_eq (by omega) (by omega)).mp c
    refine ⟨fun c2 => skip (fun _ => (nI_eq (by omega) (by omega)).mp c2), fun c2 => ?_⟩
    have ox : o ≠ x := fun e => c2 (by rw [e])
    have hpr := pr_lt ox (by omega) (by omega)
    refine t_pair ox (by omega) (by omega) ⟨fun c3 => ?_, fun c3 => ?_⟩
    · have of : o ≠ f := fun e => c3 (by rw [e])
      have hpf := pr_lt of (by omega) (by omega)
      refine t_pair of (by omega) (by omega) ⟨vp_in_nI hpf (by omega), vp_in_nI hpr (by omega), ?_⟩
      rw [nI_clamp (by omega), nI_clamp (by omega)]
      unfold ua
      rw [uA_uA, uA_s, g1 o f hon hf of co hcf ox hfx, ← (hD o hon co ox).2 of]
      exact put co ox
    · have of : o = f := (nI_eq (by omega) (by omega)).mp c3
      refine ⟨vp_in_nI hpr (by omega), ?_⟩
      rw [nI_clamp (by omega)]
      unfold ua
      rw [uA_uA, uA_s]
      have p9 := put co ox
      rw [(hD o hon co ox).1 of] at p9
      exact p9
theorem t_measure {post : St → Prop} {σ : St} {n x f r : Nat} {cur : Nat → Nat} {dd : Nat → Nat → Nat} (hn : n ≤ 120) (h5 : σ.1 5 = nI n) (h4 : ∀ j, j < n → σ.2 4 j = nI (cur j)) (hcn : ∀ j, j < n → cur j < n) (hx : x < n) (hf : f < n) (hfx : f ≠ x) (hcf : cur f = f) (hsym : ∀ a b, dd a b = dd b a) (h5b : σ.2 5 x = nI f)
    (hD : ∀ o, o < n → cur o = o → o ≠ x → (o = f → dd o x = r) ∧ (o ≠ f → dd o x = dd o f)) (hg : ∀ a b, a < n → b < n → a ≠ b → cur a = a → cur b = b → a ≠ x → b ≠ x → σ.2 8 (pr a b) = nI (dd a b)) (hp : ∀ g, RL n cur dd g → post (uA σ 8 g)) : wp_T_measure (nI x) (nI r) σ post := by
  refine ⟨vp_in_nI (by omega) (by omega), n + 1, ?_⟩
  rw [nI_clamp (by omega), h5b]
  have := t_me_loop (post := post) hn h5 h4 hcn hx hf hfx hcf hsym hD hp n 0 (σ.2 8) (by omega) hg (fun j hj => by omega)
  rwa [uA_id] at this
