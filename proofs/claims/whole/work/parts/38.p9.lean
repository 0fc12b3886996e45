/-! TOLD APART, the reference: tell. -/
section TE
variable (Lt : Nat) (δ : Nat → Nat → Option Nat)
/-- letter l tells a and b apart with k letters in all -/
def tlc (k a b l : Nat) : Prop := (k = 1 ∧ ((δ a l = none ∧ δ b l ≠ none) ∨ (δ a l ≠ none ∧ δ b l = none))) ∨ (2 ≤ k ∧ ∃ x y, δ a l = some x ∧ δ b l = some y ∧ dst Lt δ x y + 1 = k)
theorem tlc_symm {k a b l : Nat} (h : tlc Lt δ k a b l) : tlc Lt δ k b a l := by
  rcases h with ⟨h1, h2⟩ | ⟨h1, x, y, h2, h3, h4⟩
  · exact Or.inl ⟨h1, h2.elim (fun z => Or.inr ⟨z.2, z.1⟩) (fun z => Or.inl ⟨z.2, z.1⟩)⟩
  · exact Or.inr ⟨h1, y, x, h3, h2, by rw [dst_symm]; exact h4⟩
theorem tlc_iff {r a b l : Nat} (hl : l < Lt) (h : eqv Lt δ r a b) : tlc Lt δ (r + 1) a b l ↔ ¬ sim (eqv Lt δ r) (δ a l) (δ b l) := by
  have hs : ∀ q, r = q + 1 → sim (eqv Lt δ q) (δ a l) (δ b l) := fun q e => by subst e; exact h.2 l hl
  cases ha : δ a l with
  | none =>
    cases hb : δ b l with
    | none =>
      refine ⟨fun q => ?_, fun q => absurd trivial q⟩
      rcases q with ⟨_, z | z⟩ | ⟨_, x, y, z, _⟩
      · exact absurd hb z.2
      · exact absurd ha z.1
      · rw [ha] at z; cases z
    | some y =>
      refine ⟨fun _ q => q, fun _ => ?_⟩
      rcases Nat.eq_zero_or_pos r with z | z
      · subst z
        exact Or.inl ⟨rfl, Or.inl ⟨ha, by rw [hb]; simp⟩⟩
      · have := hs (r - 1) (by omega)
        rw [ha, hb] at this
        exact False.elim this
  | some x =>
    cases hb : δ b l with
    | none =>
      refine ⟨fun _ q => q, fun _ => ?_⟩
      rcases Nat.eq_zero_or_pos r with z | z
      · subst z
        exact Or.inl ⟨rfl, Or.inr ⟨by rw [ha]; simp, hb⟩⟩
      · have := hs (r - 1) (by omega)
        rw [ha, hb] at this
        exact False.elim this
    | some y =>
      show _ ↔ ¬ eqv Lt δ r x y
      constructor
      · intro q
        rcases q with ⟨_, z | z⟩ | ⟨h2, x', y', z1, z2, z3⟩
        · rw [ha] at z; cases z.1
        · rw [hb] at z; cases z.2
        · rw [ha] at z1
          rw [hb] at z2
          cases z1
          cases z2
          exact (dst_iff Lt δ).mp ⟨by omega, by omega⟩
      · intro q
        rcases Nat.eq_zero_or_pos r with z | z
        · subst z
          exact absurd trivial q
        · have hq := hs (r - 1) (by omega)
          rw [ha, hb] at hq
          have hq : eqv Lt δ (r - 1) x y := hq
          have e : dst Lt δ x y = r - 1 + 1 := dst_is Lt δ hq (by rw [show r - 1 + 1 = r by omega]; exact q)
          exact Or.inr ⟨by omega, x, y, ha, hb, by omega⟩
theorem tlc_ex {r a b : Nat} (h : eqv Lt δ r a b) : ¬ eqv Lt δ (r + 1) a b ↔ ∃ l, l < Lt ∧ tlc Lt δ (r + 1) a b l := by
  constructor
  · intro q
    apply Classical.byContradiction
    intro z
    apply q
    refine ⟨h, fun l hl => ?_⟩
    apply Classical.byContradiction
    intro w
    exact z ⟨l, hl, (tlc_iff Lt δ hl h).mpr w⟩
  · rintro ⟨l, hl, ht⟩ q
    exact (tlc_iff Lt δ hl h).mp ht (q.2 l hl)
/-- the first letter of the least row -/
noncomputable def fst (a b : Nat) : Nat := by
  classical exact if h : ∃ l, l < Lt ∧ tlc Lt δ (dst Lt δ a b) a b l then (pk_least _ h).choose else 0
theorem fst_is {a b l : Nat} (hl : l < Lt) (h : tlc Lt δ (dst Lt δ a b) a b l) (hb : ∀ j, j < l → ¬ tlc Lt δ (dst Lt δ a b) a b j) : fst Lt δ a b = l := by
  have hx : ∃ l, l < Lt ∧ tlc Lt δ (dst Lt δ a b) a b l := ⟨l, hl, h⟩
  unfold fst
  rw [dif_pos hx]
  obtain ⟨h1, h2⟩ := (pk_least _ hx).choose_spec
  rcases Nat.lt_trichotomy (pk_least _ hx).choose l with z | z | z
  · exact absurd h1.2 (hb _ z)
  · exact z
  · exact absurd ⟨hl, h⟩ (h2 l z)
theorem fst_spec {a b : Nat} (h : 0 < dst Lt δ a b) : fst Lt δ a b < Lt ∧ tlc Lt δ (dst Lt δ a b) a b (fst Lt δ a b) ∧ ∀ j, j < fst Lt δ a b → ¬ tlc Lt δ (dst Lt δ a b) a b j := by
  obtain ⟨r, hr⟩ : ∃ r, dst Lt δ a b = r + 1 := ⟨dst Lt δ a b - 1, by omega⟩
  obtain ⟨h1, h2⟩ := dst_inv Lt δ hr
  have hx : ∃ l, l < Lt ∧ tlc Lt δ (dst Lt δ a b) a b l := by rw [hr]; exact (tlc_ex Lt δ h1).mp h2
  have e : fst Lt δ a b = (pk_least _ hx).choose := by unfold fst; rw [dif_pos hx]
  obtain ⟨k1, k2⟩ := (pk_least _ hx).choose_spec
  rw [← e] at k1 k2
  exact ⟨k1.1, k1.2, fun j hj q => k2 j hj ⟨by omega, q⟩⟩
theorem fst_symm (a b : Nat) (h : 0 < dst Lt δ a b) : fst Lt δ a b = fst Lt δ b a := by
  obtain ⟨h1, h2, h3⟩ := fst_spec Lt δ h
  have e := dst_symm Lt δ a b
  exact (fst_is Lt δ h1 (by rw [← e]; exact tlc_symm Lt δ h2) (fun j hj q => h3 j hj (by rw [e]; exact tlc_symm Lt δ q))).symm
/-- what is told up to k -/
noncomputable def vl (k a b : Nat) : Nat := if dst Lt δ a b ≤ k then dst Lt δ a b else 0
theorem vl_symm (k a b : Nat) : vl Lt δ k a b = vl Lt δ k b a := by unfold vl; rw [dst_symm]
theorem vl_self (k a : Nat) : vl Lt δ k a a = 0 := by unfold vl; rw [dst_self]; simp
theorem vl_0 {k a b : Nat} (h : eqv Lt δ k a b) : vl Lt δ k a b = 0 := by
  unfold vl
  by_cases c : dst Lt δ a b ≤ k
  · rw [if_pos c]
    rcases Nat.eq_zero_or_pos (dst Lt δ a b) with z | z
    · exact z
    · exact absurd h ((dst_iff Lt δ).mp ⟨z, c⟩)
  · rw [if_neg c]
theorem vl_n {k a b : Nat} (h : ¬ eqv Lt δ k a b) : vl Lt δ k a b = dst Lt δ a b ∧ 0 < vl Lt δ k a b ∧ vl Lt δ (k + 1) a b = vl Lt δ k a b := by
  obtain ⟨h1, h2⟩ := (dst_iff Lt δ).mpr h
  unfold vl
  rw [if_pos h2, if_pos (by omega)]
  exact ⟨rfl, h1, rfl⟩
theorem vl_pos {k a b : Nat} (h : 0 < vl Lt δ k a b) : ¬ eqv Lt δ k a b := fun q => by rw [vl_0 Lt δ q] at h; omega
def lpx (n r : Nat) (P : Nat → Nat → Prop) (F G : Nat → Int32) : Prop := ∀ a b, a < n → b < n → (P a b → F (120 * a + b) = nI (vl Lt δ (r + 1) a b) ∧ (0 < vl Lt δ (r + 1) a b → G (120 * a + b) = nI (fst Lt δ a b))) ∧ (¬ P a b → F (120 * a + b) = nI (vl Lt δ r a b) ∧ (0 < vl Lt δ r a b → G (120 * a + b) = nI (fst Lt δ a b)))
theorem lpx_put {n r s t : Nat} {P : Nat → Nat → Prop} {F G : Nat → Int32} {g : Int32} (hn : n ≤ 120) (hs : s < n) (ht : t < n) (h : lpx Lt δ n r P F G) (hg : 0 < vl Lt δ (r + 1) s t → g = nI (fst Lt δ s t)) : lpx Lt δ n r (fun a b => P a b ∨ (a = s ∧ b = t)) (upd F (120 * s + t) (nI (vl Lt δ (r + 1) s t))) (upd G (120 * s + t) g) := by
  intro a b ha hb
  by_cases e : 120 * a + b = 120 * s + t
  · have : a = s ∧ b = t := by omega
    obtain ⟨rfl, rfl⟩ := this
    exact ⟨fun _ => ⟨pk_us, fun z => by rw [pk_us]; exact hg z⟩, fun q => absurd (Or.inr ⟨rfl, rfl⟩) q⟩
  · rw [pk_un e, pk_un e]
    refine ⟨fun q => (h a b ha hb).1 ?_, fun q => (h a b ha hb).2 (fun z => q (Or.inl z))⟩
    rcases q with z | ⟨z1, z2⟩
    · exact z
    · exact absurd (by rw [z1, z2]) e
/-- nothing to put: the pair keeps what it had -/
theorem lpx_keep {n r s t : Nat} {P : Nat → Nat → Prop} {F G : Nat → Int32} (hP : ¬ P s t) (h : lpx Lt δ n r P F G) (he : vl Lt δ (r + 1) s t = vl Lt δ r s t) : lpx Lt δ n r (fun a b => P a b ∨ (a = s ∧ b = t)) F G := by
  intro a b ha hb
  refine ⟨fun q => ?_, fun q => (h a b ha hb).2 (fun z => q (Or.inl z))⟩
  rcases q with z | ⟨rfl, rfl⟩
  · exact (h a b ha hb).1 z
  · have := (h a b ha hb).2 hP
    rw [he]
    exact this
theorem lpx_iff {n r : Nat} {P P' : Nat → Nat → Prop} {F G : Nat → Int32} (h : lpx Lt δ n r P F G) (e : ∀ a b, a < n → b < n → (a = b ∨ (P a b ↔ P' a b))) : lpx Lt δ n r P' F G := by
  intro a b ha hb
  rcases e a b ha hb with rfl | z
  · have hz : F (120 * a + a) = nI 0 := by
      rcases Classical.em (P a a) with q | q
      · have := ((h a a ha hb).1 q).1
        rw [vl_self] at this
        exact this
      · have := ((h a a ha hb).2 q).1
        rw [vl_self] at this
        exact this
    rw [vl_self, vl_self]
    exact ⟨fun _ => ⟨hz, fun q => by omega⟩, fun _ => ⟨hz, fun q => by omega⟩⟩
  · exact ⟨fun q => (h a b ha hb).1 (z.mpr q), fun q => (h a b ha hb).2 (fun w => q (z.mp w))⟩
end TE
/-- the pairs that are through: those of greater sets below s, those of s with sets below t -/
def PP (s t a b : Nat) : Prop := (a < b ∧ (b < s ∨ (b = s ∧ a < t))) ∨ (b < a ∧ (a < s ∨ (a = s ∧ b < t)))
theorem PP_no {s t : Nat} (h : t < s) : ¬ PP s t s t := by unfold PP; omega
theorem PP_step {s t : Nat} (h : t < s) (a b : Nat) : ((PP s t a b ∨ (a = s ∧ b = t)) ∨ (a = t ∧ b = s)) ↔ PP s (t + 1) a b := by unfold PP; omega
theorem PP_row (s a b : Nat) : PP s s a b ↔ PP (s + 1) 0 a b := by unfold PP; omega
section TM
variable {n Lt : Nat} {δ : Nat → Nat → Option Nat}
def TM (σ : St) (n Lt : Nat) (δ : Nat → Nat → Option Nat) : Prop := σ.1 5 = nI Lt ∧ σ.1 4 = nI n ∧ ∀ s l, s < n → l < Lt → σ.2 2 (40 * s + l) = enc (δ s l)
theorem TM.fr {σ τ : St} {ss aa : List Nat} (h : TM σ n Lt δ) (f : Fr σ τ ss aa) (h4 : 4 ∉ ss) (h5 : 5 ∉ ss) (h2 : 2 ∉ aa) : TM τ n Lt δ := ⟨(f.1 5 h5).trans h.1, (f.1 4 h4).trans h.2.1, fun s l hs hl => by rw [f.2 2 h2]; exact h.2.2 s l hs hl⟩
theorem enc_lt {x : Option Nat} (hx : ∀ a, x = some a → a < 2 ^ 31) : enc x < 0 ↔ x = none := by
  cases x with
  | none => exact ⟨fun _ => rfl, fun _ => by decide⟩
  | some a => exact ⟨fun c => absurd c (nI_pos (hx a rfl)), fun c => by cases c⟩
theorem enc_ge {x : Option Nat} (hx : ∀ a, x = some a → a < 2 ^ 31) : 0 ≤ enc x ↔ x ≠ none := by
  cases x with
  | none => exact ⟨fun c => absurd c (by decide), fun c => absurd rfl c⟩
  | some a => exact ⟨fun _ => by simp, fun _ => nI_pos' (hx a rfl)⟩
theorem p120_lt {s t n : Nat} (hn : n ≤ 120) (hs : s < n) (ht : t < n) : 120 * s + t < 14400 := by omega
/-- out of the letters' loop: the pair is mirrored -/
theorem m_te_exit {post : Int32 → St → Prop} {K : Int32 → Int32 → Int32 → Int32 → St → Prop} {σ : St} {r s t l m : Nat} {x2 : Int32} {F G : Nat → Int32} (hD : okD n Lt δ) (h5 : σ.1 5 = nI Lt) (hs : s < n) (ht : t < s) (hl : l ≤ Lt) (hL : lpx Lt δ n r (fun a b => PP s t a b ∨ (a = s ∧ b = t)) F G) (he : l = Lt ∨ ¬ F (120 * s + t) = 0)
    (h : ∀ F' G', lpx Lt δ n r (PP s (t + 1)) F' G' → K (nI (r + 1)) x2 (nI s) (nI (t + 1)) (uA (uA σ 3 F') 4 G')) : L_M_tell_24 post K (m + 1) (nI (r + 1)) x2 (nI s) (nI t) (nI l) (uA (uA σ 3 F) 4 G) := by
  have d2 := hD.2.1
  have d3 := hD.2.2.1
  have q1 := p120_lt d2 hs (show t < n by omega)
  have q2 := p120_lt d2 (show t < n by omega) hs
  have i1 : vp_in (nI (120 * s + t)) 14400 := vp_in_nI q1 (by omega)
  have i2 : vp_in (nI (120 * t + s)) 14400 := vp_in_nI q2 (by omega)
  have hst := (hL s t hs (by omega)).1 (Or.inr ⟨rfl, rfl⟩)
  have fin : K (nI (r + 1)) x2 (nI s) (nI (t + 1)) (ua (ua (uA (uA σ 3 F) 4 G) 3 (120 * t + s) (F (120 * s + t))) 4 (120 * t + s) (G (120 * s + t))) := by
    have e : ua (ua (uA (uA σ 3 F) 4 G) 3 (120 * t + s) (F (120 * s + t))) 4 (120 * t + s) (G (120 * s + t)) = uA (uA σ 3 (upd F (120 * t + s) (F (120 * s + t)))) 4 (upd G (120 * t + s) (G (120 * s + t))) := by
      unfold ua uA
      congr 1
      funext j
      unfold va_up
      by_cases q3 : j = 3
      · subst q3; simp
      · by_cases q4 : j = 4
        · subst q4; simp
        · simp [q3, q4]
    rw [e]
    apply h
    rw [hst.1, vl_symm]
    have k := lpx_put Lt δ d2 (show t < n by omega) hs hL (g := G (120 * s + t)) (fun z => by
      rw [vl_symm] at z
      have hd : 0 < dst Lt δ s t := by
        have := (vl_n Lt δ (vl_pos Lt δ z)).1
        omega
      rw [hst.2 z, fst_symm Lt δ s t hd])
    exact lpx_iff Lt δ k (fun a b _ _ => Or.inr (PP_step ht a b))
  have g3 : (uA (uA σ 3 F) 4 G).2 3 = F := rfl
  have g4 : ∀ v, (ua (uA (uA σ 3 F) 4 G) 3 (120 * t + s) v).2 4 = G := fun _ => rfl
  refine ⟨fun c => ?_, fun c => ?_⟩
  · rw [p120_m, p120_m, nI_clamp (n := 120 * t + s) (by omega), nI_clamp (n := 120 * s + t) (by omega), g3, g4, nI_1]
    exact ⟨i1, i2, i1, i2, fin⟩
  · have hl2 : l ≠ Lt := fun e => c (by show σ.1 5 ≤ _; rw [h5, e]; exact nI_le (Nat.le_refl _) (by omega))
    have hne : ¬ F (120 * s + t) = 0 := he.resolve_left hl2
    rw [p120_m, p120_m, nI_clamp (n := 120 * t + s) (by omega), nI_clamp (n := 120 * s + t) (by omega), g3, g4, nI_1 t]
    exact ⟨i1, fun _ => ⟨i1, i2, i1, i2, fin⟩, fun c2 => absurd c2 hne⟩
theorem m_te24 {post : Int32 → St → Prop} {K : Int32 → Int32 → Int32 → Int32 → St → Prop} {σ : St} {r s t : Nat} {x2 : Int32} {F G : Nat → Int32} (hD : okD n Lt δ) (hT : TM σ n Lt δ) (hr : r < 1000) (hs : s < n) (ht : t < s) (hL : lpx Lt δ n r (PP s t) F G) (hq : eqv Lt δ r s t)
    (hno : eqv Lt δ (r + 1) s t → ∀ F' G', lpx Lt δ n r (PP s (t + 1)) F' G' → K (nI (r + 1)) x2 (nI s) (nI (t + 1)) (uA (uA σ 3 F') 4 G')) (hyes : ¬ eqv Lt δ (r + 1) s t → ∀ F' G', lpx Lt δ n r (PP s (t + 1)) F' G' → K (nI (r + 1)) 1 (nI s) (nI (t + 1)) (uA (uA σ 3 F') 4 G')) :
    ∀ (d l : Nat), l + d = Lt → (∀ j, j < l → ¬ tlc Lt δ (r + 1) s t j) → L_M_tell_24 post K (d + 1) (nI (r + 1)) x2 (nI s) (nI t) (nI l) (uA (uA σ 3 F) 4 G) := by
  have d2 := hD.2.1
  have d3 := hD.2.2.1
  have d4 := hD.2.2.2
  have htn : t < n := by omega
  have q1 := p120_lt d2 hs htn
  have i1 : vp_in (nI (120 * s + t)) 14400 := vp_in_nI q1 (by omega)
  have hF0 : F (120 * s + t) = 0 := by
    have := ((hL s t hs htn).2 (PP_no ht)).1
    rw [vl_0 Lt δ hq] at this
    exact this
  intro d
  induction d with
  | zero =>
    intro l hl hb
    have : l = Lt := by omega
    subst this
    have e1 : eqv l δ (r + 1) s t := by
      apply Classical.byContradiction
      intro q
      obtain ⟨j, hj, hj2⟩ := (tlc_ex l δ hq).mp q
      exact hb j hj hj2
    exact m_te_exit hD hT.1 hs ht (Nat.le_refl _) (lpx_keep l δ (PP_no ht) hL (by rw [vl_0 l δ e1, vl_0 l δ hq])) (Or.inl rfl) (hno e1)
  | succ d ih =>
    intro l hl hb
    have hlt : l < Lt := by omega
    have next : ¬ tlc Lt δ (r + 1) s t l → L_M_tell_24 post K (d + 1) (nI (r + 1)) x2 (nI s) (nI t) (nI (l + 1)) (uA (uA σ 3 F) 4 G) := fun q => ih (l + 1) (by omega) (fun j hj => by
      by_cases e : j = l
      · rw [e]; exact q
      · exact hb j (by omega))
    have told : tlc Lt δ (r + 1) s t l → L_M_tell_24 post K (d + 1) (nI (r + 1)) 1 (nI s) (nI t) (nI (l + 1)) (ua (ua (uA (uA σ 3 F) 4 G) 3 (120 * s + t) (nI (r + 1))) 4 (120 * s + t) (nI l)) := by
      intro q
      have ne : ¬ eqv Lt δ (r + 1) s t := (tlc_ex Lt δ hq).mpr ⟨l, hlt, q⟩
      have ed : dst Lt δ s t = r + 1 := dst_is Lt δ hq ne
      have ev : vl Lt δ (r + 1) s t = r + 1 := by rw [(vl_n Lt δ ne).1, ed]
      have ef : fst Lt δ s t = l := fst_is Lt δ hlt (by rw [ed]; exact q) (fun j hj => by rw [ed]; exact hb j hj)
      have e : ua (ua (uA (uA σ 3 F) 4 G) 3 (120 * s + t) (nI (r + 1))) 4 (120 * s + t) (nI l) = uA (uA σ 3 (upd F (120 * s + t) (nI (vl Lt δ (r + 1) s t)))) 4 (upd G (120 * s + t) (nI l)) := by
        rw [ev]
        unfold ua uA
        congr 1
        funext j
        unfold va_up
        by_cases q3 : j = 3
        · subst q3; simp
        · by_cases q4 : j = 4
          · subst q4; simp
          · simp [q3, q4]
      rw [e]
      refine m_te_exit hD hT.1 hs ht (by omega) (lpx_put Lt δ d2 hs htn hL (fun _ => by rw [ef])) (Or.inr ?_) (hyes ne)
      rw [pk_us, ev]
      exact nI_ne0 (by omega) (by omega)
    have sm : ∀ z, z < n → ∀ a, δ z l = some a → a < 2 ^ 31 := fun z hz a e => by have := d4 z l a hz hlt e; omega
    have gA : (uA (uA σ 3 F) 4 G).2 2 (40 * s + l) = enc (δ s l) := hT.2.2 s l hs hlt
    have gB : (uA (uA σ 3 F) 4 G).2 2 (40 * t + l) = enc (δ t l) := hT.2.2 t l htn hlt
    have g3 : (uA (uA σ 3 F) 4 G).2 3 = F := rfl
    refine ⟨fun c => absurd c (by show ¬ σ.1 5 ≤ _; rw [hT.1]; exact nI_ge hlt (by omega)), fun _ => ?_⟩
    rw [p120_m, p40_m, p40_m, nI_clamp (n := 40 * s + l) (by omega), nI_clamp (n := 40 * t + l) (by omega), nI_clamp (n := 120 * s + t) (by omega), gA, gB, g3, hF0, nI_1 l]
    refine ⟨i1, fun c => absurd rfl c, fun _ => ⟨vp_in_nI (by omega) (by omega), vp_in_nI (by omega) (by omega), fun c => ?_, fun c => ?_⟩⟩
    · have hr1 : 1 ≤ r := by
        rcases Nat.eq_zero_or_pos r with z | z
        · subst z; exact absurd rfl c
        · exact z
      refine ⟨fun c1 => next (fun q => ?_), fun c1 => ⟨fun c2 => next (fun q => ?_), fun c2 => ?_⟩⟩
      · have e := (enc_lt (sm s hs)).mp c1
        rcases q with ⟨z, _⟩ | ⟨_, x, y, z, _⟩
        · omega
        · rw [e] at z; cases z
      · have e := (enc_lt (sm t htn)).mp c2
        rcases q with ⟨z, _⟩ | ⟨_, x, y, _, z, _⟩
        · omega
        · rw [e] at z; cases z
      · cases hA : δ s l with
        | none => rw [hA] at c1; exact absurd (by decide) c1
        | some x =>
          cases hB : δ t l with
          | none => rw [hB] at c2; exact absurd (by decide) c2
          | some y =>
            have hx := d4 s l x hs hlt hA
            have hy := d4 t l y htn hlt hB
            show vp_in (nI 120 * nI x + nI y) 14400 ∧ _
            have ex : enc (some x) = nI x := rfl
            have ey : enc (some y) = nI y := rfl
            rw [ex, ey, p120_m, nI_clamp (n := 120 * x + y) (by omega), nI_pred]
            have key : F (120 * x + y) = nI r ↔ tlc Lt δ (r + 1) s t l := by
              have hv : ∃ k, r ≤ k ∧ F (120 * x + y) = nI (vl Lt δ k x y) ∧ k ≤ r + 1 := by
                rcases Classical.em (PP s t x y) with z | z
                · exact ⟨r + 1, by omega, ((hL x y hx hy).1 z).1, by omega⟩
                · exact ⟨r, by omega, ((hL x y hx hy).2 z).1, by omega⟩
              obtain ⟨k, hk1, hk2, hk3⟩ := hv
              have hvs : vl Lt δ k x y ≤ k := by unfold vl; split <;> omega
              rw [hk2, nI_eq (by omega) (by omega)]
              constructor
              · intro z
                have : dst Lt δ x y = r := by
                  unfold vl at z
                  split at z
                  · exact z
                  · omega
                exact Or.inr ⟨by omega, x, y, hA, hB, by omega⟩
              · intro z
                rcases z with ⟨z, _⟩ | ⟨_, x', y', z1, z2, z3⟩
                · omega
                · rw [hA] at z1
                  rw [hB] at z2
                  cases z1
                  cases z2
                  unfold vl
                  rw [if_pos (by omega)]
                  omega
            exact ⟨vp_in_nI (by omega) (by omega), fun c3 => next (fun q => c3 (key.mpr q)), fun c3 => ⟨i1, i1, told (key.mp c3)⟩⟩
    · have hr0 : r = 0 := by
        have := (nI_eq (a := r + 1) (b := 1) (by omega) (by omega)).mp c
        omega
      subst hr0
      refine ⟨fun c1 => ⟨fun c2 => next (fun q => ?_), fun c2 => ⟨i1, i1, told ?_⟩⟩, fun c1 => ⟨fun c2 => ⟨i1, i1, told ?_⟩, fun c2 => next (fun q => ?_)⟩⟩
      · have e1 := (enc_ge (sm s hs)).mp c1
        have e2 := (enc_ge (sm t htn)).mp c2
        rcases q with ⟨_, z | z⟩ | ⟨z, _⟩
        · exact e1 z.1
        · exact e2 z.2
        · omega
      · have e1 := (enc_ge (sm s hs)).mp c1
        have e2 : δ t l = none := by
          apply Classical.byContradiction
          intro z
          exact c2 ((enc_ge (sm t htn)).mpr z)
        exact Or.inl ⟨rfl, Or.inr ⟨e1, e2⟩⟩
      · have e2 := (enc_ge (sm t htn)).mp c2
        have e1 : δ s l = none := by
          apply Classical.byContradiction
          intro z
          exact c1 ((enc_ge (sm s hs)).mpr z)
        exact Or.inl ⟨rfl, Or.inl ⟨e1, e2⟩⟩
      · have e2 : δ t l = none := by
          apply Classical.byContradiction
          intro z
          exact c2 ((enc_ge (sm t htn)).mpr z)
        have e1 : δ s l = none := by
          apply Classical.byContradiction
          intro z
          exact c1 ((enc_ge (sm s hs)).mpr z)
        rcases q with ⟨_, z | z⟩ | ⟨z, _⟩
        · exact z.2 e2
        · exact z.1 e1
        · omega
/-- something was told by r + 1 letters among the pairs that are through -/
def TP (Lt : Nat) (δ : Nat → Nat → Option Nat) (r s t : Nat) : Prop := ∃ a b, b < a ∧ (a < s ∨ (a = s ∧ b < t)) ∧ dst Lt δ a b = r + 1
theorem TP_step {r s t : Nat} (h : t < s) : TP Lt δ r s (t + 1) ↔ TP Lt δ r s t ∨ dst Lt δ s t = r + 1 := by
  constructor
  · rintro ⟨a, b, h1, h2, h3⟩
    by_cases e : a = s ∧ b = t
    · obtain ⟨rfl, rfl⟩ := e
      exact Or.inr h3
    · exact Or.inl ⟨a, b, h1, by omega, h3⟩
  · rintro (⟨a, b, h1, h2, h3⟩ | z)
    · exact ⟨a, b, h1, by omega, h3⟩
    · exact ⟨s, t, h, by omega, z⟩
theorem TP_row (r s : Nat) : TP Lt δ r s s ↔ TP Lt δ r (s + 1) 0 := by
  constructor
  · rintro ⟨a, b, h1, h2, h3⟩
    exact ⟨a, b, h1, by omega, h3⟩
  · rintro ⟨a, b, h1, h2, h3⟩
    exact ⟨a, b, h1, by omega, h3⟩
theorem TP_stb {r : Nat} : TP Lt δ r n 0 ↔ ¬ stb Lt δ n r := by
  constructor
  · rintro ⟨a, b, h1, h2, h3⟩ q
    obtain ⟨k1, k2⟩ := dst_inv Lt δ h3
    exact k2 (q a b (by omega) (by omega) k1)
  · intro q
    apply Classical.byContradiction
    intro z
    apply q
    intro s t hs ht e
    apply Classical.byContradiction
    intro w
    have hd := dst_is Lt δ e w
    rcases Nat.lt_trichotomy s t with y | y | y
    · exact z ⟨t, s, y, by omega, by rw [dst_symm]; exact hd⟩
    · subst y; rw [dst_self] at hd; omega
    · exact z ⟨s, t, y, by omega, hd⟩
theorem m_te15 {post : Int32 → St → Prop} {K : Int32 → Int32 → Int32 → St → Prop} {σ : St} {r s : Nat} (hD : okD n Lt δ) (hT : TM σ n Lt δ) (hr : r < 1000) (hs : s < n) (h : ∀ F G, lpx Lt δ n r (PP (s + 1) 0) F G → K (nI (r + 1)) (cI (TP Lt δ r (s + 1) 0)) (nI (s + 1)) (uA (uA σ 3 F) 4 G)) :
    ∀ (d t : Nat) (F G : Nat → Int32), t + d = s → lpx Lt δ n r (PP s t) F G → L_M_tell_15 post K (d + 1) (nI (r + 1)) (cI (TP Lt δ r s t)) (nI s) (nI t) (uA (uA σ 3 F) 4 G) := by
  have d2 := hD.2.1
  intro d
  induction d with
  | zero =>
    intro t F G ht hL
    have : t = s := by omega
    subst this
    refine ⟨fun _ => ?_, fun c => absurd (nI_le (Nat.le_refl _) (by omega)) c⟩
    rw [nI_1, cI_iff (TP_row r t)]
    exact h F G (lpx_iff Lt δ hL (fun a b _ _ => Or.inr (PP_row t a b)))
  | succ d ih =>
    intro t F G ht hL
    have hts : t < s := by omega
    refine ⟨fun c => absurd c (nI_ge hts (by omega)), fun _ => ⟨Lt + 1, ?_⟩⟩
    rcases Classical.em (eqv Lt δ r s t) with q | q
    · refine m_te24 hD hT hr hs hts hL q (fun e F' G' hL' => ?_) (fun e F' G' hL' => ?_) Lt 0 (by omega) (fun j hj => by omega)
      · have e2 : cI (TP Lt δ r s t) = cI (TP Lt δ r s (t + 1)) := cI_iff (by
          rw [TP_step hts]
          exact ⟨Or.inl, fun z => z.elim id (fun w => absurd e (dst_inv Lt δ w).2)⟩)
        rw [e2]
        exact ih (t + 1) F' G' (by omega) hL'
      · have e2 : (1 : Int32) = cI (TP Lt δ r s (t + 1)) := (cI_t ((TP_step hts).mpr (Or.inr (dst_is Lt δ q e)))).symm
        rw [e2]
        exact ih (t + 1) F' G' (by omega) hL'
    · have hv := vl_n Lt δ q
      refine m_te_exit (l := 0) hD hT.1 hs hts (by omega) (lpx_keep Lt δ (PP_no hts) hL hv.2.2) (Or.inr ?_) (fun F' G' hL' => ?_)
      · rw [((hL s t hs (by omega)).2 (PP_no hts)).1]
        have : vl Lt δ r s t ≤ r := by unfold vl; split <;> omega
        exact nI_ne0 hv.2.1 (by omega)
      · have e2 : cI (TP Lt δ r s t) = cI (TP Lt δ r s (t + 1)) := cI_iff (by
          rw [TP_step hts]
          exact ⟨Or.inl, fun z => z.elim id (fun w => absurd (dst_inv Lt δ w).1 q)⟩)
        rw [e2]
        exact ih (t + 1) F' G' (by omega) hL'
theorem m_te4 {post : Int32 → St → Prop} {σ : St} {r : Nat} (hD : okD n Lt δ) (hT : TM σ n Lt δ) (hr : r < 1000) (h : ∀ F G, lpx Lt δ n r (PP n 0) F G → post (cI (¬ stb Lt δ n r)) (uA (uA σ 3 F) 4 G)) :
    ∀ (d s : Nat) (F G : Nat → Int32), s + d = n → lpx Lt δ n r (PP s 0) F G → L_M_tell_4 post (d + 1) (nI (r + 1)) (cI (TP Lt δ r s 0)) (nI s) (uA (uA σ 3 F) 4 G) := by
  have d2 := hD.2.1
  intro d
  induction d with
  | zero =>
    intro s F G hs hL
    have : s = n := by omega
    subst this
    refine ⟨fun _ => ⟨cI_zb _, ?_⟩, fun c => absurd (by show σ.1 4 ≤ _; rw [hT.2.1]; exact nI_le (Nat.le_refl _) (by omega)) c⟩
    rw [cI_iff (TP_stb (n := s))]
    exact h F G hL
  | succ d ih =>
    intro s F G hs hL
    refine ⟨fun c => absurd c (by show ¬ σ.1 4 ≤ _; rw [hT.2.1]; exact nI_ge (by omega) (by omega)), fun _ => ⟨s + 1, ?_⟩⟩
    exact m_te15 hD hT hr (by omega) (fun F' G' hL' => ih (s + 1) F' G' (by omega) hL') s 0 F G (by omega) hL
/-- the lengths and first letters up to r -/
def LE (Lt : Nat) (δ : Nat → Nat → Option Nat) (n r : Nat) (F G : Nat → Int32) : Prop := ∀ a b, a < n → b < n → F (120 * a + b) = nI (vl Lt δ r a b) ∧ (0 < vl Lt δ r a b → G (120 * a + b) = nI (fst Lt δ a b))
theorem m_tell {post : Int32 → St → Prop} {σ : St} {r : Nat} (hD : okD n Lt δ) (hT : TM σ n Lt δ) (hr : r < 1000) (hE : LE Lt δ n r (σ.2 3) (σ.2 4)) (h : ∀ F G, LE Lt δ n (r + 1) F G → post (cI (¬ stb Lt δ n r)) (uA (uA σ 3 F) 4 G)) : wp_M_tell (nI (r + 1)) σ post := by
  refine ⟨n + 1, ?_⟩
  have e0 : cI (TP Lt δ r 0 0) = 0 := cI_f (fun ⟨a, b, h1, h2, _⟩ => by omega)
  have key := m_te4 (post := post) hD hT hr (fun F G hL => h F G (fun a b ha hb => by
    by_cases e : a = b
    · subst e
      have hz : ¬ PP n 0 a a := by unfold PP; omega
      have := ((hL a a ha hb).2 hz).1
      rw [vl_self] at this ⊢
      exact ⟨this, fun q => by omega⟩
    · exact (hL a b ha hb).1 (by unfold PP; omega))) n 0 (σ.2 3) (σ.2 4) (by omega) (fun a b ha hb => ⟨fun q => by unfold PP at q; omega, fun _ => hE a b ha hb⟩)
  rw [e0] at key
  have e1 : uA (uA σ 3 (σ.2 3)) 4 (σ.2 4) = σ := by
    rw [uA_id σ 3, uA_id σ 4]
  rw [e1] at key
  exact key
end TM
