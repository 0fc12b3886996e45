/-! MAKE: the class and the reference come to one table. -/
def dlt (W : Nat → Int32) (N : Nat) (S : List Int32) (s l : Nat) : Option Nat := if rch W l (S.getD s 0) N = 0 then none else some (ixl S (rch W l (S.getD s 0) N))
theorem getD_at {S : List Int32} {s : Nat} (h : s < S.length) : S[s]? = some (S.getD s 0) := by
  rw [List.getD_eq_getElem?_getD, List.getElem?_eq_getElem h]
  rfl
theorem BFS_spec {W : Nat → Int32} {N Lt s0 : Nat} {S : List Int32} (h : BFS W N Lt s0 = some S) : okS W N Lt S ∧ ∀ s l, s < S.length → l < Lt → rch W l (S.getD s 0) N = 0 ∨ rch W l (S.getD s 0) N ∈ S := by
  have h0 : okS W N Lt [(1 : Int32) <<< (nI s0 &&& 31)] := ⟨by simp, by simp, by simp, fun k y hk hy => by
    have := (List.getElem?_eq_some_iff.mp hy).1
    simp at this
    omega⟩
  obtain ⟨_, h2, h3⟩ := bfs_spec W N Lt 122 0 _ S h h0 (fun k x hk => by omega) (by simp)
  exact ⟨h2, fun s l hs hl => h3 s _ (getD_at hs) l hl⟩
theorem dlt_ok {W : Nat → Int32} {N Lt s0 : Nat} {S : List Int32} (hL : Lt ≤ 40) (h : BFS W N Lt s0 = some S) : okD S.length Lt (dlt W N S) := by
  obtain ⟨h1, h2⟩ := BFS_spec h
  refine ⟨h1.2.1, h1.2.2.1, hL, fun s l a hs hl e => ?_⟩
  unfold dlt at e
  by_cases c : rch W l (S.getD s 0) N = 0
  · rw [if_pos c] at e; cases e
  · rw [if_neg c] at e
    have := Option.some.inj e
    rw [← this]
    exact ixl_lt ((h2 s l hs hl).resolve_left c)
theorem stv_dlt {W : Nat → Int32} {N Lt s0 : Nat} {S : List Int32} (h : BFS W N Lt s0 = some S) {s l : Nat} (hs : s < S.length) (hl : l < Lt) : stv W N S s l = enc (dlt W N S s l) := by
  obtain ⟨h1, h2⟩ := BFS_spec h
  unfold stv dlt
  by_cases c : rch W l (S.getD s 0) N = 0
  · rw [if_pos c, if_pos c]; rfl
  · rw [if_neg c, if_neg c]
    unfold ixo
    rw [if_pos ((h2 s l hs hl).resolve_left c)]
    rfl
theorem gl_dlt {W : Nat → Int32} {N Lt : Nat} {S : List Int32} {g : Nat → Int32} (h : gl W N Lt S g S.length 0) {s l : Nat} (hs : s < S.length) (hl : l < Lt) : g (40 * s + l) = enc (dlt W N S s l) := by
  have hh := h s l _ hl (Or.inl hs) (getD_at hs)
  unfold dlt
  by_cases c : rch W l (S.getD s 0) N = 0
  · rw [if_pos c]; exact hh.1 c
  · rw [if_neg c]; exact (hh.2 c).2
/-- each set but the first is led to from one before it -/
theorem dlt_par {W : Nat → Int32} {N Lt s0 : Nat} {S : List Int32} (h : BFS W N Lt s0 = some S) {k : Nat} (hk : 0 < k) (hkn : k < S.length) : ∃ s l, s < k ∧ l < Lt ∧ dlt W N S s l = some k := by
  obtain ⟨h1, _⟩ := BFS_spec h
  obtain ⟨s, x, l, a1, a2, a3, a4, a5⟩ := h1.2.2.2 k _ hk (getD_at hkn)
  refine ⟨s, l, a1, a2, ?_⟩
  have hx : S.getD s 0 = x := by rw [List.getD_eq_getElem?_getD, a3]; rfl
  unfold dlt
  rw [hx, a5, if_neg a4, ixl_nodup h1.1 (getD_at hkn)]
theorem dlt_ord {W : Nat → Int32} {N Lt s0 : Nat} {S : List Int32} (h : BFS W N Lt s0 = some S) : ord S.length Lt (dlt W N S) := by
  obtain ⟨h1, _⟩ := BFS_spec h
  have h2 := bfs_ord W N Lt 122 0 _ S h (by simp) (fun k y hk hy => by
    have := (List.getElem?_eq_some_iff.mp hy).1
    simp at this
    omega) (fun s' l' x _ z => by unfold bef at z; omega)
  intro k hk hkn
  obtain ⟨s, x, l, a1, a2, a3, a4, a5, a6⟩ := h2 k _ hk (getD_at hkn)
  have hx : S.getD s 0 = x := by rw [List.getD_eq_getElem?_getD, a3]; rfl
  refine ⟨s, l, a1, a2, ?_, fun s' l' t b1 b2 b3 => ?_⟩
  · unfold dlt
    rw [hx, a5, if_neg a4, ixl_nodup h1.1 (getD_at hkn)]
  · unfold dlt at b3
    have hs' : s' < S.length := by unfold bef at b2; omega
    rcases a6 s' l' _ b1 b2 (getD_at hs') with z | ⟨j, z1, z2⟩
    · rw [if_pos z] at b3; cases b3
    · by_cases c : rch W l' (S.getD s' 0) N = 0
      · rw [if_pos c] at b3; cases b3
      · rw [if_neg c, ixl_nodup h1.1 z2] at b3
        have := Option.some.inj b3
        omega
/-- alike sets lead to alike sets -/
theorem ld_cg {n Lt R : Nat} {δ : Nat → Nat → Option Nat} (hst : stb Lt δ n R) (s l t : Nat) (hs : s < n) (hl : l < Lt) (hd : δ s l = some t) : ∃ t', δ (ld Lt δ R s) l = some t' ∧ ld Lt δ R t' = ld Lt δ R t := by
  have hs1 := hst _ s (Nat.lt_of_le_of_lt (ld_le Lt δ R s) hs) hs (ld_eqv Lt δ R s)
  have hsim := hs1.2 l hl
  rw [hd] at hsim
  cases hy : δ (ld Lt δ R s) l with
  | none => rw [hy] at hsim; exact False.elim hsim
  | some y =>
    rw [hy] at hsim
    exact ⟨y, rfl, (ld_iff Lt δ).mpr (show eqv Lt δ R y t from hsim)⟩
/-- every leader has a number -/
theorem all_num {n Lt R : Nat} {δ : Nat → Nat → Option Nat} (hD : okD n Lt δ) (hst : stb Lt δ n R) (hpar : ∀ k, 0 < k → k < n → ∃ s l, s < k ∧ l < Lt ∧ δ s l = some k) : okQ (ld Lt δ R) n (nout Lt δ (ld Lt δ R) (n + 1) 0 [0]) ∧ ∀ x, x < n → ld Lt δ R x ∈ nout Lt δ (ld Lt δ R) (n + 1) 0 [0] := by
  have r0 : ld Lt δ R 0 = 0 := Nat.le_zero.mp (ld_le Lt δ R 0)
  have hρ : ∀ x, x < n → ld Lt δ R x < n ∧ ld Lt δ R (ld Lt δ R x) = ld Lt δ R x := fun x hx => ⟨Nat.lt_of_le_of_lt (ld_le Lt δ R x) hx, ld_idem Lt δ R x⟩
  obtain ⟨g1, ⟨T, g2⟩, g3⟩ := nout_spec Lt δ (ld Lt δ R) hD.2.2.2 hρ (n + 1) 0 [0] (by omega) ⟨by simp, by simp, fun x hx => by simp at hx; subst hx; exact ⟨hD.1, r0⟩⟩ (by simp) (fun k x hk => by omega)
  refine ⟨g1, fun x => ?_⟩
  induction x using Nat.strongRecOn with
  | _ x ih =>
    intro hx
    rcases Nat.eq_zero_or_pos x with z | z
    · subst z
      rw [r0, g2]
      simp
    · obtain ⟨s, l, h1, h2, h3⟩ := hpar x z hx
      have hin := ih s h1 (by omega)
      have hs1 := hst _ s (Nat.lt_of_le_of_lt (ld_le Lt δ R s) (by omega)) (by omega) (ld_eqv Lt δ R s)
      have hsim := hs1.2 l h2
      rw [h3] at hsim
      cases hy : δ (ld Lt δ R s) l with
      | none => rw [hy] at hsim; exact False.elim hsim
      | some y =>
        rw [hy] at hsim
        have e := (ld_iff Lt δ).mpr (show eqv Lt δ R y x from hsim)
        rw [← e]
        exact g3 _ hin l h2 y hy
/-- a table; the class's, the reference's -/
def okT (n Lt : Nat) (δ : Nat → Nat → Option Nat) (R : Nat) (Q : List Nat) (S : List Int32) : Prop := okD n Lt δ ∧ R < n ∧ stb Lt δ n R ∧ (∀ r, r < R → ¬ stb Lt δ n r) ∧ S.length = n ∧ okQ (ld Lt δ R) n Q ∧ ∀ x, x < n → ld Lt δ R x ∈ Q
def TC (σ : St) (n Lt : Nat) (δ : Nat → Nat → Option Nat) (R : Nat) (Q : List Nat) (S : List Int32) : Prop := TS σ n Lt δ ∧ arr (σ.2 1) S ∧ (∀ j, j < n → σ.2 4 j = nI (ld Lt δ R j)) ∧ RL n (ld Lt δ R) (dst Lt δ) (σ.2 8) ∧ σ.1 7 = nI R ∧ σ.1 6 = nI Q.length ∧ (∀ (q x : Nat), Q[q]? = some x → σ.2 7 q = nI x) ∧ ∀ x, x < n → σ.2 6 x = soQ Q (ld Lt δ R x)
def TR (σ : St) (n Lt : Nat) (δ : Nat → Nat → Option Nat) (R : Nat) (Q : List Nat) (S : List Int32) : Prop := TM σ n Lt δ ∧ arr (σ.2 1) S ∧ LD Lt δ n (σ.2 3) (σ.2 4) ∧ σ.1 6 = nI Q.length ∧ (∀ (q x : Nat), Q[q]? = some x → σ.2 6 q = nI x) ∧ ∀ x, x < n → σ.2 5 x = soQ Q (ld Lt δ R x)
theorem TC.fr {σ τ : St} {n Lt R : Nat} {δ : Nat → Nat → Option Nat} {Q : List Nat} {S : List Int32} {ss aa : List Nat} (h : TC σ n Lt δ R Q S) (f : Fr σ τ ss aa) (hs : ∀ k, k ∈ ss → k < 4) (ha : ∀ k, k ∈ aa → k = 0 ∨ k = 2) : TC τ n Lt δ R Q S := by
  have s : ∀ k, 4 ≤ k → τ.1 k = σ.1 k := fun k hk => f.1 k (fun z => by have := hs k z; omega)
  have a : ∀ k, k ≠ 0 → k ≠ 2 → τ.2 k = σ.2 k := fun k h0 h2 => f.2 k (fun z => by have := ha k z; omega)
  obtain ⟨h1, h2, h3, h4, h5, h6, h7, h8⟩ := h
  refine ⟨⟨(s 4 (by omega)).trans h1.1, (s 5 (by omega)).trans h1.2.1, ?_⟩, ?_, ?_, ?_, (s 7 (by omega)).trans h5, (s 6 (by omega)).trans h6, ?_, ?_⟩
  · rw [a 3 (by omega) (by omega)]; exact h1.2.2
  · rw [a 1 (by omega) (by omega)]; exact h2
  · rw [a 4 (by omega) (by omega)]; exact h3
  · rw [a 8 (by omega) (by omega)]; exact h4
  · rw [a 7 (by omega) (by omega)]; exact h7
  · rw [a 6 (by omega) (by omega)]; exact h8
theorem TR.fr {σ τ : St} {n Lt R : Nat} {δ : Nat → Nat → Option Nat} {Q : List Nat} {S : List Int32} {ss aa : List Nat} (h : TR σ n Lt δ R Q S) (f : Fr σ τ ss aa) (hs : ∀ k, k ∈ ss → k < 4 ∨ k = 7) (ha : ∀ k, k ∈ aa → k = 0 ∨ k = 7 ∨ k = 8) : TR τ n Lt δ R Q S := by
  have s : ∀ k, 4 ≤ k → k ≠ 7 → τ.1 k = σ.1 k := fun k hk h7 => f.1 k (fun z => by have := hs k z; omega)
  have a : ∀ k, k ≠ 0 → k ≠ 7 → k ≠ 8 → τ.2 k = σ.2 k := fun k h0 h7 h8 => f.2 k (fun z => by have := ha k z; omega)
  obtain ⟨h1, h2, h3, h4, h5, h6⟩ := h
  refine ⟨⟨(s 5 (by omega) (by omega)).trans h1.1, (s 4 (by omega) (by omega)).trans h1.2.1, ?_⟩, ?_, ?_, (s 6 (by omega) (by omega)).trans h4, ?_, ?_⟩
  · rw [a 2 (by omega) (by omega) (by omega)]; exact h1.2.2
  · rw [a 1 (by omega) (by omega) (by omega)]; exact h2
  · rw [a 3 (by omega) (by omega) (by omega), a 4 (by omega) (by omega) (by omega)]; exact h3
  · rw [a 6 (by omega) (by omega) (by omega)]; exact h5
  · rw [a 5 (by omega) (by omega) (by omega)]; exact h6
theorem w_make {σ : St} {N Lt s0 : Nat} {W : Nat → Int32} {post : Int32 → St → Prop} (hg : GG σ N Lt s0 W) (ok : okG N Lt s0 W) (h0 : BFS W N Lt s0 = none → ∀ τ : St, Fr σ τ [] [2] → post (-1) τ)
    (h1 : ∀ S, BFS W N Lt s0 = some S → ∀ R, R < S.length → stb Lt (dlt W N S) S.length R → (∀ r, r < R → ¬ stb Lt (dlt W N S) S.length r) → ∀ τ : St, Fr σ τ [0, 4, 5, 6, 7] [1, 2, 3, 4, 5, 6, 7, 8] → τ.1 0 = 0 → TC τ S.length Lt (dlt W N S) R (nout Lt (dlt W N S) (ld Lt (dlt W N S) R) (S.length + 1) 0 [0]) S → post (nI (nout Lt (dlt W N S) (ld Lt (dlt W N S) R) (S.length + 1) 0 [0]).length) τ) : wp_W_make σ post := by
  have hL := ok.2.2.2.1
  unfold wp_W_make wp_T_build_1
  refine t_findSets hg ok (fun hb g => ⟨fun c => absurd rfl c, fun _ => ⟨fun c => absurd rfl c, fun _ => h0 hb _ (Fr.uA Fr.rf (by simp))⟩⟩) (fun S hS g hag hlen => ⟨fun _ => ?_, fun c => absurd c (nI_ne1 (by omega))⟩)
  have hD := dlt_ok hL hS
  have d1 := hD.1
  refine ⟨cpok_0 hlen, ?_⟩
  obtain ⟨R, hR1, hR2, hR3⟩ := stb_ex Lt (dlt W N S) (n := S.length) (by omega)
  rw [nI_clamp (by omega)]
  generalize hσ' : uA (us (us (uA σ 2 g) 4 ((uA σ 2 g).1 2)) 5 (nI S.length)) 1 (va_cpy ((us (us (uA σ 2 g) 4 ((uA σ 2 g).1 2)) 5 (nI S.length)).2 2) ((us (us (uA σ 2 g) 4 ((uA σ 2 g).1 2)) 5 (nI S.length)).2 1) ((0 : Int32).toNatClampNeg) ((0 : Int32).toNatClampNeg) S.length) = σ'
  have f0 : Fr σ σ' [0, 4, 5, 6, 7] [1, 2, 3, 4, 5, 6, 7, 8] := by
    rw [← hσ']
    exact Fr.uA (Fr.us (Fr.us (Fr.uA Fr.rf (by simp)) (by simp)) (by simp)) (by simp)
  have e4 : σ'.1 4 = nI Lt := by rw [← hσ']; exact hg.2.1
  have e5 : σ'.1 5 = nI S.length := by rw [← hσ']; rfl
  have e1 : arr (σ'.2 1) S := by
    rw [← hσ']
    exact arr_of hag (fun i hi => cpy_0 hi)
  have hg' : GG σ' N Lt s0 W := hg.fr f0 (by simp) (by simp) (by simp) (by simp)
  refine t_laySteps hg' ok e4 e5 e1 hlen (fun gs hlay => ?_)
  have f1 : Fr σ (uA σ' 3 gs) [0, 4, 5, 6, 7] [1, 2, 3, 4, 5, 6, 7, 8] := Fr.uA f0 (by simp)
  have hTS : TS (uA σ' 3 gs) S.length Lt (dlt W N S) := ⟨e4, e5, fun s l hs hl => by
    show gs (40 * s + l) = _
    rw [hlay s l hl (Or.inl hs), stv_dlt hS hs hl]⟩
  refine t_partSets hD hR1 hR2 hR3 hTS (fun τ hf k4 kL k7 => ?_)
  have hTS2 := hTS.fr hf (by simp) (by simp) (by simp)
  have eN : nout Lt (dlt W N S) (ld Lt (dlt W N S) R) (S.length + 1) 0 [0] = ldr (ld Lt (dlt W N S) R) S.length := nout_ldr d1 (dlt_ord hS) hD.2.2.2 (fun x => ld_le Lt _ R x) (fun x => ld_idem Lt _ R x) (ld_cg hR2)
  refine t_numberStates hD (fun x => ld_le Lt _ R x) (fun x => ld_idem Lt _ R x) hTS2 k4 (fun υ hf2 j6 j7 js => ?_)
  rw [← eN] at j6 j7 js
  refine ⟨fun _ => ?_, fun c => absurd c (by decide)⟩
  have e6 : (us υ 0 0).1 6 = nI (nout Lt (dlt W N S) (ld Lt (dlt W N S) R) (S.length + 1) 0 [0]).length := j6
  rw [e6]
  have hTS3 := hTS2.fr hf2 (by simp) (by simp) (by simp)
  refine h1 S hS R hR1 hR2 hR3 (us υ 0 0) ?_ (us_s _ _ _) ⟨hTS3, ?_, ?_, ?_, ?_, j6, j7, js⟩
  · exact Fr.us ((f1.tr (hf.mo (fun k hk => by simp at hk ⊢; omega) (fun k hk => by simp at hk ⊢; omega))).tr (hf2.mo (fun k hk => by simp at hk ⊢; omega) (fun k hk => by simp at hk ⊢; omega))) (by simp)
  · show arr (υ.2 1) S
    rw [hf2.2 1 (by simp), hf.2 1 (by simp)]
    exact e1
  · intro j hj
    show υ.2 4 j = _
    rw [hf2.2 4 (by simp)]
    exact k4 j hj
  · show RL _ _ _ (υ.2 8)
    rw [hf2.2 8 (by simp)]
    exact kL
  · show υ.1 7 = _
    rw [hf2.1 7 (by simp)]
    exact k7
theorem m_make {σ : St} {N Lt s0 : Nat} {W : Nat → Int32} {post : Int32 → St → Prop} (hg : GG σ N Lt s0 W) (ok : okG N Lt s0 W) (h0 : BFS W N Lt s0 = none → ∀ τ : St, Fr σ τ [0] [7, 8] → post (-1) τ)
    (h1 : ∀ S, BFS W N Lt s0 = some S → ∀ R, R < S.length → stb Lt (dlt W N S) S.length R → (∀ r, r < R → ¬ stb Lt (dlt W N S) S.length r) → ∀ τ : St, Fr σ τ [0, 4, 5, 6, 7] [1, 2, 3, 4, 5, 6, 7, 8] → τ.1 7 = 0 → TR τ S.length Lt (dlt W N S) R (nout Lt (dlt W N S) (ld Lt (dlt W N S) R) (S.length + 1) 0 [0]) S → post (nI (nout Lt (dlt W N S) (ld Lt (dlt W N S) R) (S.length + 1) 0 [0]).length) τ) : wp_M_make σ post := by
  have hL := ok.2.2.2.1
  unfold wp_M_make
  have hg0 : GG (us σ 0 0) N Lt s0 W := ⟨hg.1, hg.2.1, hg.2.2.1, hg.2.2.2⟩
  refine m_follow hg0 ok (fun hb f g => ⟨fun c => absurd c (by decide), fun _ => h0 hb _ (Fr.uA (Fr.uA (Fr.us Fr.rf (by simp)) (by simp)) (by simp))⟩) (fun S hS f g haf hgl hlen => ⟨fun _ => ?_, fun c => absurd (nI_pos' (by omega)) c⟩)
  have hD := dlt_ok hL hS
  have d1 := hD.1
  obtain ⟨R, hR1, hR2, hR3⟩ := stb_ex Lt (dlt W N S) (n := S.length) (by omega)
  generalize hσ' : us (us (uA (uA (us σ 0 0) 7 f) 8 g) 4 (nI S.length)) 5 ((us (uA (uA (us σ 0 0) 7 f) 8 g) 4 (nI S.length)).1 2) = σ'
  have f0 : Fr σ σ' [0, 4, 5, 6, 7] [1, 2, 3, 4, 5, 6, 7, 8] := by
    rw [← hσ']
    exact Fr.us (Fr.us (Fr.uA (Fr.uA (Fr.us Fr.rf (by simp)) (by simp)) (by simp)) (by simp)) (by simp)
  have e2 : σ'.1 2 = nI Lt := by rw [← hσ']; exact hg.2.1
  have e5 : σ'.1 5 = nI Lt := by rw [← hσ']; exact (us_s _ _ _).trans hg.2.1
  have e4 : σ'.1 4 = nI S.length := by rw [← hσ']; rfl
  have e7 : σ'.2 7 = f := by rw [← hσ']; rfl
  have e8 : σ'.2 8 = g := by rw [← hσ']; rfl
  refine ⟨S.length + 1, ?_⟩
  have key := m_mk31 (post := post) (σ := σ') (n := S.length) hlen hL e2 (fun f1 g1 hf1 hy1 => ⟨14401, m_mk94 14400 0 _ (by omega) (fun τ hτ => ⟨R + 1, ?_⟩)⟩) S.length 0 (σ'.2 1) (σ'.2 2) (by omega) (fun i hi => by omega) (fun s' l' _ h => by omega)
  · have ee : uA (uA σ' 1 (σ'.2 1)) 2 (σ'.2 2) = σ' := by rw [uA_id σ' 1, uA_id σ' 2]
    rw [ee] at key
    exact key
  · have fτ : Fr σ τ [0, 4, 5, 6, 7] [1, 2, 3, 4, 5, 6, 7, 8] := by
      rw [hτ]
      exact Fr.uA (Fr.uA (Fr.uA f0 (by simp)) (by simp)) (by simp)
    have t2 : τ.1 2 = nI Lt := by rw [hτ]; exact e2
    have tT : TM τ S.length Lt (dlt W N S) := by
      rw [hτ]
      refine ⟨e5, e4, fun s l hs hl => ?_⟩
      show g1 (40 * s + l) = _
      rw [hy1 s l hl (Or.inl hs), e8]
      exact gl_dlt hgl hs hl
    have tE : LE Lt (dlt W N S) S.length 0 (τ.2 3) (τ.2 4) := by
      intro a b ha hb
      have ev : vl Lt (dlt W N S) 0 a b = 0 := vl_0 Lt _ trivial
      rw [ev]
      refine ⟨?_, fun q => by omega⟩
      rw [hτ]
      show fll _ 0 14400 0 (120 * a + b) = _
      unfold fll
      rw [if_pos ⟨by omega, by omega⟩]
      rfl
    refine m_mk116 hD hR1 hR2 hR3 R 0 τ (by omega) t2 tT tE (fun υ hf h7 hLD j6 j7 js => ?_)
    refine h1 S hS R hR1 hR2 hR3 υ (fτ.tr (hf.mo (fun k hk => by simp at hk ⊢; omega) (fun k hk => by simp at hk ⊢; omega))) h7 ⟨tT.fr hf (by simp) (by simp) (by simp), ?_, hLD, j6, j7, js⟩
    rw [hf.2 1 (by simp), hτ]
    show arr f1 S
    exact arr_of haf (fun i hi => by rw [hf1 i hi, e7])
