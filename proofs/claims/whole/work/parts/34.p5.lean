/-! THE SETS, 2: findSets, laySteps whole; follow of the reference. -/
def BFS (W : Nat → Int32) (N Lt s0 : Nat) : Option (List Int32) := bfs W N Lt 122 0 [(1 : Int32) <<< (nI s0 &&& 31)]
theorem t_findSets {post : Int32 → St → Prop} {σ : St} {N Lt s0 : Nat} {W : Nat → Int32} (hg : GG σ N Lt s0 W) (ok : okG N Lt s0 W) (h0 : BFS W N Lt s0 = none → ∀ g, post (-1) (uA σ 2 g)) (h1 : ∀ S, BFS W N Lt s0 = some S → ∀ g, arr g S → S.length ≤ 120 → post (nI S.length) (uA σ 2 g)) : wp_T_findSets_1 σ post := by
  refine ⟨vp_in_nI (n := 0) (by omega) (by omega), 122, ?_⟩
  rw [hg.2.2.1]
  refine t_fs16 hg ok 122 0 [(1 : Int32) <<< (nI s0 &&& 31)] _ (by omega) (by simp) (by simp) (fun i hi => ?_) h0 h1
  have : i = 0 := by simp at hi; omega
  subst this
  rfl
/-- where a letter leads: the number of a set, or -1 -/
def stv (W : Nat → Int32) (N : Nat) (S : List Int32) (s l : Nat) : Int32 := if rch W l (S.getD s 0) N = 0 then -1 else ixo S (rch W l (S.getD s 0) N)
def lay (Lt : Nat) (v : Nat → Nat → Int32) (g : Nat → Int32) (s l : Nat) : Prop := ∀ s' l', l' < Lt → (s' < s ∨ (s' = s ∧ l' < l)) → g (40 * s' + l') = v s' l'
theorem lay_step {Lt : Nat} {v : Nat → Nat → Int32} {g : Nat → Int32} {s l : Nat} (hL : Lt ≤ 40) (hl : l < Lt) (h : lay Lt v g s l) : lay Lt v (upd g (40 * s + l) (v s l)) s (l + 1) := by
  intro s' l' h1 h2
  unfold upd
  by_cases e : 40 * s' + l' = 40 * s + l
  · have : s' = s ∧ l' = l := by omega
    rw [if_pos e, this.1, this.2]
  · rw [if_neg e]
    refine h s' l' h1 ?_
    rcases h2 with z | ⟨z1, z2⟩
    · exact Or.inl z
    · right
      refine ⟨z1, ?_⟩
      have : l' ≠ l := fun q => e (by rw [z1, q])
      omega
theorem lay_next {Lt : Nat} {v : Nat → Nat → Int32} {g : Nat → Int32} {s : Nat} (h : lay Lt v g s Lt) : lay Lt v g (s + 1) 0 := by
  intro s' l' h1 h2
  refine h s' l' h1 ?_
  rcases h2 with z | ⟨_, z2⟩
  · by_cases e : s' = s
    · exact Or.inr ⟨e, h1⟩
    · exact Or.inl (by omega)
  · omega
theorem p40_c (s l : Nat) : (nI s * nI 40) + nI l = nI (40 * s + l) := by rw [pk_mul, nI_add, Nat.mul_comm]
theorem p40_m (s l : Nat) : (nI 40 * nI s) + nI l = nI (40 * s + l) := by rw [pk_mul, nI_add]
theorem p120_m (s l : Nat) : (nI 120 * nI s) + nI l = nI (120 * s + l) := by rw [pk_mul, nI_add]
theorem arr_get {f : Nat → Int32} {S : List Int32} (h : arr f S) {s : Nat} (hs : s < S.length) : f s = S.getD s 0 := by
  have a := h s hs
  rw [List.getD_eq_getElem?_getD, a]
  rfl
theorem t_ls12 {post : St → Prop} {K : Int32 → St → Prop} {σ : St} {N Lt s0 s : Nat} {W : Nat → Int32} {S : List Int32} (hg : GG σ N Lt s0 W) (ok : okG N Lt s0 W) (h4 : σ.1 4 = nI Lt) (h5 : σ.1 5 = nI S.length) (ha : arr (σ.2 1) S) (hS : S.length ≤ 120) (hs : s < S.length) (hK : ∀ g, lay Lt (stv W N S) g (s + 1) 0 → K (nI (s + 1)) (uA σ 3 g)) :
    ∀ (d l : Nat) (g : Nat → Int32), l + d = Lt → lay Lt (stv W N S) g s l → L_T_laySteps_1_12 post K (d + 1) (nI s) (nI l) (uA σ 3 g) := by
  have hN := ok.2.1
  have hL := ok.2.2.2.1
  intro d
  induction d with
  | zero =>
    intro l g hl hy
    have : l = Lt := by omega
    subst this
    refine ⟨fun _ => ?_, fun c => absurd (by show σ.1 4 ≤ _; rw [h4]; exact nI_le (Nat.le_refl _) (by omega)) c⟩
    rw [nI_1]
    exact hK g (lay_next hy)
  | succ d ih =>
    intro l g hl hy
    have hlt : l < Lt := by omega
    have hp : 40 * s + l < 4800 := by omega
    refine ⟨fun c => absurd c (by show ¬ σ.1 4 ≤ _; rw [h4]; exact nI_ge hlt (by omega)), fun _ => ⟨vp_in_nI (by omega) (by omega), ?_⟩⟩
    rw [nI_clamp (by omega), nI_1, p40_c]
    have ef : (uA σ 3 g).2 1 s = S.getD s 0 := arr_get ha hs
    rw [ef]
    refine g_reach (σ := uA σ 3 g) hN (by omega) hg.1 hg.2.2.2 ⟨fun c => ?_, fun c => ?_⟩
    · have e5 : (uA σ 3 g).1 5 = nI S.length := h5
      rw [e5]
      refine t_ix4 (σ := uA σ 3 g) hS ha ⟨vp_in_nI hp (by omega), ?_⟩
      rw [nI_clamp (by omega)]
      unfold ua
      rw [uA_uA, uA_s]
      have ev : ixo S (rch W l (S.getD s 0) N) = stv W N S s l := by unfold stv; rw [if_neg c]
      rw [ev]
      exact ih (l + 1) _ (by omega) (lay_step hL hlt hy)
    · refine ⟨vp_in_nI hp (by omega), ?_⟩
      rw [nI_clamp (by omega)]
      unfold ua
      rw [uA_uA, uA_s]
      have ev : (-1 : Int32) = stv W N S s l := by unfold stv; rw [if_pos c]
      rw [ev]
      exact ih (l + 1) _ (by omega) (lay_step hL hlt hy)
theorem t_ls2 {post : St → Prop} {σ : St} {N Lt s0 : Nat} {W : Nat → Int32} {S : List Int32} (hg : GG σ N Lt s0 W) (ok : okG N Lt s0 W) (h4 : σ.1 4 = nI Lt) (h5 : σ.1 5 = nI S.length) (ha : arr (σ.2 1) S) (hS : S.length ≤ 120) (hp : ∀ g, lay Lt (stv W N S) g S.length 0 → post (uA σ 3 g)) :
    ∀ (d s : Nat) (g : Nat → Int32), s + d = S.length → lay Lt (stv W N S) g s 0 → L_T_laySteps_1_2 post (d + 1) (nI s) (uA σ 3 g) := by
  intro d
  induction d with
  | zero =>
    intro s g hs hy
    have : s = S.length := by omega
    subst this
    exact ⟨fun _ => hp g hy, fun c => absurd (by show σ.1 5 ≤ _; rw [h5]; exact nI_le (Nat.le_refl _) (by omega)) c⟩
  | succ d ih =>
    intro s g hs hy
    refine ⟨fun c => absurd c (by show ¬ σ.1 5 ≤ _; rw [h5]; exact nI_ge (by omega) (by omega)), fun _ => ⟨Lt + 1, ?_⟩⟩
    exact t_ls12 hg ok h4 h5 ha hS (by omega) (fun g' hy' => ih (s + 1) g' (by omega) hy') Lt 0 g (by omega) hy
theorem t_laySteps {post : St → Prop} {σ : St} {N Lt s0 : Nat} {W : Nat → Int32} {S : List Int32} (hg : GG σ N Lt s0 W) (ok : okG N Lt s0 W) (h4 : σ.1 4 = nI Lt) (h5 : σ.1 5 = nI S.length) (ha : arr (σ.2 1) S) (hS : S.length ≤ 120) (hp : ∀ g, lay Lt (stv W N S) g S.length 0 → post (uA σ 3 g)) : wp_T_laySteps_1 σ post :=
  ⟨S.length + 1, by
    have := t_ls2 hg ok h4 h5 ha hS hp S.length 0 (σ.2 3) (by omega) (fun s' l' _ h => by omega)
    rwa [uA_id] at this⟩
/-- follow: the search for a set -/
theorem m_fo47 {post : Int32 → St → Prop} {K : Int32 → Int32 → Int32 → St → Prop} {σ : St} {S : List Int32} {s l : Nat} {r : Int32} (hS : S.length ≤ 120) (ha : arr (σ.2 7) S) (hs : s < 120) (hl : l < 40)
    (hz : r = 0 → K (nI S.length) (nI s) (nI (l + 1)) (ua σ 8 (40 * s + l) (-1))) (hm : r ≠ 0 → r ∈ S → K (nI S.length) (nI s) (nI (l + 1)) (ua σ 8 (40 * s + l) (nI (ixl S r)))) (hn : r ≠ 0 → r ∉ S → S.length < 120 → K (nI (S.length + 1)) (nI s) (nI (l + 1)) (ua (ua σ 7 S.length r) 8 (40 * s + l) (nI S.length))) (ho : r ≠ 0 → r ∉ S → S.length = 120 → post (-1) σ) :
    ∀ (d k : Nat), k + d = S.length → (∀ j, j < k → S[j]? ≠ some r) → L_M_follow_47 post K (d + 1) (nI S.length) (nI s) (nI l) r (nI k) σ := by
  have hp : 40 * s + l < 4800 := by omega
  have hin : vp_in (nI (40 * s + l)) 4800 := vp_in_nI hp (by omega)
  intro d
  induction d with
  | zero =>
    intro k hk hb
    have : k = S.length := by omega
    subst this
    have hni : r ∉ S := fun q => by
      obtain ⟨j, hj⟩ := List.getElem?_of_mem q
      exact hb j (List.getElem?_eq_some_iff.mp hj).1 hj
    refine ⟨fun _ => ?_, fun c => absurd (nI_le (Nat.le_refl _) (by omega)) c⟩
    rw [p40_m, nI_clamp (n := 40 * s + l) (by omega), nI_clamp (n := S.length) (by omega), nI_1, nI_1]
    refine ⟨fun c => ⟨fun c2 => absurd c c2, fun _ => ⟨hin, hz c⟩⟩, fun c => ⟨fun c2 => absurd rfl c2, fun _ => ⟨fun c3 => ⟨vp_in_nI (by omega) (by omega), fun _ => ⟨hin, hn c hni ?_⟩, fun c2 => absurd c2 c⟩, fun c3 => ho c hni ?_⟩⟩⟩
    · have : S.length ≠ 120 := fun q => c3 (by rw [q])
      omega
    · exact (nI_eq (by omega) (by omega)).mp c3
  | succ d ih =>
    intro k hk hb
    have hkl : k < S.length := by omega
    have hak := ha k hkl
    refine ⟨fun c => absurd c (nI_ge hkl (by omega)), fun _ => ⟨vp_in_nI (by omega) (by omega), ?_⟩⟩
    rw [nI_clamp (n := k) (by omega)]
    refine ⟨fun c => ?_, fun c => ?_⟩
    · have hat : S[k]? = some r := by rw [hak, c]
      have hme : r ∈ S := List.mem_of_getElem? hat
      have hix : ixl S r = k := ixl_first hb hat
      rw [hix] at hm
      have hne : ¬ nI k = nI S.length := fun q => by
        have := (nI_eq (by omega) (by omega)).mp q
        omega
      rw [p40_m, nI_clamp (n := 40 * s + l) (by omega), nI_1]
      exact ⟨fun c1 => ⟨fun c2 => absurd c1 c2, fun _ => ⟨hin, hz c1⟩⟩, fun c1 => ⟨fun _ => ⟨fun _ => ⟨hin, hm c1 hme⟩, fun c2 => absurd c2 c1⟩, fun c2 => absurd c2 hne⟩⟩
    · rw [nI_1]
      refine ih (k + 1) (by omega) (fun j hj => ?_)
      by_cases e : j = k
      · subst e; rw [hak]; intro z; exact c (Option.some.inj z)
      · exact hb j (by omega)
/-- the goes as they are laid while the sets grow -/
def gl (W : Nat → Int32) (N Lt : Nat) (S : List Int32) (g : Nat → Int32) (s l : Nat) : Prop := ∀ (s' l' : Nat) (x : Int32), l' < Lt → (s' < s ∨ (s' = s ∧ l' < l)) → S[s']? = some x → (rch W l' x N = 0 → g (40 * s' + l') = -1) ∧ (rch W l' x N ≠ 0 → rch W l' x N ∈ S ∧ g (40 * s' + l') = nI (ixl S (rch W l' x N)))
theorem gl_step {W : Nat → Int32} {N Lt : Nat} {S T : List Int32} {g : Nat → Int32} {s l : Nat} {x v : Int32} (hL : Lt ≤ 40) (hl : l < Lt) (h : gl W N Lt S g s l) (hx : S[s]? = some x) (hv : (rch W l x N = 0 → v = -1) ∧ (rch W l x N ≠ 0 → rch W l x N ∈ S ++ T ∧ v = nI (ixl (S ++ T) (rch W l x N)))) : gl W N Lt (S ++ T) (upd g (40 * s + l) v) s (l + 1) := by
  intro s' l' y h1 h2 hy
  unfold upd
  have hss : s < S.length := (List.getElem?_eq_some_iff.mp hx).1
  have hs' : s' < S.length := by omega
  rw [List.getElem?_append_left hs'] at hy
  by_cases e : 40 * s' + l' = 40 * s + l
  · have : s' = s ∧ l' = l := by omega
    obtain ⟨rfl, rfl⟩ := this
    rw [hx] at hy
    cases hy
    rw [if_pos rfl]
    exact hv
  · rw [if_neg e]
    have hh := h s' l' y h1 (by
      rcases h2 with z | ⟨z1, z2⟩
      · exact Or.inl z
      · right
        refine ⟨z1, ?_⟩
        have : l' ≠ l := fun q => e (by rw [z1, q])
        omega) hy
    refine ⟨hh.1, fun c => ?_⟩
    obtain ⟨a, b⟩ := hh.2 c
    exact ⟨List.mem_append_left _ a, by rw [ixl_app T a]; exact b⟩
theorem gl_next {W : Nat → Int32} {N Lt : Nat} {S : List Int32} {g : Nat → Int32} {s : Nat} (h : gl W N Lt S g s Lt) : gl W N Lt S g (s + 1) 0 := by
  intro s' l' x h1 h2 hx
  refine h s' l' x h1 ?_ hx
  rcases h2 with z | ⟨_, z2⟩
  · by_cases e : s' = s
    · exact Or.inr ⟨e, h1⟩
    · exact Or.inl (by omega)
  · omega
theorem m_fo23 {post : Int32 → St → Prop} {K : Int32 → Int32 → St → Prop} {σ : St} {N Lt s0 s : Nat} {W : Nat → Int32} {x : Int32} (hg : GG σ N Lt s0 W) (ok : okG N Lt s0 W) :
    ∀ (d l : Nat) (S : List Int32) (f g : Nat → Int32), l + d = Lt → S.length ≤ 120 → arr f S → S[s]? = some x → gl W N Lt S g s l →
      (inn W N x d l S = none → ∀ f g, post (-1) (uA (uA σ 7 f) 8 g)) → (∀ S', inn W N x d l S = some S' → ∀ f g, arr f S' → gl W N Lt S' g (s + 1) 0 → S'.length ≤ 120 → K (nI S'.length) (nI (s + 1)) (uA (uA σ 7 f) 8 g)) →
      L_M_follow_23 post K (d + 1) (nI S.length) (nI s) (nI l) (uA (uA σ 7 f) 8 g) := by
  have hN := ok.2.1
  have hL := ok.2.2.2.1
  intro d
  induction d with
  | zero =>
    intro l S f g hl hS ha hx hgl h0 h1
    have : l = Lt := by omega
    subst this
    refine ⟨fun _ => ?_, fun c => absurd (by show σ.1 2 ≤ _; rw [hg.2.1]; exact nI_le (Nat.le_refl _) (by omega)) c⟩
    rw [nI_1]
    exact h1 S rfl f g ha (gl_next hgl) hS
  | succ d ih =>
    intro l S f g hl hS ha hx hgl h0 h1
    have hlt : l < Lt := by omega
    have hs : s < S.length := (List.getElem?_eq_some_iff.mp hx).1
    have hfs : f s = x := by
      have := ha s hs
      rw [hx] at this
      exact (Option.some.inj this).symm
    have e1 : inn W N x (d + 1) l S = (stp S (rch W l x N)).bind (inn W N x d (l + 1)) := rfl
    rw [e1] at h0
    have h1 : ∀ S', (stp S (rch W l x N)).bind (inn W N x d (l + 1)) = some S' → ∀ f g, arr f S' → gl W N Lt S' g (s + 1) 0 → S'.length ≤ 120 → K (nI S'.length) (nI (s + 1)) (uA (uA σ 7 f) 8 g) := h1
    refine ⟨fun c => absurd c (by show ¬ σ.1 2 ≤ _; rw [hg.2.1]; exact nI_ge (by omega) (by omega)), fun _ => ⟨vp_in_nI (by omega) (by omega), ?_⟩⟩
    have e7 : (uA (uA σ 7 f) 8 g).2 7 = f := rfl
    rw [nI_clamp (by omega), e7, hfs]
    refine m_led (σ := uA (uA σ 7 f) 8 g) hN (by omega) hg.1 hg.2.2.2 ⟨S.length + 1, ?_⟩
    refine m_fo47 hS (by rw [e7]; exact ha) (by omega) (by omega) (fun c => ?_) (fun c hm => ?_) (fun c hm hlen => ?_) (fun c hm hlen => ?_) S.length 0 (by omega) (fun j hj => by omega)
    · have e : stp S (rch W l x N) = some S := by unfold stp; rw [if_pos (Or.inl c)]
      rw [e] at h0 h1
      unfold ua
      rw [uA_uA, uA_s]
      have hg2 := gl_step (T := []) (v := -1) hL hlt hgl hx ⟨fun _ => rfl, fun z => absurd c z⟩
      rw [List.append_nil] at hg2
      exact ih (l + 1) S f _ (by omega) hS ha hx hg2 h0 h1
    · have e : stp S (rch W l x N) = some S := by unfold stp; rw [if_pos (Or.inr hm)]
      rw [e] at h0 h1
      unfold ua
      rw [uA_uA, uA_s]
      have hg2 := gl_step (T := []) (v := nI (ixl S (rch W l x N))) hL hlt hgl hx ⟨fun z => absurd z c, fun _ => by rw [List.append_nil]; exact ⟨hm, rfl⟩⟩
      rw [List.append_nil] at hg2
      exact ih (l + 1) S f _ (by omega) hS ha hx hg2 h0 h1
    · have e : stp S (rch W l x N) = some (S ++ [rch W l x N]) := by unfold stp; rw [if_neg (fun z => z.elim c hm), if_neg (by omega)]
      rw [e] at h0 h1
      have est : ua (ua (uA (uA σ 7 f) 8 g) 7 S.length (rch W l x N)) 8 (40 * s + l) (nI S.length) = uA (uA σ 7 (upd f S.length (rch W l x N))) 8 (upd g (40 * s + l) (nI S.length)) := by
        unfold ua
        have c1 : uA (uA (uA σ 7 f) 8 g) 7 (upd f S.length (rch W l x N)) = uA (uA σ 7 (upd f S.length (rch W l x N))) 8 g := by
          unfold uA
          congr 1
          funext j
          unfold va_up
          by_cases q7 : j = 7
          · subst q7; simp
          · by_cases q8 : j = 8
            · subst q8; simp
            · simp [q7, q8]
        show uA (uA (uA (uA σ 7 f) 8 g) 7 (upd f S.length (rch W l x N))) 8 _ = _
        rw [c1, uA_uA]
        rfl
      rw [est]
      have hg2 := gl_step (T := [rch W l x N]) (v := nI S.length) hL hlt hgl hx ⟨fun z => absurd z c, fun _ => ⟨by simp, by rw [ixl_new hm]⟩⟩
      have := ih (l + 1) (S ++ [rch W l x N]) (upd f S.length (rch W l x N)) _ (by omega) (by simp; omega) (arr_app ha _) (by rw [List.getElem?_append_left hs]; exact hx) hg2 h0 h1
      simpa using this
    · have e : stp S (rch W l x N) = none := by unfold stp; rw [if_neg (fun z => z.elim c hm), if_pos hlen]
      rw [e] at h0
      exact h0 rfl f g
theorem m_fo16 {post : Int32 → St → Prop} {σ : St} {N Lt s0 : Nat} {W : Nat → Int32} (hg : GG σ N Lt s0 W) (ok : okG N Lt s0 W) :
    ∀ (m s : Nat) (S : List Int32) (f g : Nat → Int32), m + s = 122 → s ≤ S.length → S.length ≤ 120 → arr f S → gl W N Lt S g s 0 →
      (bfs W N Lt m s S = none → ∀ f g, post (-1) (uA (uA σ 7 f) 8 g)) → (∀ S', bfs W N Lt m s S = some S' → ∀ f g, arr f S' → gl W N Lt S' g S'.length 0 → S'.length ≤ 120 → post (nI S'.length) (uA (uA σ 7 f) 8 g)) →
      L_M_follow_16 post m (nI S.length) (nI s) (uA (uA σ 7 f) 8 g) := by
  intro m
  induction m with
  | zero => intro s S f g hm hs hS; omega
  | succ m ih =>
    intro s S f g hm hs hS ha hgl h0 h1
    cases hx : S[s]? with
    | none =>
      have hsl := List.getElem?_eq_none_iff.mp hx
      have e : bfs W N Lt (m + 1) s S = some S := by show (match S[s]? with | none => some S | some x => (inn W N x Lt 0 S).bind (bfs W N Lt m (s + 1))) = _; rw [hx]
      have hss : s = S.length := by omega
      refine ⟨fun _ => h1 S e f g ha (by rw [← hss]; exact hgl) hS, fun c => absurd (nI_le hsl (by omega)) c⟩
    | some x =>
      have hsl : s < S.length := (List.getElem?_eq_some_iff.mp hx).1
      have e : bfs W N Lt (m + 1) s S = (inn W N x Lt 0 S).bind (bfs W N Lt m (s + 1)) := by show (match S[s]? with | none => some S | some x => (inn W N x Lt 0 S).bind (bfs W N Lt m (s + 1))) = _; rw [hx]
      rw [e] at h0
      have h1 : ∀ S', (inn W N x Lt 0 S).bind (bfs W N Lt m (s + 1)) = some S' → ∀ f g, arr f S' → gl W N Lt S' g S'.length 0 → S'.length ≤ 120 → post (nI S'.length) (uA (uA σ 7 f) 8 g) := fun S' z => h1 S' (by rw [e]; exact z)
      refine ⟨fun c => absurd c (nI_ge hsl (by omega)), fun _ => ⟨Lt + 1, ?_⟩⟩
      refine m_fo23 hg ok Lt 0 S f g (by omega) hS ha hx hgl (fun z => h0 (by rw [z]; rfl)) (fun S' hS' f' g' haf hgl' hlen => ?_)
      rw [hS'] at h0 h1
      have hle : s + 1 ≤ S'.length := by
        have : S.length ≤ S'.length := inn_len W N _ _ _ _ hS'
        omega
      exact ih (s + 1) S' f' g' (by omega) hle hlen haf hgl' h0 h1
theorem m_follow {post : Int32 → St → Prop} {σ : St} {N Lt s0 : Nat} {W : Nat → Int32} (hg : GG σ N Lt s0 W) (ok : okG N Lt s0 W) (h0 : BFS W N Lt s0 = none → ∀ f g, post (-1) (uA (uA σ 7 f) 8 g)) (h1 : ∀ S, BFS W N Lt s0 = some S → ∀ f g, arr f S → gl W N Lt S g S.length 0 → S.length ≤ 120 → post (nI S.length) (uA (uA σ 7 f) 8 g)) : wp_M_follow σ post := by
  refine ⟨vp_in_nI (n := 0) (by omega) (by omega), 122, ?_⟩
  rw [hg.2.2.1]
  have key := m_fo16 (post := post) hg ok 122 0 [(1 : Int32) <<< (nI s0 &&& 31)] (upd (σ.2 7) 0 ((1 : Int32) <<< (nI s0 &&& 31))) (σ.2 8) (by omega) (by simp) (by simp) (fun i hi => by
    have : i = 0 := by simp at hi; omega
    subst this
    rfl) (fun s' l' x _ h => by omega) h0 h1
  have e : uA (uA σ 7 (upd (σ.2 7) 0 ((1 : Int32) <<< (nI s0 &&& 31)))) 8 (σ.2 8) = ua σ 7 0 ((1 : Int32) <<< (nI s0 &&& 31)) := uA_id (uA σ 7 (upd (σ.2 7) 0 ((1 : Int32) <<< (nI s0 &&& 31)))) 8
  rw [e] at key
  exact key
