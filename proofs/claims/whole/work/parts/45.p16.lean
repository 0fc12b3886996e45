/-! THE START: a new object of the class, a new reference. -/
def init_C : St := (fun k => ([0, 1, 1, 0, 1, 1, 1, 0] : List Int32).getD k 0, fun k => if k = 1 then upd (fun _ => 0) ((0 : Int32).toNatClampNeg) 1 else if k = 3 then upd (fun _ => 0) ((0 : Int32).toNatClampNeg) (-1) else fun _ => 0)
def init_M : St := (fun k => ([0, 1, 1, 0, 0, 0, 0, 0] : List Int32).getD k 0, fun _ _ => 0)
theorem init_ok : okG 1 1 0 (fun _ => 0) := ⟨by omega, by omega, by omega, by omega, by omega, fun k i _ h => by rw [b_0] at h; cases h⟩
theorem init_B : BFS (fun _ => 0) 1 1 0 = some [(1 : Int32) <<< (nI 0 &&& 31)] := by decide +kernel
theorem init_d : dlt (fun _ => 0) 1 [(1 : Int32) <<< (nI 0 &&& 31)] 0 0 = none := by decide +kernel
theorem init_s : ((1 : Int32) <<< (nI 0 &&& 31)) = 1 := by decide +kernel
theorem init_make : wp_M_make init_M (fun _ v => Rel init_C v) := by
  refine m_make (N := 1) (Lt := 1) (s0 := 0) (W := fun _ => 0) ⟨rfl, rfl, rfl, rfl⟩ init_ok (fun hb => absurd (hb.symm.trans init_B) (by simp)) (fun S hS R hR1 hR2 hR3 v fv v7 hTR => ?_)
  have eS : S = [(1 : Int32) <<< (nI 0 &&& 31)] := Option.some.inj (hS.symm.trans init_B)
  subst eS
  have hD := dlt_ok (Lt := 1) (by omega) hS
  have eR : R = 0 := by
    have : R < 1 := hR1
    omega
  subst eR
  obtain ⟨q1, q2⟩ := all_num hD hR2 (fun k hk hkn => by
    have : k < 1 := hkn
    omega)
  generalize hδ : dlt (fun _ => 0) 1 [(1 : Int32) <<< (nI 0 &&& 31)] = δ at *
  have hd : δ 0 0 = none := by rw [← hδ]; exact init_d
  have hQ : nout 1 δ (ld 1 δ 0) ([(1 : Int32) <<< (nI 0 &&& 31)].length + 1) 0 [0] = [0] := by
    show nout 1 δ (ld 1 δ 0) (1 + 1) 0 [0] = [0]
    simp [nout, nin, hd]
  rw [hQ] at q1 q2 hTR
  refine ⟨⟨1, 1, 0, fun _ => 0, init_ok, ⟨rfl, rfl, rfl, rfl⟩, (show GG init_M 1 1 0 (fun _ => 0) from ⟨rfl, rfl, rfl, rfl⟩).fr fv (by simp) (by simp) (by simp) (by simp)⟩, 1, 1, δ, 0, [0], [(1 : Int32) <<< (nI 0 &&& 31)], ⟨hD, hR1, hR2, hR3, rfl, q1, q2⟩, ⟨⟨rfl, rfl, fun s l hs hl => ?_⟩, fun i hi => ?_, fun j hj => ?_, fun a b ha hb hab => by omega, rfl, rfl, fun q x hq => ?_, fun x hx => ?_⟩, hTR, 0, by simp, rfl, v7⟩
  · have e1 : s = 0 := by omega
    have e2 : l = 0 := by omega
    subst e1; subst e2
    rw [hd]
    rfl
  · have : i = 0 := by simp at hi; omega
    subst this
    rw [init_s]
    rfl
  · have : j = 0 := by omega
    subst this
    rw [ld_zero]
    rfl
  · have hql := (List.getElem?_eq_some_iff.mp hq).1
    have : q = 0 := by simp at hql; omega
    subst this
    simp at hq
    subst hq
    rfl
  · have : x = 0 := by omega
    subst this
    rw [ld_zero]
    rfl
