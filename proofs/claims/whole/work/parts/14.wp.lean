def L_A_fill2_2_5 (post : St → Prop) : Nat → Int32 → Int32 → Int32 → St → Prop
  | 0, _, _, _, _ => False
  | n + 1, x1, x2, x3, σ => ((x3 ≤ x2 → post σ) ∧ (¬ x3 ≤ x2 → (vp_in x2 960 ∧ L_A_fill2_2_5 post n x1 (x2 + 1) x3 (ua σ 0 x2.toNatClampNeg x1))))
def wp_A_fill2_2 (x1 : Int32) (σ : St) (post : St → Prop) : Prop := ∃ n2, L_A_fill2_2_5 post n2 x1 0 (nI 960) σ
def wp_G_clear (x1 x2 : Int32) (σ : St) (post : St → Prop) : Prop := (wp_A_fill2_2 0 (us (us (us σ 1 x1) 2 x2) 3 0) (fun σ1 => post σ1))
def wp_W_begin (x1 x2 : Int32) (σ : St) (post : Int32 → St → Prop) : Prop := ((x1 < 1 → post 0 σ) ∧ (¬ x1 < 1 → (((nI 24) < x1 → post 0 σ) ∧ (¬ (nI 24) < x1 → ((x2 < 1 → post 0 σ) ∧ (¬ x2 < 1 → ((x2 ≤ (nI 40) → (wp_G_clear x1 x2 σ (fun σ1 => post 1 σ1))) ∧ (¬ x2 ≤ (nI 40) → post 0 σ))))))))
def L_M_begin_46 (post : Int32 → St → Prop) : Nat → Int32 → Int32 → Int32 → St → Prop
  | 0, _, _, _, _ => False
  | n + 1, x1, x2, x3, σ => (((nI 960) ≤ x3 → post 1 σ) ∧ (¬ (nI 960) ≤ x3 → (vp_in x3 960 ∧ L_M_begin_46 post n x1 x2 (x3 + 1) (ua σ 0 x3.toNatClampNeg 0))))
def wp_M_begin (x1 x2 : Int32) (σ : St) (post : Int32 → St → Prop) : Prop := ((x1 < 1 → post 0 (us σ 0 0)) ∧ (¬ x1 < 1 → (((nI 24) < x1 → post 0 (us σ 0 0)) ∧ (¬ (nI 24) < x1 → ((x2 < 1 → post 0 (us σ 0 0)) ∧ (¬ x2 < 1 → ((x2 ≤ (nI 40) → ∃ n2, L_M_begin_46 post n2 x1 x2 0 (us (us (us (us σ 0 0) 1 x1) 2 x2) 3 0)) ∧ (¬ x2 ≤ (nI 40) → post 0 (us σ 0 0)))))))))
def wp_G_hasNode (x1 : Int32) (σ : St) (post : Int32 → St → Prop) : Prop := ((x1 < 0 → post 0 σ) ∧ (¬ x1 < 0 → (((σ.1 1) ≤ x1 → post 0 σ) ∧ (¬ (σ.1 1) ≤ x1 → post 1 σ))))
def wp_G_hasLetter (x1 : Int32) (σ : St) (post : Int32 → St → Prop) : Prop := ((x1 < 0 → post 0 σ) ∧ (¬ x1 < 0 → (((σ.1 2) ≤ x1 → post 0 σ) ∧ (¬ (σ.1 2) ≤ x1 → post 1 σ))))
def wp_G_canHold (x1 x2 x3 : Int32) (σ : St) (post : Int32 → St → Prop) : Prop := (wp_G_hasNode x1 σ (fun r1 σ1 => ((r1 = 0 → post 0 σ1) ∧ (¬ r1 = 0 → (wp_G_hasLetter x2 σ1 (fun r2 σ2 => ((r2 = 0 → post 0 σ2) ∧ (¬ r2 = 0 → (wp_G_hasNode x3 σ2 (fun r3 σ3 => ((r3 = 0 → post 0 σ3) ∧ (¬ r3 = 0 → post 1 σ3))))))))))))
def wp_G_place (x0 x1 : Int32) (σ : St) (post : Int32 → St → Prop) : Prop := post ((x1 * (nI 24)) + x0) σ
def wp_G_holds (x1 x2 x3 : Int32) (σ : St) (post : Int32 → St → Prop) : Prop := (wp_G_place x1 x2 σ (fun r1 σ1 => (vp_in r1 960 ∧ ((((ush (σ1.2 0 r1.toNatClampNeg) x3) &&& 1) = 0 → post 0 σ1) ∧ (¬ ((ush (σ1.2 0 r1.toNatClampNeg) x3) &&& 1) = 0 → post 1 σ1)))))
def wp_G_flip (x1 x2 x3 : Int32) (σ : St) (post : St → Prop) : Prop := (wp_G_place x1 x2 σ (fun r1 σ1 => (vp_in r1 960 ∧ (vp_in r1 960 ∧ post (ua σ1 0 r1.toNatClampNeg ((σ1.2 0 r1.toNatClampNeg) ^^^ (1 <<< (x3 &&& 31))))))))
def wp_W_way (x1 x2 x3 x4 : Int32) (σ : St) (post : Int32 → St → Prop) : Prop := (wp_G_canHold x1 x2 x3 σ (fun r1 σ1 => ((r1 = 0 → post 0 σ1) ∧ (¬ r1 = 0 → (wp_G_holds x1 x2 x3 σ1 (fun r2 σ2 => ((¬ r2 = x4 → (wp_G_flip x1 x2 x3 σ2 (fun σ3 => post 1 σ3))) ∧ (r2 = x4 → post 0 σ2))))))))
def wp_M_isNode (x1 : Int32) (σ : St) (post : Int32 → St → Prop) : Prop := ((x1 < 0 → post 0 σ) ∧ (¬ x1 < 0 → (((σ.1 1) ≤ x1 → post 0 σ) ∧ (¬ (σ.1 1) ≤ x1 → post 1 σ))))
def wp_M_isLetter (x1 : Int32) (σ : St) (post : Int32 → St → Prop) : Prop := ((x1 < 0 → post 0 σ) ∧ (¬ x1 < 0 → (((σ.1 2) ≤ x1 → post 0 σ) ∧ (¬ (σ.1 2) ≤ x1 → post 1 σ))))
def wp_M_is (x1 x2 x3 : Int32) (σ : St) (post : Int32 → St → Prop) : Prop := (wp_M_isNode x1 (us σ 0 0) (fun r1 σ1 => ((r1 = 0 → post 0 σ1) ∧ (¬ r1 = 0 → (wp_M_isLetter x2 σ1 (fun r2 σ2 => ((r2 = 0 → post 0 σ2) ∧ (¬ r2 = 0 → (wp_M_isNode x3 σ2 (fun r3 σ3 => ((r3 = 0 → post 0 σ3) ∧ (¬ r3 = 0 → (wp_M_isNode x1 σ3 (fun r4 σ4 => ((r4 = 0 → (vp_in 0 960 ∧ ((¬ (((σ4.2 0 ((0 : Int32).toNatClampNeg)) >>> (x3 &&& 31)) &&& 1) = 1 → post 0 σ4) ∧ ((((σ4.2 0 ((0 : Int32).toNatClampNeg)) >>> (x3 &&& 31)) &&& 1) = 1 → post 1 σ4)))) ∧ (¬ r4 = 0 → (wp_M_isLetter x2 σ4 (fun r6 σ6 => ((r6 = 0 → (vp_in 0 960 ∧ ((¬ (((σ6.2 0 ((0 : Int32).toNatClampNeg)) >>> (x3 &&& 31)) &&& 1) = 1 → post 0 σ6) ∧ ((((σ6.2 0 ((0 : Int32).toNatClampNeg)) >>> (x3 &&& 31)) &&& 1) = 1 → post 1 σ6)))) ∧ (¬ r6 = 0 → (vp_in (((nI 24) * x2) + x1) 960 ∧ ((¬ (((σ6.2 0 (((nI 24) * x2) + x1).toNatClampNeg) >>> (x3 &&& 31)) &&& 1) = 1 → post 0 σ6) ∧ ((((σ6.2 0 (((nI 24) * x2) + x1).toNatClampNeg) >>> (x3 &&& 31)) &&& 1) = 1 → post 1 σ6)))))))))))))))))))))))
def wp_M_way (x1 x2 x3 x4 : Int32) (σ : St) (post : Int32 → St → Prop) : Prop := (wp_M_isNode x1 (us σ 0 0) (fun r1 σ1 => ((r1 = 0 → post 0 σ1) ∧ (¬ r1 = 0 → (wp_M_isLetter x2 σ1 (fun r2 σ2 => ((r2 = 0 → post 0 σ2) ∧ (¬ r2 = 0 → (wp_M_isNode x3 σ2 (fun r3 σ3 => ((r3 = 0 → post 0 σ3) ∧ (¬ r3 = 0 → (wp_M_is x1 x2 x3 σ3 (fun r4 σ4 => ((¬ r4 = x4 → (vp_in (((nI 24) * x2) + x1) 960 ∧ (vp_in (((nI 24) * x2) + x1) 960 ∧ post 1 (ua σ4 0 (((nI 24) * x2) + x1).toNatClampNeg ((σ4.2 0 (((nI 24) * x2) + x1).toNatClampNeg) ^^^ (1 <<< (x3 &&& 31))))))) ∧ (r4 = x4 → post 0 σ4))))))))))))))))
def L_W_fill_29 (post : Int32 → St → Prop) : Nat → Int32 → Int32 → Int32 → Int32 → St → Prop
  | 0, _, _, _, _, _ => False
  | n + 1, x1, x2, x3, x4, σ => (((σ.1 1) ≤ x4 → post x3 σ) ∧ (¬ (σ.1 1) ≤ x4 → (wp_G_holds x4 x1 x2 σ (fun r3 σ3 => ((¬ r3 = 0 → L_W_fill_29 post n x1 x2 x3 (x4 + 1) σ3) ∧ (r3 = 0 → (wp_G_flip x4 x1 x2 σ3 (fun σ4 => L_W_fill_29 post n x1 x2 (x3 + 1) (x4 + 1) σ4))))))))
def wp_W_fill (x1 x2 : Int32) (σ : St) (post : Int32 → St → Prop) : Prop := (wp_G_hasLetter x1 σ (fun r1 σ1 => ((r1 = 0 → post (-1) σ1) ∧ (¬ r1 = 0 → (wp_G_hasNode x2 σ1 (fun r2 σ2 => ((¬ r2 = 0 → ∃ n2, L_W_fill_29 post n2 x1 x2 0 0 σ2) ∧ (r2 = 0 → post (-1) σ2))))))))
def L_M_fill_28 (post : Int32 → St → Prop) : Nat → Int32 → Int32 → Int32 → Int32 → St → Prop
  | 0, _, _, _, _, _ => False
  | n + 1, x1, x2, x3, x4, σ => (((σ.1 1) ≤ x4 → post x3 σ) ∧ (¬ (σ.1 1) ≤ x4 → (wp_M_way x4 x1 x2 1 σ (fun r3 σ3 => ((r3 = 0 → L_M_fill_28 post n x1 x2 (x3 + 0) (x4 + 1) σ3) ∧ (¬ r3 = 0 → L_M_fill_28 post n x1 x2 (x3 + 1) (x4 + 1) σ3))))))
def wp_M_fill (x1 x2 : Int32) (σ : St) (post : Int32 → St → Prop) : Prop := (wp_M_isLetter x1 (us σ 0 0) (fun r1 σ1 => ((r1 = 0 → post (-1) σ1) ∧ (¬ r1 = 0 → (wp_M_isNode x2 σ1 (fun r2 σ2 => ((¬ r2 = 0 → ∃ n2, L_M_fill_28 post n2 x1 x2 0 0 σ2) ∧ (r2 = 0 → post (-1) σ2))))))))
def L_G_transpose_12 (post : St → Prop) (K : Int32 → Int32 → St → Prop) : Nat → Int32 → Int32 → Int32 → St → Prop
  | 0, _, _, _, _ => False
  | n + 1, x1, x2, x3, σ => ((x2 ≤ x3 → K x1 (x2 + 1) σ) ∧ (¬ x2 ≤ x3 → (wp_G_holds x2 x1 x3 σ (fun r1 σ1 => (wp_G_holds x3 x1 x2 σ1 (fun r2 σ2 => ((r1 = r2 → L_G_transpose_12 post K n x1 x2 (x3 + 1) σ2) ∧ (¬ r1 = r2 → (wp_G_flip x2 x1 x3 σ2 (fun σ3 => (wp_G_flip x3 x1 x2 σ3 (fun σ4 => L_G_transpose_12 post K n x1 x2 (x3 + 1) σ4))))))))))))
def L_G_transpose_2 (post : St → Prop) : Nat → Int32 → Int32 → St → Prop
  | 0, _, _, _ => False
  | n + 1, x1, x2, σ => (((σ.1 1) ≤ x2 → post σ) ∧ (¬ (σ.1 1) ≤ x2 → ∃ n2, L_G_transpose_12 post (fun y0 y1 σ => L_G_transpose_2 post n y0 y1 σ) n2 x1 x2 0 σ))
def wp_G_transpose (x1 : Int32) (σ : St) (post : St → Prop) : Prop := ∃ n2, L_G_transpose_2 post n2 x1 1 σ
def L_W_turn_2 (post : St → Prop) : Nat → Int32 → St → Prop
  | 0, _, _ => False
  | n + 1, x1, σ => (((σ.1 2) ≤ x1 → post σ) ∧ (¬ (σ.1 2) ≤ x1 → (wp_G_transpose x1 σ (fun σ1 => L_W_turn_2 post n (x1 + 1) σ1))))
def wp_W_turn (σ : St) (post : St → Prop) : Prop := ∃ n2, L_W_turn_2 post n2 0 σ
def L_M_turn_27 (post : St → Prop) (K : Int32 → Int32 → St → Prop) : Nat → Int32 → Int32 → Int32 → St → Prop
  | 0, _, _, _, _ => False
  | n + 1, x1, x2, x3, σ => ((x2 ≤ x3 → K x1 (x2 + 1) σ) ∧ (¬ x2 ≤ x3 → (vp_in (((nI 24) * x1) + x2) 960 ∧ (vp_in (((nI 24) * x1) + x3) 960 ∧ (((((σ.2 0 (((nI 24) * x1) + x2).toNatClampNeg) >>> (x3 &&& 31)) &&& 1) = (((σ.2 0 (((nI 24) * x1) + x3).toNatClampNeg) >>> (x2 &&& 31)) &&& 1) → L_M_turn_27 post K n x1 x2 (x3 + 1) σ) ∧ (¬ (((σ.2 0 (((nI 24) * x1) + x2).toNatClampNeg) >>> (x3 &&& 31)) &&& 1) = (((σ.2 0 (((nI 24) * x1) + x3).toNatClampNeg) >>> (x2 &&& 31)) &&& 1) → (vp_in (((nI 24) * x1) + x2) 960 ∧ (vp_in (((nI 24) * x1) + x2) 960 ∧ (vp_in (((nI 24) * x1) + x3) 960 ∧ (vp_in (((nI 24) * x1) + x3) 960 ∧ L_M_turn_27 post K n x1 x2 (x3 + 1) (ua (ua σ 0 (((nI 24) * x1) + x2).toNatClampNeg ((σ.2 0 (((nI 24) * x1) + x2).toNatClampNeg) ^^^ (1 <<< (x3 &&& 31)))) 0 (((nI 24) * x1) + x3).toNatClampNeg (((ua σ 0 (((nI 24) * x1) + x2).toNatClampNeg ((σ.2 0 (((nI 24) * x1) + x2).toNatClampNeg) ^^^ (1 <<< (x3 &&& 31)))).2 0 (((nI 24) * x1) + x3).toNatClampNeg) ^^^ (1 <<< (x2 &&& 31))))))))))))))
def L_M_turn_17 (post : St → Prop) (K : Int32 → St → Prop) : Nat → Int32 → Int32 → St → Prop
  | 0, _, _, _ => False
  | n + 1, x1, x2, σ => (((σ.1 1) ≤ x2 → K (x1 + 1) σ) ∧ (¬ (σ.1 1) ≤ x2 → ∃ n2, L_M_turn_27 post (fun y0 y1 σ => L_M_turn_17 post K n y0 y1 σ) n2 x1 x2 0 σ))
def L_M_turn_7 (post : St → Prop) : Nat → Int32 → St → Prop
  | 0, _, _ => False
  | n + 1, x1, σ => (((σ.1 2) ≤ x1 → post σ) ∧ (¬ (σ.1 2) ≤ x1 → ∃ n2, L_M_turn_17 post (fun y0 σ => L_M_turn_7 post n y0 σ) n2 x1 0 σ))
def wp_M_turn (σ : St) (post : St → Prop) : Prop := ∃ n2, L_M_turn_7 post n2 0 (us σ 0 0)
def wp_W_start (x1 : Int32) (σ : St) (post : Int32 → St → Prop) : Prop := (wp_G_hasNode x1 σ (fun r1 σ1 => ((¬ r1 = 0 → post 1 (us σ1 3 x1)) ∧ (r1 = 0 → post 0 σ1))))
def wp_M_start (x1 : Int32) (σ : St) (post : Int32 → St → Prop) : Prop := (wp_M_isNode x1 (us σ 0 0) (fun r1 σ1 => ((¬ r1 = 0 → post 1 (us σ1 3 x1)) ∧ (r1 = 0 → post 0 σ1))))
def L_G_reach_5 (post : Int32 → St → Prop) : Nat → Int32 → Int32 → Int32 → Int32 → St → Prop
  | 0, _, _, _, _, _ => False
  | n + 1, x1, x2, x3, x4, σ => (((σ.1 1) ≤ x4 → post x3 σ) ∧ (¬ (σ.1 1) ≤ x4 → ((((ush x1 x4) &&& 1) = 0 → L_G_reach_5 post n x1 x2 x3 (x4 + 1) σ) ∧ (¬ ((ush x1 x4) &&& 1) = 0 → (wp_G_place x4 x2 σ (fun r1 σ1 => (vp_in r1 960 ∧ L_G_reach_5 post n x1 x2 (x3 ||| (σ1.2 0 r1.toNatClampNeg)) (x4 + 1) σ1)))))))
def wp_G_reach (x1 x2 : Int32) (σ : St) (post : Int32 → St → Prop) : Prop := ∃ n2, L_G_reach_5 post n2 x1 x2 0 0 σ
def L_T_indexOf_5_2 (post : Int32 → St → Prop) : Nat → Int32 → Int32 → Int32 → St → Prop
  | 0, _, _, _, _ => False
  | n + 1, x1, x2, x3, σ => ((x1 ≤ x3 → post (-1) σ) ∧ (¬ x1 ≤ x3 → (vp_in x3 120 ∧ ((¬ (σ.2 2 x3.toNatClampNeg) = x2 → L_T_indexOf_5_2 post n x1 x2 (x3 + 1) σ) ∧ ((σ.2 2 x3.toNatClampNeg) = x2 → post x3 σ)))))
def wp_T_indexOf_5 (x1 x2 : Int32) (σ : St) (post : Int32 → St → Prop) : Prop := ∃ n2, L_T_indexOf_5_2 post n2 x1 x2 0 σ
def L_T_findSets_1_24 (post : Int32 → St → Prop) (K : Int32 → Int32 → St → Prop) : Nat → Int32 → Int32 → Int32 → St → Prop
  | 0, _, _, _, _ => False
  | n + 1, x2, x3, x4, σ => (((σ.1 2) ≤ x4 → K x2 (x3 + 1) σ) ∧ (¬ (σ.1 2) ≤ x4 → (vp_in x3 120 ∧ (wp_G_reach (σ.2 2 x3.toNatClampNeg) x4 σ (fun r3 σ3 => ((r3 = 0 → L_T_findSets_1_24 post K n x2 x3 (x4 + 1) σ3) ∧ (¬ r3 = 0 → (wp_T_indexOf_5 x2 r3 σ3 (fun r4 σ4 => ((¬ r4 = (-1) → L_T_findSets_1_24 post K n x2 x3 (x4 + 1) σ4) ∧ (r4 = (-1) → ((x2 < (nI 120) → (vp_in x2 120 ∧ L_T_findSets_1_24 post K n (x2 + 1) x3 (x4 + 1) (ua σ4 2 x2.toNatClampNeg r3))) ∧ (¬ x2 < (nI 120) → post (-1) σ4)))))))))))))
def L_T_findSets_1_16 (post : Int32 → St → Prop) : Nat → Int32 → Int32 → St → Prop
  | 0, _, _, _ => False
  | n + 1, x2, x3, σ => ((x2 ≤ x3 → post x2 σ) ∧ (¬ x2 ≤ x3 → ∃ n2, L_T_findSets_1_24 post (fun y0 y1 σ => L_T_findSets_1_16 post n y0 y1 σ) n2 x2 x3 0 σ))
def wp_T_findSets_1 (σ : St) (post : Int32 → St → Prop) : Prop := (vp_in 0 120 ∧ ∃ n2, L_T_findSets_1_16 post n2 1 0 (ua σ 2 ((0 : Int32).toNatClampNeg) (1 <<< ((σ.1 3) &&& 31))))
def L_T_indexOf_4_2 (post : Int32 → St → Prop) : Nat → Int32 → Int32 → Int32 → St → Prop
  | 0, _, _, _, _ => False
  | n + 1, x1, x2, x3, σ => ((x1 ≤ x3 → post (-1) σ) ∧ (¬ x1 ≤ x3 → (vp_in x3 120 ∧ ((¬ (σ.2 1 x3.toNatClampNeg) = x2 → L_T_indexOf_4_2 post n x1 x2 (x3 + 1) σ) ∧ ((σ.2 1 x3.toNatClampNeg) = x2 → post x3 σ)))))
def wp_T_indexOf_4 (x1 x2 : Int32) (σ : St) (post : Int32 → St → Prop) : Prop := ∃ n2, L_T_indexOf_4_2 post n2 x1 x2 0 σ
def L_T_laySteps_1_12 (post : St → Prop) (K : Int32 → St → Prop) : Nat → Int32 → Int32 → St → Prop
  | 0, _, _, _ => False
  | n + 1, x2, x3, σ => (((σ.1 4) ≤ x3 → K (x2 + 1) σ) ∧ (¬ (σ.1 4) ≤ x3 → (vp_in x2 120 ∧ (wp_G_reach (σ.2 1 x2.toNatClampNeg) x3 σ (fun r2 σ2 => ((¬ r2 = 0 → (wp_T_indexOf_4 (σ2.1 5) r2 σ2 (fun r3 σ3 => (vp_in ((x2 * (nI 40)) + x3) 4800 ∧ L_T_laySteps_1_12 post K n x2 (x3 + 1) (ua σ3 3 ((x2 * (nI 40)) + x3).toNatClampNeg r3))))) ∧ (r2 = 0 → (vp_in ((x2 * (nI 40)) + x3) 4800 ∧ L_T_laySteps_1_12 post K n x2 (x3 + 1) (ua σ2 3 ((x2 * (nI 40)) + x3).toNatClampNeg (-1))))))))))
def L_T_laySteps_1_2 (post : St → Prop) : Nat → Int32 → St → Prop
  | 0, _, _ => False
  | n + 1, x2, σ => (((σ.1 5) ≤ x2 → post σ) ∧ (¬ (σ.1 5) ≤ x2 → ∃ n2, L_T_laySteps_1_12 post (fun y0 σ => L_T_laySteps_1_2 post n y0 σ) n2 x2 0 σ))
def wp_T_laySteps_1 (σ : St) (post : St → Prop) : Prop := ∃ n2, L_T_laySteps_1_2 post n2 0 σ
def wp_A_rangeCheck3 (x0 x1 x2 : Int32) (σ : St) (post : St → Prop) : Prop := ((x1 ≤ x2 → ((0 ≤ x1 → ((x2 ≤ x0 → post σ) ∧ (¬ x2 ≤ x0 → False))) ∧ (¬ 0 ≤ x1 → False))) ∧ (¬ x1 ≤ x2 → False))
def L_A_fill4_7_10 (post : St → Prop) : Nat → Int32 → Int32 → Int32 → Int32 → St → Prop
  | 0, _, _, _, _, _ => False
  | n + 1, x1, x2, x3, x4, σ => ((x2 ≤ x4 → post σ) ∧ (¬ x2 ≤ x4 → (vp_in x4 120 ∧ L_A_fill4_7_10 post n x1 x2 x3 (x4 + 1) (ua σ 4 x4.toNatClampNeg x3))))
def wp_A_fill4_7 (x1 x2 x3 : Int32) (σ : St) (post : St → Prop) : Prop := (wp_A_rangeCheck3 (nI 120) x1 x2 σ (fun σ1 => ∃ n2, L_A_fill4_7_10 post n2 x1 x2 x3 x1 σ1))
def wp_T_leaderAfter_8 (x2 x3 : Int32) (σ : St) (post : Int32 → St → Prop) : Prop := (vp_in ((x2 * (nI 40)) + x3) 4800 ∧ ((¬ (σ.2 3 ((x2 * (nI 40)) + x3).toNatClampNeg) = (-1) → (vp_in (σ.2 3 ((x2 * (nI 40)) + x3).toNatClampNeg) 120 ∧ post (σ.2 5 (σ.2 3 ((x2 * (nI 40)) + x3).toNatClampNeg).toNatClampNeg) σ)) ∧ ((σ.2 3 ((x2 * (nI 40)) + x3).toNatClampNeg) = (-1) → post (-1) σ)))
def L_T_goAlike_2 (post : Int32 → St → Prop) : Nat → Int32 → Int32 → Int32 → St → Prop
  | 0, _, _, _, _ => False
  | n + 1, x1, x2, x3, σ => (((σ.1 4) ≤ x3 → post 1 σ) ∧ (¬ (σ.1 4) ≤ x3 → (wp_T_leaderAfter_8 x1 x3 σ (fun r1 σ1 => (wp_T_leaderAfter_8 x2 x3 σ1 (fun r2 σ2 => ((r1 = r2 → L_T_goAlike_2 post n x1 x2 (x3 + 1) σ2) ∧ (¬ r1 = r2 → post 0 σ2))))))))
def wp_T_goAlike (x1 x2 : Int32) (σ : St) (post : Int32 → St → Prop) : Prop := ∃ n2, L_T_goAlike_2 post n2 x1 x2 0 σ
def L_T_findLeader_9 (post : Int32 → St → Prop) : Nat → Int32 → Int32 → Int32 → St → Prop
  | 0, _, _, _, _ => False
  | n + 1, x1, x2, x3, σ => ((x1 ≤ x3 → post x1 σ) ∧ (¬ x1 ≤ x3 → (vp_in x3 120 ∧ ((¬ (σ.2 4 x3.toNatClampNeg) = x3 → L_T_findLeader_9 post n x1 x2 (x3 + 1) σ) ∧ ((σ.2 4 x3.toNatClampNeg) = x3 → (vp_in x3 120 ∧ ((¬ (σ.2 5 x3.toNatClampNeg) = x2 → L_T_findLeader_9 post n x1 x2 (x3 + 1) σ) ∧ ((σ.2 5 x3.toNatClampNeg) = x2 → (wp_T_goAlike x3 x1 σ (fun r4 σ4 => ((r4 = 0 → L_T_findLeader_9 post n x1 x2 (x3 + 1) σ4) ∧ (¬ r4 = 0 → post x3 σ4))))))))))))
def wp_T_findLeader (x1 : Int32) (σ : St) (post : Int32 → St → Prop) : Prop := (vp_in x1 120 ∧ ∃ n2, L_T_findLeader_9 post n2 x1 (σ.2 5 x1.toNatClampNeg) (σ.2 5 x1.toNatClampNeg) σ)
def wp_T_pair (x0 x1 : Int32) (σ : St) (post : Int32 → St → Prop) : Prop := post ((((if x0 < x1 then x1 else x0) * ((if x0 < x1 then x1 else x0) - 1)) / (nI 2)) + (if x1 < x0 then x1 else x0)) σ
def L_T_measure_10 (post : St → Prop) : Nat → Int32 → Int32 → Int32 → Int32 → St → Prop
  | 0, _, _, _, _, _ => False
  | n + 1, x1, x2, x3, x4, σ => (((σ.1 5) ≤ x4 → post σ) ∧ (¬ (σ.1 5) ≤ x4 → (vp_in x4 120 ∧ ((¬ (σ.2 4 x4.toNatClampNeg) = x4 → L_T_measure_10 post n x1 x2 x3 (x4 + 1) σ) ∧ ((σ.2 4 x4.toNatClampNeg) = x4 → ((x4 = x1 → L_T_measure_10 post n x1 x2 x3 (x4 + 1) σ) ∧ (¬ x4 = x1 → (wp_T_pair x4 x1 σ (fun r3 σ3 => ((¬ x4 = x3 → (wp_T_pair x4 x3 σ3 (fun r4 σ4 => (vp_in r4 7140 ∧ (vp_in r3 7140 ∧ L_T_measure_10 post n x1 x2 x3 (x4 + 1) (ua σ4 8 r3.toNatClampNeg (σ4.2 8 r4.toNatClampNeg))))))) ∧ (x4 = x3 → (vp_in r3 7140 ∧ L_T_measure_10 post n x1 x2 x3 (x4 + 1) (ua σ3 8 r3.toNatClampNeg x2)))))))))))))
def wp_T_measure (x1 x2 : Int32) (σ : St) (post : St → Prop) : Prop := (vp_in x1 120 ∧ ∃ n2, L_T_measure_10 post n2 x1 x2 (σ.2 5 x1.toNatClampNeg) 0 σ)
def L_T_partOnce_21 (post : Int32 → St → Prop) : Nat → Int32 → Int32 → Int32 → St → Prop
  | 0, _, _, _, _ => False
  | n + 1, x1, x2, x3, σ => (((σ.1 5) ≤ x3 → (zb x2 ∧ post x2 σ)) ∧ (¬ (σ.1 5) ≤ x3 → (wp_T_findLeader x3 σ (fun r2 σ2 => (vp_in x3 120 ∧ (vp_in x3 120 ∧ ((¬ ((ua σ2 4 x3.toNatClampNeg r2).2 4 x3.toNatClampNeg) = x3 → L_T_partOnce_21 post n x1 x2 (x3 + 1) (ua σ2 4 x3.toNatClampNeg r2)) ∧ (((ua σ2 4 x3.toNatClampNeg r2).2 4 x3.toNatClampNeg) = x3 → (vp_in x3 120 ∧ ((((ua σ2 4 x3.toNatClampNeg r2).2 5 x3.toNatClampNeg) = x3 → L_T_partOnce_21 post n x1 x2 (x3 + 1) (ua σ2 4 x3.toNatClampNeg r2)) ∧ (¬ ((ua σ2 4 x3.toNatClampNeg r2).2 5 x3.toNatClampNeg) = x3 → (wp_T_measure x3 x1 (ua σ2 4 x3.toNatClampNeg r2) (fun σ6 => L_T_partOnce_21 post n x1 1 (x3 + 1) σ6)))))))))))))
def wp_T_partOnce (x1 : Int32) (σ : St) (post : Int32 → St → Prop) : Prop := (cpok 0 0 (σ.1 5) 120 120 ∧ ∃ n2, L_T_partOnce_21 post n2 x1 0 0 (uA σ 5 (va_cpy (σ.2 4) (σ.2 5) ((0 : Int32).toNatClampNeg) ((0 : Int32).toNatClampNeg) (σ.1 5).toNatClampNeg)))
def L_T_partSets_20 (post : St → Prop) : Nat → Int32 → St → Prop
  | 0, _, _ => False
  | n + 1, x1, σ => (((σ.1 5) ≤ x1 → post σ) ∧ (¬ (σ.1 5) ≤ x1 → (wp_T_partOnce x1 σ (fun r2 σ2 => ((¬ r2 = 0 → L_T_partSets_20 post n (x1 + 1) (us σ2 7 x1)) ∧ (r2 = 0 → post σ2))))))
def wp_T_partSets (σ : St) (post : St → Prop) : Prop := (wp_A_fill4_7 0 (σ.1 5) 0 σ (fun σ1 => ∃ n2, L_T_partSets_20 post n2 1 (us σ1 7 0)))
def L_A_fill4_9_10 (post : St → Prop) : Nat → Int32 → Int32 → Int32 → Int32 → St → Prop
  | 0, _, _, _, _, _ => False
  | n + 1, x1, x2, x3, x4, σ => ((x2 ≤ x4 → post σ) ∧ (¬ x2 ≤ x4 → (vp_in x4 120 ∧ L_A_fill4_9_10 post n x1 x2 x3 (x4 + 1) (ua σ 6 x4.toNatClampNeg x3))))
def wp_A_fill4_9 (x1 x2 x3 : Int32) (σ : St) (post : St → Prop) : Prop := (wp_A_rangeCheck3 (nI 120) x1 x2 σ (fun σ1 => ∃ n2, L_A_fill4_9_10 post n2 x1 x2 x3 x1 σ1))
def wp_T_numberState (x1 : Int32) (σ : St) (post : St → Prop) : Prop := (vp_in x1 120 ∧ (vp_in ((ua σ 6 x1.toNatClampNeg (σ.1 6)).1 6) 120 ∧ post (us (ua (ua σ 6 x1.toNatClampNeg (σ.1 6)) 7 ((ua σ 6 x1.toNatClampNeg (σ.1 6)).1 6).toNatClampNeg x1) 6 (((ua (ua σ 6 x1.toNatClampNeg (σ.1 6)) 7 ((ua σ 6 x1.toNatClampNeg (σ.1 6)).1 6).toNatClampNeg x1).1 6) + 1))))
def wp_T_leaderAfter_7 (x2 x3 : Int32) (σ : St) (post : Int32 → St → Prop) : Prop := (vp_in ((x2 * (nI 40)) + x3) 4800 ∧ ((¬ (σ.2 3 ((x2 * (nI 40)) + x3).toNatClampNeg) = (-1) → (vp_in (σ.2 3 ((x2 * (nI 40)) + x3).toNatClampNeg) 120 ∧ post (σ.2 4 (σ.2 3 ((x2 * (nI 40)) + x3).toNatClampNeg).toNatClampNeg) σ)) ∧ ((σ.2 3 ((x2 * (nI 40)) + x3).toNatClampNeg) = (-1) → post (-1) σ)))
def L_T_numberStates_93 (post : St → Prop) : Nat → Int32 → St → Prop
  | 0, _, _ => False
  | n + 1, x1, σ => (((σ.1 5) ≤ x1 → post σ) ∧ (¬ (σ.1 5) ≤ x1 → (vp_in x1 120 ∧ (vp_in (σ.2 4 x1.toNatClampNeg) 120 ∧ (vp_in x1 120 ∧ L_T_numberStates_93 post n (x1 + 1) (ua σ 6 x1.toNatClampNeg (σ.2 6 (σ.2 4 x1.toNatClampNeg).toNatClampNeg)))))))
def L_T_numberStates_35 (post : St → Prop) (K : Int32 → St → Prop) : Nat → Int32 → Int32 → St → Prop
  | 0, _, _, _ => False
  | n + 1, x1, x2, σ => (((σ.1 4) ≤ x2 → K (x1 + 1) σ) ∧ (¬ (σ.1 4) ≤ x2 → (vp_in x1 120 ∧ (wp_T_leaderAfter_7 (σ.2 7 x1.toNatClampNeg) x2 σ (fun r7 σ7 => ((r7 = (-1) → L_T_numberStates_35 post K n x1 (x2 + 1) σ7) ∧ (¬ r7 = (-1) → (vp_in r7 120 ∧ ((¬ (σ7.2 6 r7.toNatClampNeg) = (-1) → L_T_numberStates_35 post K n x1 (x2 + 1) σ7) ∧ ((σ7.2 6 r7.toNatClampNeg) = (-1) → (wp_T_numberState r7 σ7 (fun σ9 => L_T_numberStates_35 post K n x1 (x2 + 1) σ9))))))))))))
def L_T_numberStates_25 (post : St → Prop) : Nat → Int32 → St → Prop
  | 0, _, _ => False
  | n + 1, x1, σ => (((σ.1 6) ≤ x1 → ∃ n2, L_T_numberStates_93 post n2 0 σ) ∧ (¬ (σ.1 6) ≤ x1 → ∃ n2, L_T_numberStates_35 post (fun y0 σ => L_T_numberStates_25 post n y0 σ) n2 x1 0 σ))
def wp_T_numberStates (σ : St) (post : St → Prop) : Prop := (wp_A_fill4_9 0 (σ.1 5) (-1) σ (fun σ1 => (wp_T_numberState 0 (us σ1 6 0) (fun σ2 => ∃ n2, L_T_numberStates_25 post n2 0 σ2))))
def wp_T_build_1 (σ : St) (post : Int32 → St → Prop) : Prop := (wp_T_findSets_1 σ (fun r1 σ1 => ((¬ r1 = (-1) → (cpok 0 0 r1 120 120 ∧ (wp_T_laySteps_1 (uA (us (us σ1 4 (σ1.1 2)) 5 r1) 1 (va_cpy ((us (us σ1 4 (σ1.1 2)) 5 r1).2 2) ((us (us σ1 4 (σ1.1 2)) 5 r1).2 1) ((0 : Int32).toNatClampNeg) ((0 : Int32).toNatClampNeg) r1.toNatClampNeg)) (fun σ3 => (wp_T_partSets σ3 (fun σ4 => (wp_T_numberStates σ4 (fun σ5 => post 1 σ5)))))))) ∧ (r1 = (-1) → post 0 σ1))))
def wp_W_make (σ : St) (post : Int32 → St → Prop) : Prop := (wp_T_build_1 σ (fun r1 σ1 => ((¬ r1 = 0 → post ((us σ1 0 0).1 6) (us σ1 0 0)) ∧ (r1 = 0 → post (-1) σ1))))
def L_M_led_5 (post : Int32 → St → Prop) : Nat → Int32 → Int32 → Int32 → Int32 → St → Prop
  | 0, _, _, _, _, _ => False
  | n + 1, x1, x2, x3, x4, σ => (((σ.1 1) ≤ x4 → post x3 σ) ∧ (¬ (σ.1 1) ≤ x4 → ((¬ ((x1 >>> (x4 &&& 31)) &&& 1) = 1 → L_M_led_5 post n x1 x2 (x3 ||| 0) (x4 + 1) σ) ∧ (((x1 >>> (x4 &&& 31)) &&& 1) = 1 → (vp_in (((nI 24) * x2) + x4) 960 ∧ L_M_led_5 post n x1 x2 (x3 ||| (σ.2 0 (((nI 24) * x2) + x4).toNatClampNeg)) (x4 + 1) σ)))))
def wp_M_led (x1 x2 : Int32) (σ : St) (post : Int32 → St → Prop) : Prop := ∃ n2, L_M_led_5 post n2 x1 x2 0 0 σ
def L_M_follow_47 (post : Int32 → St → Prop) (K : Int32 → Int32 → Int32 → St → Prop) : Nat → Int32 → Int32 → Int32 → Int32 → Int32 → St → Prop
  | 0, _, _, _, _, _, _ => False
  | n + 1, x1, x2, x3, x4, x5, σ => ((x1 ≤ x5 → ((x4 = 0 → ((¬ x4 = 0 → (vp_in (((nI 40) * x2) + x3) 4800 ∧ K x1 x2 (x3 + 1) (ua σ 8 (((nI 40) * x2) + x3).toNatClampNeg x5))) ∧ (x4 = 0 → (vp_in (((nI 40) * x2) + x3) 4800 ∧ K x1 x2 (x3 + 1) (ua σ 8 (((nI 40) * x2) + x3).toNatClampNeg (-1)))))) ∧ (¬ x4 = 0 → ((¬ x5 = x1 → ((¬ x4 = 0 → (vp_in (((nI 40) * x2) + x3) 4800 ∧ K x1 x2 (x3 + 1) (ua σ 8 (((nI 40) * x2) + x3).toNatClampNeg x5))) ∧ (x4 = 0 → (vp_in (((nI 40) * x2) + x3) 4800 ∧ K x1 x2 (x3 + 1) (ua σ 8 (((nI 40) * x2) + x3).toNatClampNeg (-1)))))) ∧ (x5 = x1 → ((¬ x1 = (nI 120) → (vp_in x1 121 ∧ ((¬ x4 = 0 → (vp_in (((nI 40) * x2) + x3) 4800 ∧ K (x1 + 1) x2 (x3 + 1) (ua (ua σ 7 x1.toNatClampNeg x4) 8 (((nI 40) * x2) + x3).toNatClampNeg x5))) ∧ (x4 = 0 → (vp_in (((nI 40) * x2) + x3) 4800 ∧ K (x1 + 1) x2 (x3 + 1) (ua (ua σ 7 x1.toNatClampNeg x4) 8 (((nI 40) * x2) + x3).toNatClampNeg (-1))))))) ∧ (x1 = (nI 120) → post (-1) σ))))))) ∧ (¬ x1 ≤ x5 → (vp_in x5 121 ∧ (((σ.2 7 x5.toNatClampNeg) = x4 → ((x4 = 0 → ((¬ x4 = 0 → (vp_in (((nI 40) * x2) + x3) 4800 ∧ K x1 x2 (x3 + 1) (ua σ 8 (((nI 40) * x2) + x3).toNatClampNeg x5))) ∧ (x4 = 0 → (vp_in (((nI 40) * x2) + x3) 4800 ∧ K x1 x2 (x3 + 1) (ua σ 8 (((nI 40) * x2) + x3).toNatClampNeg (-1)))))) ∧ (¬ x4 = 0 → ((¬ x5 = x1 → ((¬ x4 = 0 → (vp_in (((nI 40) * x2) + x3) 4800 ∧ K x1 x2 (x3 + 1) (ua σ 8 (((nI 40) * x2) + x3).toNatClampNeg x5))) ∧ (x4 = 0 → (vp_in (((nI 40) * x2) + x3) 4800 ∧ K x1 x2 (x3 + 1) (ua σ 8 (((nI 40) * x2) + x3).toNatClampNeg (-1)))))) ∧ (x5 = x1 → ((¬ x1 = (nI 120) → (vp_in x1 121 ∧ ((¬ x4 = 0 → (vp_in (((nI 40) * x2) + x3) 4800 ∧ K (x1 + 1) x2 (x3 + 1) (ua (ua σ 7 x1.toNatClampNeg x4) 8 (((nI 40) * x2) + x3).toNatClampNeg x5))) ∧ (x4 = 0 → (vp_in (((nI 40) * x2) + x3) 4800 ∧ K (x1 + 1) x2 (x3 + 1) (ua (ua σ 7 x1.toNatClampNeg x4) 8 (((nI 40) * x2) + x3).toNatClampNeg (-1))))))) ∧ (x1 = (nI 120) → post (-1) σ))))))) ∧ (¬ (σ.2 7 x5.toNatClampNeg) = x4 → L_M_follow_47 post K n x1 x2 x3 x4 (x5 + 1) σ)))))
def L_M_follow_23 (post : Int32 → St → Prop) (K : Int32 → Int32 → St → Prop) : Nat → Int32 → Int32 → Int32 → St → Prop
  | 0, _, _, _, _ => False
  | n + 1, x1, x2, x3, σ => (((σ.1 2) ≤ x3 → K x1 (x2 + 1) σ) ∧ (¬ (σ.1 2) ≤ x3 → (vp_in x2 121 ∧ (wp_M_led (σ.2 7 x2.toNatClampNeg) x3 σ (fun r3 σ3 => ∃ n2, L_M_follow_47 post (fun y0 y1 y2 σ => L_M_follow_23 post K n y0 y1 y2 σ) n2 x1 x2 x3 r3 0 σ3)))))
def L_M_follow_16 (post : Int32 → St → Prop) : Nat → Int32 → Int32 → St → Prop
  | 0, _, _, _ => False
  | n + 1, x1, x2, σ => ((x1 ≤ x2 → post x1 σ) ∧ (¬ x1 ≤ x2 → ∃ n2, L_M_follow_23 post (fun y0 y1 σ => L_M_follow_16 post n y0 y1 σ) n2 x1 x2 0 σ))
def wp_M_follow (σ : St) (post : Int32 → St → Prop) : Prop := (vp_in 0 121 ∧ ∃ n2, L_M_follow_16 post n2 1 0 (ua σ 7 ((0 : Int32).toNatClampNeg) (1 <<< ((σ.1 3) &&& 31))))
def L_M_tell_24 (post : Int32 → St → Prop) (K : Int32 → Int32 → Int32 → Int32 → St → Prop) : Nat → Int32 → Int32 → Int32 → Int32 → Int32 → St → Prop
  | 0, _, _, _, _, _, _ => False
  | n + 1, x1, x2, x3, x4, x5, σ => (((σ.1 5) ≤ x5 → (vp_in (((nI 120) * x3) + x4) 14400 ∧ (vp_in (((nI 120) * x4) + x3) 14400 ∧ (vp_in (((nI 120) * x3) + x4) 14400 ∧ (vp_in (((nI 120) * x4) + x3) 14400 ∧ K x1 x2 x3 (x4 + 1) (ua (ua σ 3 (((nI 120) * x4) + x3).toNatClampNeg (σ.2 3 (((nI 120) * x3) + x4).toNatClampNeg)) 4 (((nI 120) * x4) + x3).toNatClampNeg ((ua σ 3 (((nI 120) * x4) + x3).toNatClampNeg (σ.2 3 (((nI 120) * x3) + x4).toNatClampNeg)).2 4 (((nI 120) * x3) + x4).toNatClampNeg))))))) ∧ (¬ (σ.1 5) ≤ x5 → (vp_in (((nI 120) * x3) + x4) 14400 ∧ ((¬ (σ.2 3 (((nI 120) * x3) + x4).toNatClampNeg) = 0 → (vp_in (((nI 120) * x3) + x4) 14400 ∧ (vp_in (((nI 120) * x4) + x3) 14400 ∧ (vp_in (((nI 120) * x3) + x4) 14400 ∧ (vp_in (((nI 120) * x4) + x3) 14400 ∧ K x1 x2 x3 (x4 + 1) (ua (ua σ 3 (((nI 120) * x4) + x3).toNatClampNeg (σ.2 3 (((nI 120) * x3) + x4).toNatClampNeg)) 4 (((nI 120) * x4) + x3).toNatClampNeg ((ua σ 3 (((nI 120) * x4) + x3).toNatClampNeg (σ.2 3 (((nI 120) * x3) + x4).toNatClampNeg)).2 4 (((nI 120) * x3) + x4).toNatClampNeg))))))) ∧ ((σ.2 3 (((nI 120) * x3) + x4).toNatClampNeg) = 0 → (vp_in (((nI 40) * x3) + x5) 4800 ∧ (vp_in (((nI 40) * x4) + x5) 4800 ∧ ((¬ x1 = 1 → (((σ.2 2 (((nI 40) * x3) + x5).toNatClampNeg) < 0 → L_M_tell_24 post K n x1 x2 x3 x4 (x5 + 1) σ) ∧ (¬ (σ.2 2 (((nI 40) * x3) + x5).toNatClampNeg) < 0 → (((σ.2 2 (((nI 40) * x4) + x5).toNatClampNeg) < 0 → L_M_tell_24 post K n x1 x2 x3 x4 (x5 + 1) σ) ∧ (¬ (σ.2 2 (((nI 40) * x4) + x5).toNatClampNeg) < 0 → (vp_in (((nI 120) * (σ.2 2 (((nI 40) * x3) + x5).toNatClampNeg)) + (σ.2 2 (((nI 40) * x4) + x5).toNatClampNeg)) 14400 ∧ ((¬ (σ.2 3 (((nI 120) * (σ.2 2 (((nI 40) * x3) + x5).toNatClampNeg)) + (σ.2 2 (((nI 40) * x4) + x5).toNatClampNeg)).toNatClampNeg) = (x1 - 1) → L_M_tell_24 post K n x1 x2 x3 x4 (x5 + 1) σ) ∧ ((σ.2 3 (((nI 120) * (σ.2 2 (((nI 40) * x3) + x5).toNatClampNeg)) + (σ.2 2 (((nI 40) * x4) + x5).toNatClampNeg)).toNatClampNeg) = (x1 - 1) → (vp_in (((nI 120) * x3) + x4) 14400 ∧ (vp_in (((nI 120) * x3) + x4) 14400 ∧ L_M_tell_24 post K n x1 1 x3 x4 (x5 + 1) (ua (ua σ 3 (((nI 120) * x3) + x4).toNatClampNeg x1) 4 (((nI 120) * x3) + x4).toNatClampNeg x5))))))))))) ∧ (x1 = 1 → ((0 ≤ (σ.2 2 (((nI 40) * x3) + x5).toNatClampNeg) → ((0 ≤ (σ.2 2 (((nI 40) * x4) + x5).toNatClampNeg) → L_M_tell_24 post K n x1 x2 x3 x4 (x5 + 1) σ) ∧ (¬ 0 ≤ (σ.2 2 (((nI 40) * x4) + x5).toNatClampNeg) → (vp_in (((nI 120) * x3) + x4) 14400 ∧ (vp_in (((nI 120) * x3) + x4) 14400 ∧ L_M_tell_24 post K n x1 1 x3 x4 (x5 + 1) (ua (ua σ 3 (((nI 120) * x3) + x4).toNatClampNeg x1) 4 (((nI 120) * x3) + x4).toNatClampNeg x5)))))) ∧ (¬ 0 ≤ (σ.2 2 (((nI 40) * x3) + x5).toNatClampNeg) → ((0 ≤ (σ.2 2 (((nI 40) * x4) + x5).toNatClampNeg) → (vp_in (((nI 120) * x3) + x4) 14400 ∧ (vp_in (((nI 120) * x3) + x4) 14400 ∧ L_M_tell_24 post K n x1 1 x3 x4 (x5 + 1) (ua (ua σ 3 (((nI 120) * x3) + x4).toNatClampNeg x1) 4 (((nI 120) * x3) + x4).toNatClampNeg x5)))) ∧ (¬ 0 ≤ (σ.2 2 (((nI 40) * x4) + x5).toNatClampNeg) → L_M_tell_24 post K n x1 x2 x3 x4 (x5 + 1) σ)))))))))))))
def L_M_tell_15 (post : Int32 → St → Prop) (K : Int32 → Int32 → Int32 → St → Prop) : Nat → Int32 → Int32 → Int32 → Int32 → St → Prop
  | 0, _, _, _, _, _ => False
  | n + 1, x1, x2, x3, x4, σ => ((x3 ≤ x4 → K x1 x2 (x3 + 1) σ) ∧ (¬ x3 ≤ x4 → ∃ n2, L_M_tell_24 post (fun y0 y1 y2 y3 σ => L_M_tell_15 post K n y0 y1 y2 y3 σ) n2 x1 x2 x3 x4 0 σ))
def L_M_tell_4 (post : Int32 → St → Prop) : Nat → Int32 → Int32 → Int32 → St → Prop
  | 0, _, _, _, _ => False
  | n + 1, x1, x2, x3, σ => (((σ.1 4) ≤ x3 → (zb x2 ∧ post x2 σ)) ∧ (¬ (σ.1 4) ≤ x3 → ∃ n2, L_M_tell_15 post (fun y0 y1 y2 σ => L_M_tell_4 post n y0 y1 y2 σ) n2 x1 x2 x3 0 σ))
def wp_M_tell (x1 : Int32) (σ : St) (post : Int32 → St → Prop) : Prop := ∃ n2, L_M_tell_4 post n2 x1 0 0 σ
def L_M_leastLike_2 (post : Int32 → St → Prop) : Nat → Int32 → Int32 → St → Prop
  | 0, _, _, _ => False
  | n + 1, x1, x2, σ => (vp_in (((nI 120) * x1) + x2) 14400 ∧ (((σ.2 3 (((nI 120) * x1) + x2).toNatClampNeg) ≤ 0 → post x2 σ) ∧ (¬ (σ.2 3 (((nI 120) * x1) + x2).toNatClampNeg) ≤ 0 → L_M_leastLike_2 post n x1 (x2 + 1) σ)))
def wp_M_leastLike (x1 : Int32) (σ : St) (post : Int32 → St → Prop) : Prop := ∃ n2, L_M_leastLike_2 post n2 x1 0 σ
def L_M_make_288 (post : Int32 → St → Prop) : Nat → Int32 → Int32 → Int32 → St → Prop
  | 0, _, _, _, _ => False
  | n + 1, x1, x2, x3, σ => ((x1 ≤ x3 → post ((us σ 7 0).1 6) (us σ 7 0)) ∧ (¬ x1 ≤ x3 → (wp_M_leastLike x3 σ (fun r5 σ5 => (vp_in r5 120 ∧ (vp_in x3 120 ∧ L_M_make_288 post n x1 x2 (x3 + 1) (ua σ5 5 x3.toNatClampNeg (σ5.2 5 r5.toNatClampNeg))))))))
def L_M_make_182 (post : Int32 → St → Prop) (K : Int32 → Int32 → Int32 → St → Prop) : Nat → Int32 → Int32 → Int32 → Int32 → St → Prop
  | 0, _, _, _, _, _ => False
  | n + 1, x1, x2, x3, x4, σ => (((σ.1 2) ≤ x4 → K x1 x2 (x3 + 1) σ) ∧ (¬ (σ.1 2) ≤ x4 → (vp_in x3 120 ∧ (vp_in (((nI 40) * (σ.2 6 x3.toNatClampNeg)) + x4) 4800 ∧ ((0 ≤ (σ.2 2 (((nI 40) * (σ.2 6 x3.toNatClampNeg)) + x4).toNatClampNeg) → (wp_M_leastLike (σ.2 2 (((nI 40) * (σ.2 6 x3.toNatClampNeg)) + x4).toNatClampNeg) σ (fun r10 σ10 => (((σ.2 2 (((nI 40) * (σ.2 6 x3.toNatClampNeg)) + x4).toNatClampNeg) < 0 → L_M_make_182 post K n x1 x2 x3 (x4 + 1) σ10) ∧ (¬ (σ.2 2 (((nI 40) * (σ.2 6 x3.toNatClampNeg)) + x4).toNatClampNeg) < 0 → (vp_in r10 120 ∧ ((0 ≤ (σ10.2 5 r10.toNatClampNeg) → L_M_make_182 post K n x1 x2 x3 (x4 + 1) σ10) ∧ (¬ 0 ≤ (σ10.2 5 r10.toNatClampNeg) → (vp_in r10 120 ∧ (vp_in ((ua σ10 5 r10.toNatClampNeg (σ10.1 6)).1 6) 120 ∧ L_M_make_182 post K n x1 x2 x3 (x4 + 1) (us (ua (ua σ10 5 r10.toNatClampNeg (σ10.1 6)) 6 ((ua σ10 5 r10.toNatClampNeg (σ10.1 6)).1 6).toNatClampNeg r10) 6 (((ua (ua σ10 5 r10.toNatClampNeg (σ10.1 6)) 6 ((ua σ10 5 r10.toNatClampNeg (σ10.1 6)).1 6).toNatClampNeg r10).1 6) + 1)))))))))))) ∧ (¬ 0 ≤ (σ.2 2 (((nI 40) * (σ.2 6 x3.toNatClampNeg)) + x4).toNatClampNeg) → (((σ.2 2 (((nI 40) * (σ.2 6 x3.toNatClampNeg)) + x4).toNatClampNeg) < 0 → L_M_make_182 post K n x1 x2 x3 (x4 + 1) σ) ∧ (¬ (σ.2 2 (((nI 40) * (σ.2 6 x3.toNatClampNeg)) + x4).toNatClampNeg) < 0 → (vp_in 0 120 ∧ ((0 ≤ (σ.2 5 ((0 : Int32).toNatClampNeg)) → L_M_make_182 post K n x1 x2 x3 (x4 + 1) σ) ∧ (¬ 0 ≤ (σ.2 5 ((0 : Int32).toNatClampNeg)) → (vp_in 0 120 ∧ (vp_in ((ua σ 5 ((0 : Int32).toNatClampNeg) (σ.1 6)).1 6) 120 ∧ L_M_make_182 post K n x1 x2 x3 (x4 + 1) (us (ua (ua σ 5 ((0 : Int32).toNatClampNeg) (σ.1 6)) 6 ((ua σ 5 ((0 : Int32).toNatClampNeg) (σ.1 6)).1 6).toNatClampNeg 0) 6 (((ua (ua σ 5 ((0 : Int32).toNatClampNeg) (σ.1 6)) 6 ((ua σ 5 ((0 : Int32).toNatClampNeg) (σ.1 6)).1 6).toNatClampNeg 0).1 6) + 1)))))))))))))))
def L_M_make_171 (post : Int32 → St → Prop) : Nat → Int32 → Int32 → Int32 → St → Prop
  | 0, _, _, _, _ => False
  | n + 1, x1, x2, x3, σ => (((σ.1 6) ≤ x3 → ∃ n2, L_M_make_288 post n2 x1 x2 0 σ) ∧ (¬ (σ.1 6) ≤ x3 → ∃ n2, L_M_make_182 post (fun y0 y1 y2 σ => L_M_make_171 post n y0 y1 y2 σ) n2 x1 x2 x3 0 σ))
def L_M_make_132 (post : Int32 → St → Prop) : Nat → Int32 → Int32 → Int32 → St → Prop
  | 0, _, _, _, _ => False
  | n + 1, x1, x2, x3, σ => ((x1 ≤ x3 → (vp_in 0 120 ∧ (vp_in 0 120 ∧ ∃ n2, L_M_make_171 post n2 x1 x2 0 (us (ua (ua σ 5 ((0 : Int32).toNatClampNeg) 0) 6 ((0 : Int32).toNatClampNeg) 0) 6 1)))) ∧ (¬ x1 ≤ x3 → (vp_in x3 120 ∧ L_M_make_132 post n x1 x2 (x3 + 1) (ua σ 5 x3.toNatClampNeg (-1)))))
def L_M_make_116 (post : Int32 → St → Prop) : Nat → Int32 → Int32 → St → Prop
  | 0, _, _, _ => False
  | n + 1, x1, x2, σ => (wp_M_tell x2 σ (fun r2 σ2 => ((r2 = 0 → ∃ n2, L_M_make_132 post n2 x1 x2 0 σ2) ∧ (¬ r2 = 0 → L_M_make_116 post n x1 (x2 + 1) σ2))))
def L_M_make_94 (post : Int32 → St → Prop) : Nat → Int32 → Int32 → St → Prop
  | 0, _, _, _ => False
  | n + 1, x1, x2, σ => (((nI 14400) ≤ x2 → ∃ n2, L_M_make_116 post n2 x1 1 σ) ∧ (¬ (nI 14400) ≤ x2 → (vp_in x2 14400 ∧ L_M_make_94 post n x1 (x2 + 1) (ua σ 3 x2.toNatClampNeg 0))))
def L_M_make_50 (post : Int32 → St → Prop) (K : Int32 → Int32 → St → Prop) : Nat → Int32 → Int32 → Int32 → St → Prop
  | 0, _, _, _, _ => False
  | n + 1, x1, x2, x3, σ => (((σ.1 2) ≤ x3 → K x1 (x2 + 1) σ) ∧ (¬ (σ.1 2) ≤ x3 → (vp_in (((nI 40) * x2) + x3) 4800 ∧ (vp_in (((nI 40) * x2) + x3) 4800 ∧ L_M_make_50 post K n x1 x2 (x3 + 1) (ua σ 2 (((nI 40) * x2) + x3).toNatClampNeg (σ.2 8 (((nI 40) * x2) + x3).toNatClampNeg))))))
def L_M_make_31 (post : Int32 → St → Prop) : Nat → Int32 → Int32 → St → Prop
  | 0, _, _, _ => False
  | n + 1, x1, x2, σ => ((x1 ≤ x2 → ∃ n2, L_M_make_94 post n2 x1 0 σ) ∧ (¬ x1 ≤ x2 → (vp_in x2 121 ∧ (vp_in x2 120 ∧ ∃ n2, L_M_make_50 post (fun y0 y1 σ => L_M_make_31 post n y0 y1 σ) n2 x1 x2 0 (ua σ 1 x2.toNatClampNeg (σ.2 7 x2.toNatClampNeg))))))
def wp_M_make (σ : St) (post : Int32 → St → Prop) : Prop := (wp_M_follow (us σ 0 0) (fun r1 σ1 => ((0 ≤ r1 → ∃ n2, L_M_make_31 post n2 r1 0 (us (us σ1 4 r1) 5 ((us σ1 4 r1).1 2))) ∧ (¬ 0 ≤ r1 → post (-1) σ1))))
def wp_W_home (σ : St) (post : St → Prop) : Prop := post (us σ 0 0)
def wp_M_home (σ : St) (post : St → Prop) : Prop := post (us (us σ 0 0) 7 0)
def wp_T_hasState (x1 : Int32) (σ : St) (post : Int32 → St → Prop) : Prop := ((x1 < 0 → post 0 σ) ∧ (¬ x1 < 0 → (((σ.1 6) ≤ x1 → post 0 σ) ∧ (¬ (σ.1 6) ≤ x1 → post 1 σ))))
def wp_T_hasLetter (x1 : Int32) (σ : St) (post : Int32 → St → Prop) : Prop := ((x1 < 0 → post 0 σ) ∧ (¬ x1 < 0 → (((σ.1 4) ≤ x1 → post 0 σ) ∧ (¬ (σ.1 4) ≤ x1 → post 1 σ))))
def wp_T_stateAfter (x1 x2 : Int32) (σ : St) (post : Int32 → St → Prop) : Prop := (vp_in x1 120 ∧ (vp_in (((σ.2 7 x1.toNatClampNeg) * (nI 40)) + x2) 4800 ∧ ((¬ (σ.2 3 (((σ.2 7 x1.toNatClampNeg) * (nI 40)) + x2).toNatClampNeg) = (-1) → (vp_in (σ.2 3 (((σ.2 7 x1.toNatClampNeg) * (nI 40)) + x2).toNatClampNeg) 120 ∧ post (σ.2 6 (σ.2 3 (((σ.2 7 x1.toNatClampNeg) * (nI 40)) + x2).toNatClampNeg).toNatClampNeg) σ)) ∧ ((σ.2 3 (((σ.2 7 x1.toNatClampNeg) * (nI 40)) + x2).toNatClampNeg) = (-1) → post (-1) σ))))
def wp_W_to (x1 x2 : Int32) (σ : St) (post : Int32 → St → Prop) : Prop := (wp_T_hasState x1 σ (fun r1 σ1 => ((r1 = 0 → post (-1) σ1) ∧ (¬ r1 = 0 → (wp_T_hasLetter x2 σ1 (fun r2 σ2 => ((¬ r2 = 0 → (wp_T_stateAfter x1 x2 σ2 (fun r3 σ3 => post r3 σ3))) ∧ (r2 = 0 → post (-1) σ2))))))))
def wp_W_go (x1 : Int32) (σ : St) (post : Int32 → St → Prop) : Prop := (wp_W_to (σ.1 0) x1 σ (fun r1 σ1 => ((r1 = (-1) → post r1 σ1) ∧ (¬ r1 = (-1) → post r1 (us σ1 0 r1)))))
def wp_M_next (x1 x2 : Int32) (σ : St) (post : Int32 → St → Prop) : Prop := (vp_in x1 120 ∧ (vp_in (((nI 40) * (σ.2 6 x1.toNatClampNeg)) + x2) 4800 ∧ ((0 ≤ (σ.2 2 (((nI 40) * (σ.2 6 x1.toNatClampNeg)) + x2).toNatClampNeg) → (vp_in (σ.2 2 (((nI 40) * (σ.2 6 x1.toNatClampNeg)) + x2).toNatClampNeg) 120 ∧ post (σ.2 5 (σ.2 2 (((nI 40) * (σ.2 6 x1.toNatClampNeg)) + x2).toNatClampNeg).toNatClampNeg) σ)) ∧ (¬ 0 ≤ (σ.2 2 (((nI 40) * (σ.2 6 x1.toNatClampNeg)) + x2).toNatClampNeg) → post (-1) σ))))
def wp_M_go (x1 : Int32) (σ : St) (post : Int32 → St → Prop) : Prop := ((x1 < 0 → post (-1) (us (us σ 0 0) 7 ((us σ 0 0).1 7))) ∧ (¬ x1 < 0 → ((x1 < ((us σ 0 0).1 5) → (wp_M_next ((us σ 0 0).1 7) x1 (us σ 0 0) (fun r1 σ1 => ((0 ≤ r1 → post r1 (us σ1 7 r1)) ∧ (¬ 0 ≤ r1 → post r1 (us σ1 7 (σ1.1 7))))))) ∧ (¬ x1 < ((us σ 0 0).1 5) → post (-1) (us (us σ 0 0) 7 ((us σ 0 0).1 7))))))
def wp_M_isState (x1 : Int32) (σ : St) (post : Int32 → St → Prop) : Prop := ((x1 < 0 → post 0 σ) ∧ (¬ x1 < 0 → (((σ.1 6) ≤ x1 → post 0 σ) ∧ (¬ (σ.1 6) ≤ x1 → post 1 σ))))
def wp_M_to (x1 x2 : Int32) (σ : St) (post : Int32 → St → Prop) : Prop := (wp_M_isState x1 (us σ 0 0) (fun r1 σ1 => ((r1 = 0 → post (-1) σ1) ∧ (¬ r1 = 0 → ((x2 < 0 → post (-1) σ1) ∧ (¬ x2 < 0 → ((x2 < (σ1.1 5) → (wp_M_next x1 x2 σ1 (fun r2 σ2 => post r2 σ2))) ∧ (¬ x2 < (σ1.1 5) → post (-1) σ1))))))))
def wp_T_hasSet (x1 : Int32) (σ : St) (post : Int32 → St → Prop) : Prop := ((x1 < 0 → post 0 σ) ∧ (¬ x1 < 0 → (((σ.1 5) ≤ x1 → post 0 σ) ∧ (¬ (σ.1 5) ≤ x1 → post 1 σ))))
def wp_W_nodes (x1 : Int32) (σ : St) (post : Int32 → St → Prop) : Prop := (wp_T_hasSet x1 σ (fun r1 σ1 => ((r1 = 0 → post 0 σ1) ∧ (¬ r1 = 0 → (vp_in x1 120 ∧ post (σ1.2 1 x1.toNatClampNeg) σ1)))))
def wp_M_nodes (x1 : Int32) (σ : St) (post : Int32 → St → Prop) : Prop := ((x1 < 0 → post 0 (us σ 0 0)) ∧ (¬ x1 < 0 → ((x1 < ((us σ 0 0).1 4) → (vp_in x1 120 ∧ post ((us σ 0 0).2 1 x1.toNatClampNeg) (us σ 0 0))) ∧ (¬ x1 < ((us σ 0 0).1 4) → post 0 (us σ 0 0)))))
def wp_W_state (x1 : Int32) (σ : St) (post : Int32 → St → Prop) : Prop := (wp_T_hasSet x1 σ (fun r1 σ1 => ((r1 = 0 → post (-1) σ1) ∧ (¬ r1 = 0 → (vp_in x1 120 ∧ post (σ1.2 6 x1.toNatClampNeg) σ1)))))
def wp_M_state (x1 : Int32) (σ : St) (post : Int32 → St → Prop) : Prop := ((x1 < 0 → post (-1) (us σ 0 0)) ∧ (¬ x1 < 0 → ((x1 < ((us σ 0 0).1 4) → (vp_in x1 120 ∧ post ((us σ 0 0).2 5 x1.toNatClampNeg) (us σ 0 0))) ∧ (¬ x1 < ((us σ 0 0).1 4) → post (-1) (us σ 0 0)))))
def wp_T_rowLength (x1 x2 : Int32) (σ : St) (post : Int32 → St → Prop) : Prop := ((¬ x1 = x2 → (vp_in x1 120 ∧ (vp_in x2 120 ∧ (wp_T_pair (σ.2 7 x1.toNatClampNeg) (σ.2 7 x2.toNatClampNeg) σ (fun r3 σ3 => (vp_in r3 7140 ∧ post (σ3.2 8 r3.toNatClampNeg) σ3)))))) ∧ (x1 = x2 → post 0 σ))
def wp_W_apart (x1 x2 : Int32) (σ : St) (post : Int32 → St → Prop) : Prop := (wp_T_hasState x1 σ (fun r1 σ1 => ((r1 = 0 → post (-1) σ1) ∧ (¬ r1 = 0 → (wp_T_hasState x2 σ1 (fun r2 σ2 => ((¬ r2 = 0 → (wp_T_rowLength x1 x2 σ2 (fun r3 σ3 => post r3 σ3))) ∧ (r2 = 0 → post (-1) σ2))))))))
def wp_M_apart (x1 x2 : Int32) (σ : St) (post : Int32 → St → Prop) : Prop := (wp_M_isState x1 (us σ 0 0) (fun r1 σ1 => ((r1 = 0 → post (-1) σ1) ∧ (¬ r1 = 0 → (wp_M_isState x2 σ1 (fun r2 σ2 => ((r2 = 0 → post (-1) σ2) ∧ (¬ r2 = 0 → (wp_M_isState x1 σ2 (fun r3 σ3 => ((r3 = 0 → (vp_in 0 120 ∧ (wp_M_isState x2 σ3 (fun r5 σ5 => ((r5 = 0 → (vp_in 0 120 ∧ (vp_in (((nI 120) * (σ3.2 6 ((0 : Int32).toNatClampNeg))) + (σ5.2 6 ((0 : Int32).toNatClampNeg))) 14400 ∧ post (σ5.2 3 (((nI 120) * (σ3.2 6 ((0 : Int32).toNatClampNeg))) + (σ5.2 6 ((0 : Int32).toNatClampNeg))).toNatClampNeg) σ5))) ∧ (¬ r5 = 0 → (vp_in x2 120 ∧ (vp_in (((nI 120) * (σ3.2 6 ((0 : Int32).toNatClampNeg))) + (σ5.2 6 x2.toNatClampNeg)) 14400 ∧ post (σ5.2 3 (((nI 120) * (σ3.2 6 ((0 : Int32).toNatClampNeg))) + (σ5.2 6 x2.toNatClampNeg)).toNatClampNeg) σ5)))))))) ∧ (¬ r3 = 0 → (vp_in x1 120 ∧ (wp_M_isState x2 σ3 (fun r11 σ11 => ((r11 = 0 → (vp_in 0 120 ∧ (vp_in (((nI 120) * (σ3.2 6 x1.toNatClampNeg)) + (σ11.2 6 ((0 : Int32).toNatClampNeg))) 14400 ∧ post (σ11.2 3 (((nI 120) * (σ3.2 6 x1.toNatClampNeg)) + (σ11.2 6 ((0 : Int32).toNatClampNeg))).toNatClampNeg) σ11))) ∧ (¬ r11 = 0 → (vp_in x2 120 ∧ (vp_in (((nI 120) * (σ3.2 6 x1.toNatClampNeg)) + (σ11.2 6 x2.toNatClampNeg)) 14400 ∧ post (σ11.2 3 (((nI 120) * (σ3.2 6 x1.toNatClampNeg)) + (σ11.2 6 x2.toNatClampNeg)).toNatClampNeg) σ11)))))))))))))))))))
def wp_T_lengthBehind (x1 x2 : Int32) (σ : St) (post : Int32 → St → Prop) : Prop := ((x1 = (-1) → post 0 σ) ∧ (¬ x1 = (-1) → ((¬ x2 = (-1) → (wp_T_pair x1 x2 σ (fun r1 σ1 => (vp_in r1 7140 ∧ post (σ1.2 8 r1.toNatClampNeg) σ1)))) ∧ (x2 = (-1) → post 0 σ))))
def L_T_leastLetter_3 (post : Int32 → St → Prop) : Nat → Int32 → Int32 → Int32 → Int32 → St → Prop
  | 0, _, _, _, _, _ => False
  | n + 1, x1, x2, x3, x4, σ => (((σ.1 4) ≤ x4 → post (-1) σ) ∧ (¬ (σ.1 4) ≤ x4 → (wp_T_leaderAfter_7 x1 x4 σ (fun r1 σ1 => (wp_T_leaderAfter_7 x2 x4 σ1 (fun r2 σ2 => ((r1 = r2 → L_T_leastLetter_3 post n x1 x2 x3 (x4 + 1) σ2) ∧ (¬ r1 = r2 → (wp_T_lengthBehind r1 r2 σ2 (fun r3 σ3 => ((¬ r3 = x3 → L_T_leastLetter_3 post n x1 x2 x3 (x4 + 1) σ3) ∧ (r3 = x3 → post x4 σ3))))))))))))
def wp_T_leastLetter (x1 x2 x3 : Int32) (σ : St) (post : Int32 → St → Prop) : Prop := ∃ n2, L_T_leastLetter_3 post n2 x1 x2 x3 0 σ
def L_T_rowLetter_41 (post : Int32 → St → Prop) : Nat → Int32 → Int32 → Int32 → Int32 → Int32 → Int32 → Int32 → Int32 → St → Prop
  | 0, _, _, _, _, _, _, _, _, _ => False
  | n + 1, x1, x2, x3, x4, x5, x6, x7, x8, σ => ((x3 ≤ x8 → post x7 σ) ∧ (¬ x3 ≤ x8 → ((x7 = (-1) → post x7 σ) ∧ (¬ x7 = (-1) → (wp_T_leaderAfter_7 x4 x7 σ (fun r5 σ5 => (wp_T_leaderAfter_7 x5 x7 σ5 (fun r6 σ6 => ((r5 = (-1) → post (-1) σ6) ∧ (¬ r5 = (-1) → ((¬ r6 = (-1) → (wp_T_leastLetter r5 r6 (x6 + (-1)) σ6 (fun r7 σ7 => L_T_rowLetter_41 post n x1 x2 x3 r5 r6 (x6 + (-1)) r7 (x8 + 1) σ7))) ∧ (r6 = (-1) → post (-1) σ6))))))))))))
def wp_T_rowLetter (x1 x2 x3 : Int32) (σ : St) (post : Int32 → St → Prop) : Prop := (vp_in x1 120 ∧ (vp_in x2 120 ∧ (wp_T_rowLength x1 x2 σ (fun r3 σ3 => (wp_T_leastLetter (σ.2 7 x1.toNatClampNeg) (σ.2 7 x2.toNatClampNeg) (r3 - 1) σ3 (fun r4 σ4 => ∃ n2, L_T_rowLetter_41 post n2 x1 x2 x3 (σ.2 7 x1.toNatClampNeg) (σ.2 7 x2.toNatClampNeg) (r3 - 1) r4 0 σ4))))))
def wp_W_apartBy (x1 x2 x3 : Int32) (σ : St) (post : Int32 → St → Prop) : Prop := ((x3 < 0 → post (-1) σ) ∧ (¬ x3 < 0 → (wp_W_apart x1 x2 σ (fun r1 σ1 => ((x3 < r1 → (wp_T_rowLetter x1 x2 x3 σ1 (fun r2 σ2 => post r2 σ2))) ∧ (¬ x3 < r1 → post (-1) σ1))))))
def L_M_apartBy_71 (post : Int32 → St → Prop) : Nat → Int32 → Int32 → Int32 → Int32 → Int32 → Int32 → St → Prop
  | 0, _, _, _, _, _, _, _ => False
  | n + 1, x1, x2, x3, x4, x5, x6, σ => ((x3 ≤ x6 → (vp_in (((nI 120) * x4) + x5) 14400 ∧ post (σ.2 4 (((nI 120) * x4) + x5).toNatClampNeg) σ)) ∧ (¬ x3 ≤ x6 → (vp_in (((nI 120) * x4) + x5) 14400 ∧ (vp_in (((nI 40) * x4) + (σ.2 4 (((nI 120) * x4) + x5).toNatClampNeg)) 4800 ∧ (vp_in (((nI 40) * x5) + (σ.2 4 (((nI 120) * x4) + x5).toNatClampNeg)) 4800 ∧ L_M_apartBy_71 post n x1 x2 x3 (σ.2 2 (((nI 40) * x4) + (σ.2 4 (((nI 120) * x4) + x5).toNatClampNeg)).toNatClampNeg) (σ.2 2 (((nI 40) * x5) + (σ.2 4 (((nI 120) * x4) + x5).toNatClampNeg)).toNatClampNeg) (x6 + 1) σ)))))
def wp_M_apartBy (x1 x2 x3 : Int32) (σ : St) (post : Int32 → St → Prop) : Prop := (wp_M_isState x1 (us σ 0 0) (fun r1 σ1 => ((r1 = 0 → post (-1) σ1) ∧ (¬ r1 = 0 → (wp_M_isState x2 σ1 (fun r2 σ2 => ((r2 = 0 → post (-1) σ2) ∧ (¬ r2 = 0 → ((x3 < 0 → post (-1) σ2) ∧ (¬ x3 < 0 → (vp_in x1 120 ∧ (vp_in x2 120 ∧ (vp_in (((nI 120) * (σ2.2 6 x1.toNatClampNeg)) + (σ2.2 6 x2.toNatClampNeg)) 14400 ∧ ((x3 < (σ2.2 3 (((nI 120) * (σ2.2 6 x1.toNatClampNeg)) + (σ2.2 6 x2.toNatClampNeg)).toNatClampNeg) → (vp_in x1 120 ∧ (vp_in x2 120 ∧ ∃ n2, L_M_apartBy_71 post n2 x1 x2 x3 (σ2.2 6 x1.toNatClampNeg) (σ2.2 6 x2.toNatClampNeg) 0 σ2))) ∧ (¬ x3 < (σ2.2 3 (((nI 120) * (σ2.2 6 x1.toNatClampNeg)) + (σ2.2 6 x2.toNatClampNeg)).toNatClampNeg) → post (-1) σ2)))))))))))))))
def wp_W_is (x1 x2 x3 : Int32) (σ : St) (post : Int32 → St → Prop) : Prop := (wp_G_canHold x1 x2 x3 σ (fun r1 σ1 => ((r1 = 0 → post 0 σ1) ∧ (¬ r1 = 0 → (wp_G_holds x1 x2 x3 σ1 (fun r2 σ2 => ((r2 = 0 → post 0 σ2) ∧ (¬ r2 = 0 → post 1 σ2))))))))
def wp_I_bitCount1 (x0 : Int32) (σ : St) (post : Int32 → St → Prop) : Prop := (∀ y1 : Int32, y1 = (((x0 - ((ush x0 1) &&& (1431655765 : Int32))) &&& (858993459 : Int32)) + ((ush (x0 - ((ush x0 1) &&& (1431655765 : Int32))) (nI 2)) &&& (858993459 : Int32))) → (∀ y2 : Int32, y2 = (((y1 + (ush y1 (nI 4))) &&& (252645135 : Int32)) + (ush ((y1 + (ush y1 (nI 4))) &&& (252645135 : Int32)) (nI 8))) → post ((y2 + (ush y2 (nI 16))) &&& (nI 63)) σ))
def L_G_countWays_4 (post : Int32 → St → Prop) : Nat → Int32 → Int32 → St → Prop
  | 0, _, _, _ => False
  | n + 1, x1, x2, σ => (((nI 960) ≤ x2 → post x1 σ) ∧ (¬ (nI 960) ≤ x2 → (vp_in x2 960 ∧ (wp_I_bitCount1 (σ.2 0 x2.toNatClampNeg) σ (fun r2 σ2 => L_G_countWays_4 post n (x1 + r2) (x2 + 1) σ2)))))
def wp_G_countWays (σ : St) (post : Int32 → St → Prop) : Prop := ∃ n2, L_G_countWays_4 post n2 0 0 σ
def L_T_countGoing_14 (post : Int32 → St → Prop) (K : Int32 → Int32 → St → Prop) : Nat → Int32 → Int32 → Int32 → St → Prop
  | 0, _, _, _, _ => False
  | n + 1, x1, x2, x3, σ => (((σ.1 4) ≤ x3 → K x1 (x2 + 1) σ) ∧ (¬ (σ.1 4) ≤ x3 → (wp_T_stateAfter x2 x3 σ (fun r1 σ1 => ((r1 = (-1) → L_T_countGoing_14 post K n x1 x2 (x3 + 1) σ1) ∧ (¬ r1 = (-1) → L_T_countGoing_14 post K n (x1 + 1) x2 (x3 + 1) σ1))))))
def L_T_countGoing_4 (post : Int32 → St → Prop) : Nat → Int32 → Int32 → St → Prop
  | 0, _, _, _ => False
  | n + 1, x1, x2, σ => (((σ.1 6) ≤ x2 → post x1 σ) ∧ (¬ (σ.1 6) ≤ x2 → ∃ n2, L_T_countGoing_14 post (fun y0 y1 σ => L_T_countGoing_4 post n y0 y1 σ) n2 x1 x2 0 σ))
def wp_T_countGoing (σ : St) (post : Int32 → St → Prop) : Prop := ∃ n2, L_T_countGoing_4 post n2 0 0 σ
def wp_W_look (x1 : Int32) (σ : St) (post : Int32 → St → Prop) : Prop := ((x1 = nI 0 → post (σ.1 1) σ) ∧ (x1 = nI 1 → post (σ.1 2) σ) ∧ (x1 = nI 2 → (wp_G_countWays σ (fun r1 σ1 => post r1 σ1))) ∧ (x1 = nI 3 → post (σ.1 3) σ) ∧ (x1 = nI 4 → post (σ.1 5) σ) ∧ (x1 = nI 5 → post (σ.1 6) σ) ∧ (x1 = nI 6 → post (σ.1 4) σ) ∧ (x1 = nI 7 → (wp_T_countGoing σ (fun r2 σ2 => post r2 σ2))) ∧ (x1 = nI 8 → post (σ.1 7) σ) ∧ (x1 = nI 9 → post (σ.1 0) σ) ∧ ((∀ j, j < 10 → ¬ x1 = nI j) → post (-1) σ))
def L_M_wayMany_17 (post : Int32 → St → Prop) (K : Int32 → Int32 → St → Prop) : Nat → Int32 → Int32 → Int32 → St → Prop
  | 0, _, _, _, _ => False
  | n + 1, x1, x2, x3, σ => (((σ.1 1) ≤ x3 → K x1 (x2 + 1) σ) ∧ (¬ (σ.1 1) ≤ x3 → (vp_in x2 960 ∧ L_M_wayMany_17 post K n (x1 + (((σ.2 0 x2.toNatClampNeg) >>> (x3 &&& 31)) &&& 1)) x2 (x3 + 1) σ)))
def L_M_wayMany_4 (post : Int32 → St → Prop) : Nat → Int32 → Int32 → St → Prop
  | 0, _, _, _ => False
  | n + 1, x1, x2, σ => ((((nI 24) * (σ.1 2)) ≤ x2 → post x1 σ) ∧ (¬ ((nI 24) * (σ.1 2)) ≤ x2 → ∃ n2, L_M_wayMany_17 post (fun y0 y1 σ => L_M_wayMany_4 post n y0 y1 σ) n2 x1 x2 0 σ))
def wp_M_wayMany (σ : St) (post : Int32 → St → Prop) : Prop := ∃ n2, L_M_wayMany_4 post n2 0 0 σ
def L_M_somewhere_14 (post : Int32 → St → Prop) (K : Int32 → Int32 → St → Prop) : Nat → Int32 → Int32 → Int32 → St → Prop
  | 0, _, _, _, _ => False
  | n + 1, x1, x2, x3, σ => (((σ.1 5) ≤ x3 → K x1 (x2 + 1) σ) ∧ (¬ (σ.1 5) ≤ x3 → (wp_M_next x2 x3 σ (fun r1 σ1 => ((r1 < 0 → L_M_somewhere_14 post K n (x1 + 0) x2 (x3 + 1) σ1) ∧ (¬ r1 < 0 → L_M_somewhere_14 post K n (x1 + 1) x2 (x3 + 1) σ1))))))
def L_M_somewhere_4 (post : Int32 → St → Prop) : Nat → Int32 → Int32 → St → Prop
  | 0, _, _, _ => False
  | n + 1, x1, x2, σ => (((σ.1 6) ≤ x2 → post x1 σ) ∧ (¬ (σ.1 6) ≤ x2 → ∃ n2, L_M_somewhere_14 post (fun y0 y1 σ => L_M_somewhere_4 post n y0 y1 σ) n2 x1 x2 0 σ))
def wp_M_somewhere (σ : St) (post : Int32 → St → Prop) : Prop := ∃ n2, L_M_somewhere_4 post n2 0 0 σ
def L_M_longest_14 (post : Int32 → St → Prop) (K : Int32 → Int32 → St → Prop) : Nat → Int32 → Int32 → Int32 → St → Prop
  | 0, _, _, _, _ => False
  | n + 1, x1, x2, x3, σ => ((x2 ≤ x3 → K x1 (x2 + 1) σ) ∧ (¬ x2 ≤ x3 → (vp_in x2 120 ∧ (vp_in x3 120 ∧ (vp_in (((nI 120) * (σ.2 6 x2.toNatClampNeg)) + (σ.2 6 x3.toNatClampNeg)) 14400 ∧ (((σ.2 3 (((nI 120) * (σ.2 6 x2.toNatClampNeg)) + (σ.2 6 x3.toNatClampNeg)).toNatClampNeg) ≤ x1 → L_M_longest_14 post K n x1 x2 (x3 + 1) σ) ∧ (¬ (σ.2 3 (((nI 120) * (σ.2 6 x2.toNatClampNeg)) + (σ.2 6 x3.toNatClampNeg)).toNatClampNeg) ≤ x1 → L_M_longest_14 post K n (σ.2 3 (((nI 120) * (σ.2 6 x2.toNatClampNeg)) + (σ.2 6 x3.toNatClampNeg)).toNatClampNeg) x2 (x3 + 1) σ)))))))
def L_M_longest_4 (post : Int32 → St → Prop) : Nat → Int32 → Int32 → St → Prop
  | 0, _, _, _ => False
  | n + 1, x1, x2, σ => (((σ.1 6) ≤ x2 → post x1 σ) ∧ (¬ (σ.1 6) ≤ x2 → ∃ n2, L_M_longest_14 post (fun y0 y1 σ => L_M_longest_4 post n y0 y1 σ) n2 x1 x2 0 σ))
def wp_M_longest (σ : St) (post : Int32 → St → Prop) : Prop := ∃ n2, L_M_longest_4 post n2 0 0 σ
def wp_M_look (x1 : Int32) (σ : St) (post : Int32 → St → Prop) : Prop := ((x1 = nI 0 → post ((us σ 0 0).1 1) (us σ 0 0)) ∧ (x1 = nI 1 → post ((us σ 0 0).1 2) (us σ 0 0)) ∧ (x1 = nI 2 → (wp_M_wayMany (us σ 0 0) (fun r1 σ1 => post r1 σ1))) ∧ (x1 = nI 3 → post ((us σ 0 0).1 3) (us σ 0 0)) ∧ (x1 = nI 4 → post ((us σ 0 0).1 4) (us σ 0 0)) ∧ (x1 = nI 5 → post ((us σ 0 0).1 6) (us σ 0 0)) ∧ (x1 = nI 6 → post ((us σ 0 0).1 5) (us σ 0 0)) ∧ (x1 = nI 7 → (wp_M_somewhere (us σ 0 0) (fun r2 σ2 => post r2 σ2))) ∧ (x1 = nI 8 → (wp_M_longest (us σ 0 0) (fun r3 σ3 => post r3 σ3))) ∧ (x1 = nI 9 → post ((us σ 0 0).1 7) (us σ 0 0)) ∧ ((∀ j, j < 10 → ¬ x1 = nI j) → post (-1) (us σ 0 0)))
