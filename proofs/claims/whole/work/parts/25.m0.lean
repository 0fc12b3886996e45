/-! BITS. The first rows are pasted from kit/laws/BITS.to-paste (Int32 by its bits). -/
def bt (x : Int32) (i : Nat) : Bool := x.toBitVec.getLsbD i
theorem b_ext {x y : Int32} (h : ∀ i, i < 32 → bt x i = bt y i) : x = y := Int32.toBitVec_inj.mp (BitVec.eq_of_getLsbD_eq (fun i hi => h i hi))
theorem b_or (x y : Int32) (i : Nat) : bt (x ||| y) i = (bt x i || bt y i) := by unfold bt; rw [Int32.toBitVec_or, BitVec.getLsbD_or]
theorem b_and (x y : Int32) (i : Nat) : bt (x &&& y) i = (bt x i && bt y i) := by unfold bt; rw [Int32.toBitVec_and, BitVec.getLsbD_and]
theorem b_xor (x y : Int32) (i : Nat) : bt (x ^^^ y) i = (bt x i ^^ bt y i) := by unfold bt; rw [Int32.toBitVec_xor, BitVec.getLsbD_xor]
theorem b_big {x : Int32} {i : Nat} (h : 32 ≤ i) : bt x i = false := BitVec.getLsbD_of_ge _ _ h
theorem b_255 (i : Nat) : bt 255 i = decide (i < 8) := by
  rcases Nat.lt_or_ge i 32 with h | h
  · exact (by decide +kernel : ∀ i, i < 32 → bt 255 i = decide (i < 8)) i h
  · rw [b_big h, decide_eq_false (by omega)]
theorem b_65535 (i : Nat) : bt 65535 i = decide (i < 16) := by
  rcases Nat.lt_or_ge i 32 with h | h
  · exact (by decide +kernel : ∀ i, i < 32 → bt 65535 i = decide (i < 16)) i h
  · rw [b_big h, decide_eq_false (by omega)]
theorem b_m1 : ∀ i, i < 32 → bt (-1) i = true := by decide +kernel
theorem b_0 (i : Nat) : bt 0 i = false := BitVec.getLsbD_zero
theorem s_l : ∀ n, n < 32 → ((nI n &&& 31).toBitVec.smod 32).toNat = n := by decide +kernel
theorem s_u : ∀ n, n < 32 → (((nI n).toUInt32 &&& Int32.toUInt32 31).toBitVec % 32).toNat = n := by decide +kernel
theorem b_shl (n : Nat) (hn : n < 32) (x : Int32) {i : Nat} (hi : i < 32) : bt (x <<< (nI n &&& 31)) i = (decide (n ≤ i) && bt x (i - n)) := by
  unfold bt
  rw [Int32.toBitVec_shiftLeft]
  show (x.toBitVec <<< ((nI n &&& 31).toBitVec.smod 32).toNat).getLsbD i = _
  rw [s_l n hn, BitVec.getLsbD_shiftLeft]
  rcases Nat.lt_or_ge i n with h | h
  · simp [h, Nat.not_le.mpr h]
  · simp [hi, h, Nat.not_lt.mpr h]
theorem b_ushr (n : Nat) (hn : n < 32) (x : Int32) (i : Nat) : bt ((x.toUInt32 >>> ((nI n).toUInt32 &&& Int32.toUInt32 31)).toInt32) i = bt x (n + i) := by
  show (x.toUInt32 >>> ((nI n).toUInt32 &&& Int32.toUInt32 31)).toBitVec.getLsbD i = x.toUInt32.toBitVec.getLsbD (n + i)
  rw [UInt32.toBitVec_shiftRight]
  show (x.toUInt32.toBitVec >>> (((nI n).toUInt32 &&& Int32.toUInt32 31).toBitVec % 32).toNat).getLsbD i = _
  rw [s_u n hn, BitVec.getLsbD_ushiftRight]
theorem b_sshr (n : Nat) (hn : n < 32) (x : Int32) {i : Nat} (hi : i < 32) : bt (x >>> (nI n &&& 31)) i = if n + i < 32 then bt x (n + i) else bt x 31 := by
  unfold bt
  rw [Int32.toBitVec_shiftRight]
  show (x.toBitVec.sshiftRight ((nI n &&& 31).toBitVec.smod 32).toNat).getLsbD i = _
  rw [s_l n hn, BitVec.getLsbD_sshiftRight, BitVec.msb_eq_getLsbD_last]
  simp [hi]
theorem b_shl8 (x : Int32) {i : Nat} (hi : i < 32) : bt (x <<< ((8 : Int32) &&& 31)) i = (decide (8 ≤ i) && bt x (i - 8)) := b_shl 8 (by omega) x hi
theorem b_shl16 (x : Int32) {i : Nat} (hi : i < 32) : bt (x <<< ((16 : Int32) &&& 31)) i = (decide (16 ≤ i) && bt x (i - 16)) := b_shl 16 (by omega) x hi
theorem b_shl24 (x : Int32) {i : Nat} (hi : i < 32) : bt (x <<< ((24 : Int32) &&& 31)) i = (decide (24 ≤ i) && bt x (i - 24)) := b_shl 24 (by omega) x hi
theorem b_sshr8 (x : Int32) {i : Nat} (hi : i < 32) : bt (x >>> ((8 : Int32) &&& 31)) i = if 8 + i < 32 then bt x (8 + i) else bt x 31 := b_sshr 8 (by omega) x hi
def bI (b : Bool) : Int32 := if b then 1 else 0
theorem b_1 : ∀ i, i < 32 → bt 1 i = decide (i = 0) := by decide +kernel
theorem bI_bt : ∀ (b : Bool) (i : Nat), i < 32 → bt (bI b) i = (b && decide (i = 0)) := by
  intro b i hi
  cases b
  · show bt 0 i = _
    rw [b_0]; rfl
  · show bt 1 i = _
    rw [b_1 i hi]; simp
theorem u_bit (x : Int32) {t : Nat} (ht : t < 32) : ush x (nI t) &&& 1 = bI (bt x t) := by
  apply b_ext
  intro i hi
  rw [b_and, bI_bt _ i hi, b_1 i hi]
  have e : bt (ush x (nI t)) i = bt x (t + i) := b_ushr t ht x i
  rw [e]
  by_cases h : i = 0
  · subst h; simp
  · simp [h]
theorem s_bit (x : Int32) {t : Nat} (ht : t < 32) : (x >>> (nI t &&& 31)) &&& 1 = bI (bt x t) := by
  apply b_ext
  intro i hi
  rw [b_and, bI_bt _ i hi, b_1 i hi, b_sshr t ht x hi]
  by_cases h : i = 0
  · subst h; simp [ht]
  · simp [h]
theorem b_one {t : Nat} (ht : t < 32) {i : Nat} (hi : i < 32) : bt ((1 : Int32) <<< (nI t &&& 31)) i = decide (i = t) := by
  rw [b_shl t ht 1 hi]
  by_cases h : t ≤ i
  · rw [b_1 (i - t) (by omega)]
    by_cases e : i = t
    · subst e; simp
    · have : ¬ i - t = 0 := by omega
      simp [this, e]
  · have : ¬ i = t := by omega
    simp [h, this]
theorem b_flip (x : Int32) {t : Nat} (ht : t < 32) {i : Nat} (hi : i < 32) : bt (x ^^^ ((1 : Int32) <<< (nI t &&& 31))) i = (bt x i ^^ decide (i = t)) := by
  rw [b_xor, b_one ht hi]
theorem bI_0 (b : Bool) : bI b = 0 ↔ b = false := by cases b <;> decide
theorem bI_1 (b : Bool) : bI b = 1 ↔ b = true := by cases b <;> decide
theorem bI_inj {a b : Bool} : bI a = bI b ↔ a = b := by cases a <;> cases b <;> decide
theorem bI_zb (b : Bool) : zb (bI b) := by cases b <;> rfl
theorem one_ne : ¬ (1 : Int32) = 0 := by decide
/-- an index: below N, or not -/
def okb (x : Int32) (N : Nat) : Bool := !(decide (x < 0) || decide (N ≤ x.toNatClampNeg))
theorem okb_in {x : Int32} {N : Nat} : okb x N = true ↔ vp_in x N := by
  unfold okb vp_in
  by_cases a : x < 0 <;> by_cases b : N ≤ x.toNatClampNeg <;> simp [a, b]
theorem okb_ex {x : Int32} {N : Nat} (hN : N < 2 ^ 31) (h : okb x N = true) : ∃ j, j < N ∧ x = nI j := vp_in_of (okb_in.mp h) hN
theorem okb_nI {j N : Nat} (hj : j < N) (hN : N < 2 ^ 31) : okb (nI j) N = true := okb_in.mpr (vp_in_nI hj hN)
theorem okb_neg {x : Int32} {N : Nat} (h : x < 0) : okb x N = false := by unfold okb; simp [h]
theorem okb_ge {x : Int32} {N : Nat} (hN : N < 2 ^ 31) (h : nI N ≤ x) : okb x N = false := by
  by_cases h0 : x < 0
  · exact okb_neg h0
  · obtain ⟨j, hj, e⟩ := nI_of h0
    subst e
    have : N ≤ j := (nI_leI hN hj).mp h
    unfold okb
    rw [nI_clamp hj]
    simp [this]
theorem okb_lt {x : Int32} {N : Nat} (hN : N < 2 ^ 31) (h0 : ¬ x < 0) (h : ¬ nI N ≤ x) : okb x N = true := by
  obtain ⟨j, hj, e⟩ := nI_of h0
  subst e
  exact okb_nI (by rcases Nat.lt_or_ge j N with z | z; exact z; exact absurd ((nI_leI hN hj).mpr z) h) hN
