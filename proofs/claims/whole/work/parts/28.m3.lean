/-! MATHEMATICS 3: how many bits an int has (the library's bitCount). -/
def pop : Nat → Nat → Nat
  | 0, _ => 0
  | k + 1, n => pop k n + n / 2 ^ k % 2
theorem pop_byte {m b t : Nat} (ht : t < 8) : (256 * m + b) / 2 ^ t % 2 = b / 2 ^ t % 2 := by
  rcases (show t = 0 ∨ t = 1 ∨ t = 2 ∨ t = 3 ∨ t = 4 ∨ t = 5 ∨ t = 6 ∨ t = 7 by omega) with rfl | rfl | rfl | rfl | rfl | rfl | rfl | rfl <;> simp only [Nat.reducePow] <;> omega
theorem pop_low (m b : Nat) : ∀ k, k ≤ 8 → pop k (256 * m + b) = pop k b := by
  intro k
  induction k with
  | zero => intro _; rfl
  | succ k ih =>
    intro hk
    show pop k (256 * m + b) + (256 * m + b) / 2 ^ k % 2 = pop k b + b / 2 ^ k % 2
    rw [ih (by omega), pop_byte (by omega)]
theorem pop_split (m b : Nat) (hb : b < 256) : ∀ k, pop (8 + k) (256 * m + b) = pop 8 b + pop k m := by
  intro k
  induction k with
  | zero => exact pop_low m b 8 (Nat.le_refl 8)
  | succ k ih =>
    show pop (8 + k) (256 * m + b) + (256 * m + b) / 2 ^ (8 + k) % 2 = pop 8 b + (pop k m + m / 2 ^ k % 2)
    rw [ih, Nat.pow_add, ← Nat.div_div_eq_div_mul, show (256 * m + b) / 2 ^ 8 = m by simp only [Nat.reducePow]; omega]
    omega
theorem and_split {u v M c : Nat} (hv : v < 256) (hc : c < 256) : (256 * u + v) &&& (256 * M + c) = 256 * (u &&& M) + (v &&& c) := by
  apply Nat.eq_of_testBit_eq
  intro j
  have hvc : v &&& c < 2 ^ 8 := Nat.lt_of_le_of_lt Nat.and_le_left hv
  have e1 := Nat.testBit_two_pow_mul_add u (i := 8) (b := v) hv j
  have e2 := Nat.testBit_two_pow_mul_add M (i := 8) (b := c) hc j
  have e3 := Nat.testBit_two_pow_mul_add (u &&& M) (i := 8) (b := v &&& c) hvc j
  simp only [Nat.reducePow] at e1 e2 e3
  rw [Nat.testBit_and, e1, e2, e3]
  by_cases h : j < 8
  · simp [h]
  · simp [h]
theorem pb1 : ∀ b, b < 256 → ∀ h, h < 2 → (128 * h + b / 2) &&& 85 = b / 2 &&& 85 := by decide +kernel
theorem pb2 : ∀ b, b < 256 → ∀ h, h < 4 → (64 * h + b / 4) &&& 51 = b / 4 &&& 51 := by decide +kernel
/-- a byte, step by step -/
def q1 (b : Nat) : Nat := b - (b / 2 &&& 85)
def q2 (b : Nat) : Nat := (b &&& 51) + (b / 4 &&& 51)
def q3 (b : Nat) : Nat := (b + b / 16) &&& 15
theorem q1_lt : ∀ b, b < 256 → q1 b < 256 ∧ (b / 2 &&& 85) ≤ b := by decide +kernel
theorem q2_lt : ∀ b, b < 256 → q2 (q1 b) < 69 ∧ q2 (q1 b) % 16 < 5 := by decide +kernel
theorem q3_pop : ∀ b, b < 256 → q3 (q2 (q1 b)) = pop 8 b ∧ pop 8 b ≤ 8 := by decide +kernel
/-- four bytes -/
def cb (a b c d : Nat) : Nat := 256 * (256 * (256 * d + c) + b) + a
theorem cb_ex {n : Nat} (h : n < 2 ^ 32) : ∃ a b c d, a < 256 ∧ b < 256 ∧ c < 256 ∧ d < 256 ∧ n = cb a b c d := by
  refine ⟨n % 256, n / 256 % 256, n / 65536 % 256, n / 16777216, ?_⟩
  unfold cb
  simp only [Nat.reducePow] at h
  omega
theorem cb_and {a b c d m : Nat} (ha : a < 256) (hb : b < 256) (hc : c < 256) (hm : m < 256) : cb a b c d &&& cb m m m m = cb (a &&& m) (b &&& m) (c &&& m) (d &&& m) := by
  unfold cb
  rw [and_split ha hm, and_split hb hm, and_split hc hm]
theorem cb_1 {a b c d : Nat} (ha : a < 256) (hb : b < 256) (hc : c < 256) (hd : d < 256) : cb a b c d - (cb a b c d / 2 &&& 1431655765) = cb (q1 a) (q1 b) (q1 c) (q1 d) := by
  have e : cb a b c d / 2 = cb (128 * (b % 2) + a / 2) (128 * (c % 2) + b / 2) (128 * (d % 2) + c / 2) (d / 2) := by unfold cb; omega
  have em : (1431655765 : Nat) = cb 85 85 85 85 := by decide
  rw [e, em, cb_and (by omega) (by omega) (by omega) (by omega), pb1 a ha _ (by omega), pb1 b hb _ (by omega), pb1 c hc _ (by omega)]
  have h1 := (q1_lt a ha).2
  have h2 := (q1_lt b hb).2
  have h3 := (q1_lt c hc).2
  have h4 := (q1_lt d hd).2
  unfold cb q1
  omega
theorem cb_2 {a b c d : Nat} (ha : a < 256) (hb : b < 256) (hc : c < 256) : (cb a b c d &&& 858993459) + (cb a b c d / 4 &&& 858993459) = cb (q2 a) (q2 b) (q2 c) (q2 d) := by
  have e : cb a b c d / 4 = cb (64 * (b % 4) + a / 4) (64 * (c % 4) + b / 4) (64 * (d % 4) + c / 4) (d / 4) := by unfold cb; omega
  have em : (858993459 : Nat) = cb 51 51 51 51 := by decide
  rw [e, em, cb_and ha hb hc (by omega), cb_and (by omega) (by omega) (by omega) (by omega), pb2 a ha _ (by omega), pb2 b hb _ (by omega), pb2 c hc _ (by omega)]
  unfold cb q2
  omega
theorem pb3 : ∀ b, b < 69 → ∀ h, h < 5 → (b + (16 * h + b / 16)) &&& 15 = (b + b / 16) &&& 15 := by decide +kernel
theorem cb_3 {a b c d : Nat} (ha : a < 69) (hb : b < 69) (hc : c < 69) (hd : d < 69) (hb2 : b % 16 < 5) (hc2 : c % 16 < 5) (hd2 : d % 16 < 5) : ((cb a b c d + cb a b c d / 16) &&& 252645135) = cb (q3 a) (q3 b) (q3 c) (q3 d) := by
  have em : (252645135 : Nat) = cb 15 15 15 15 := by decide
  have e : cb a b c d + cb a b c d / 16 = cb (a + (16 * (b % 16) + a / 16)) (b + (16 * (c % 16) + b / 16)) (c + (16 * (d % 16) + c / 16)) (d + d / 16) := by unfold cb; omega
  rw [e, em, cb_and (by omega) (by omega) (by omega) (by omega), pb3 a ha _ hb2, pb3 b hb _ hc2, pb3 c hc _ hd2]
  rfl
theorem and_63 {m c : Nat} (hc : c < 64) : (256 * m + c) &&& 63 = c := by
  have e : (63 : Nat) = 256 * 0 + 63 := by decide
  rw [e, and_split (by omega) (by omega)]
  have h : c &&& 63 = c := (by decide +kernel : ∀ c, c < 64 → c &&& 63 = c) c hc
  rw [h]
  simp
/-- the library's steps, over numbers -/
theorem pop_steps {n : Nat} (hn : n < 2 ^ 32) : ∃ n1 n2 n3 n4 n5, n1 = n - (n / 2 &&& 1431655765) ∧ n1 < 2 ^ 32 ∧ (n / 2 &&& 1431655765) ≤ n ∧ n2 = (n1 &&& 858993459) + (n1 / 4 &&& 858993459) ∧ n2 < 2 ^ 31 ∧ n3 = (n2 + n2 / 16) &&& 252645135 ∧ n3 < 2 ^ 28 ∧ n4 = n3 + n3 / 256 ∧ n4 < 2 ^ 30 ∧ n5 = n4 + n4 / 65536 ∧ n5 < 2 ^ 31 ∧ n5 &&& 63 = pop 32 n := by
  obtain ⟨a, b, c, d, ha, hb, hc, hd, e⟩ := cb_ex hn
  have k1 := cb_1 ha hb hc hd
  have k2 := cb_2 (d := q1 d) (q1_lt a ha).1 (q1_lt b hb).1 (q1_lt c hc).1
  have k3 := cb_3 (q2_lt a ha).1 (q2_lt b hb).1 (q2_lt c hc).1 (q2_lt d hd).1 (q2_lt b hb).2 (q2_lt c hc).2 (q2_lt d hd).2
  rw [(q3_pop a ha).1, (q3_pop b hb).1, (q3_pop c hc).1, (q3_pop d hd).1] at k3
  have p1 := (q3_pop a ha).2
  have p2 := (q3_pop b hb).2
  have p3 := (q3_pop c hc).2
  have p4 := (q3_pop d hd).2
  have hp : pop 32 n = pop 8 a + (pop 8 b + (pop 8 c + pop 8 d)) := by
    rw [e]
    unfold cb
    rw [show (32 : Nat) = 8 + 24 from rfl, pop_split _ a ha 24, show (24 : Nat) = 8 + 16 from rfl, pop_split _ b hb 16, show (16 : Nat) = 8 + 8 from rfl, pop_split d c hc 8]
  have g1 : cb (q1 a) (q1 b) (q1 c) (q1 d) < 2 ^ 32 := by
    have := (q1_lt a ha).1
    have := (q1_lt b hb).1
    have := (q1_lt c hc).1
    have := (q1_lt d hd).1
    unfold cb
    simp only [Nat.reducePow]
    omega
  have g2 : cb (q2 (q1 a)) (q2 (q1 b)) (q2 (q1 c)) (q2 (q1 d)) < 2 ^ 31 := by
    have := (q2_lt a ha).1
    have := (q2_lt b hb).1
    have := (q2_lt c hc).1
    have := (q2_lt d hd).1
    unfold cb
    simp only [Nat.reducePow]
    omega
  have hle : (n / 2 &&& 1431655765) ≤ n := Nat.le_trans Nat.and_le_left (Nat.div_le_self n 2)
  generalize pop 8 a = pa at k3 p1 hp
  generalize pop 8 b = pb at k3 p2 hp
  generalize pop 8 c = pc at k3 p3 hp
  generalize pop 8 d = pd at k3 p4 hp
  have e4 : cb pa pb pc pd + cb pa pb pc pd / 256 = cb (pa + pb) (pb + pc) (pc + pd) pd := by unfold cb; omega
  have e5 : cb (pa + pb) (pb + pc) (pc + pd) pd + cb (pa + pb) (pb + pc) (pc + pd) pd / 65536 = 256 * (256 * (256 * pd + (pc + pd)) + (pb + pc + pd)) + (pa + pb + (pc + pd)) := by unfold cb; omega
  refine ⟨_, _, _, _, _, rfl, ?_, hle, rfl, ?_, rfl, ?_, rfl, ?_, rfl, ?_, ?_⟩
  · rw [e, k1]; exact g1
  · rw [e, k1, k2]; exact g2
  · rw [e, k1, k2, k3]; unfold cb; simp only [Nat.reducePow]; omega
  · rw [e, k1, k2, k3, e4]; unfold cb; simp only [Nat.reducePow]; omega
  · rw [e, k1, k2, k3, e4, e5]; simp only [Nat.reducePow]; omega
  · rw [hp, e, k1, k2, k3, e4, e5, and_63 (by omega)]; omega
