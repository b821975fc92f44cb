theorem lnM_or (x y : Nat) : ∀ l, lnM (x ||| y) l = lnM x l ||| lnM y l
  | 0 => by show 0 = 0 ||| 0; simp
  | l + 1 => by
    show lnM (x ||| y) l ||| (x ||| y) * 2 ^ l = (lnM x l ||| x * 2 ^ l) ||| (lnM y l ||| y * 2 ^ l)
    rw [lnM_or x y l]
    apply Nat.eq_of_testBit_eq
    intro b
    simp only [Nat.testBit_or, Nat.mul_comm _ (2 ^ l), Nat.testBit_two_pow_mul]
    cases decide (l ≤ b) <;> cases (lnM x l).testBit b <;> cases (lnM y l).testBit b <;> cases x.testBit (b - l) <;> simp
theorem lnM_0 : ∀ l, lnM 0 l = 0
  | 0 => rfl
  | l + 1 => by
    show lnM 0 l ||| 0 * 2 ^ l = 0
    rw [lnM_0 l, Nat.zero_mul]; rfl
theorem lnM_pow (k : Nat) : ∀ l, lnM (2 ^ k) l = (2 ^ l - 1) * 2 ^ k
  | 0 => by show 0 = _; simp
  | l + 1 => by
    show lnM (2 ^ k) l ||| 2 ^ k * 2 ^ l = _
    rw [lnM_pow k l]
    apply Nat.eq_of_testBit_eq
    intro b
    rw [Nat.testBit_or, row_bit, row_bit, ← Nat.pow_add, Nat.testBit_two_pow, ← Bool.decide_or]
    exact decide_eq_decide.mpr (by omega)
theorem lnM_tk (gr n : Nat) : ∀ k, lnM (tkF gr n k).1 n = (tkF gr n k).2.2.1
  | 0 => lnM_0 n
  | k + 1 => by
    by_cases h : gr.testBit k = true ∧ (tkF gr n k).2.1 ≤ k
    · rw [tkF_t h.1 h.2]
      show lnM ((tkF gr n k).1 ||| 2 ^ k) n = (tkF gr n k).2.2.1 ||| (2 ^ n - 1) * 2 ^ k
      rw [lnM_or, lnM_tk gr n k, lnM_pow]
    · rw [tkF_f h]; exact lnM_tk gr n k
