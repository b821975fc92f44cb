theorem bit1 (x k : Nat) : (x >>> k) &&& 1 = if x.testBit k then 1 else 0 := by
  rw [Nat.and_one_is_mod, Nat.shiftRight_eq_div_pow, Nat.testBit_eq_decide_div_mod_eq]
  by_cases h : x / 2 ^ k % 2 = 1
  · rw [h, if_pos (decide_eq_true rfl)]
  · rw [if_neg (by rw [decide_eq_false h]; decide)]
    omega
theorem bit1_0 {x k : Nat} (h : (x >>> k) &&& 1 = 0) : x.testBit k = false := by
  rw [bit1] at h
  cases q : x.testBit k with
  | false => rfl
  | true => rw [q] at h; cases h
theorem bit1_1 {x k : Nat} (h : (x >>> k) &&& 1 ≠ 0) : x.testBit k = true := by
  rw [bit1] at h
  cases q : x.testBit k with
  | true => rfl
  | false => rw [q] at h; exact absurd rfl h
theorem bit1_le (x k : Nat) : (x >>> k) &&& 1 ≤ 1 := Nat.and_le_right
theorem mkN_0 {p : Nat → Bool} : ∀ {n : Nat}, (∀ k, k < n → p k = false) → mkN p n = 0
  | 0, _ => rfl
  | n + 1, h => by rw [← mkN_f (h n (by omega)), mkN_0 (fun k hk => h k (by omega))]
theorem allB_s {n : Nat} {p : Nat → Bool} : allB (n + 1) p = (allB n p && p n) := by
  cases h1 : allB n p with
  | false =>
    rw [Bool.false_and]
    cases h2 : allB (n + 1) p with
    | false => rfl
    | true =>
      have := allB_t (n := n) (p := p) (fun k hk => allB_iff.mp h2 k (by omega))
      rw [h1] at this; cases this
  | true =>
    rw [Bool.true_and]
    cases h2 : p n with
    | false => exact allB_f n (by omega) h2
    | true => exact allB_t (fun k hk => by by_cases e : k = n; rw [e]; exact h2; exact allB_iff.mp h1 k (by omega))
theorem allB_0 {p : Nat → Bool} : allB 0 p = true := allB_t (fun k hk => absurd hk (Nat.not_lt_zero k))
/-- what the model asks of the rows that are taken -/
def rgN (g : Nat → Nat) (v l p : Nat) : Nat := g ((v * 20 + l) * 8 + p)
def sqP (g : Nat → Nat) (v tk line pl : Nat) : Nat → Bool := fun k => !tk.testBit k || decide (rgN g v (k + line) pl = rgN g v (lsN tk + line) pl)
def oqP (g : Nat → Nat) (v tk line pl to at_ : Nat) : Nat → Bool := fun k => !tk.testBit k || decide (rgN g v (k + line) pl = rgN g v (k + to) at_)
def tlB (g : Nat → Nat) (v tk nl line pl : Nat) : Bool := (nmB (rgN g v (lsN tk + line) pl) || nuB (rgN g v (lsN tk + line) pl)) && !(allB nl (sqP g v tk line pl))
def hdB (z g : Nat → Nat) (v tk nl a k : Nat) : Bool := decide (k % 8 < szT z v tk (k / 8)) && allB nl (oqP g v tk (a / 8) (a % 8) (k / 8) (k % 8))
def haB (z g : Nat → Nat) (v tk nl a : Nat) : Bool := !(allB a (fun k => !(hdB z g v tk nl a k)))
def tdQ (z g : Nat → Nat) (v tk nl a : Nat) : Bool := decide (a % 8 < szT z v tk (a / 8)) && tlB g v tk nl (a / 8) (a % 8) && !(haB z g v tk nl a)
theorem haB_t {z g : Nat → Nat} {v tk nl a k : Nat} (hk : k < a) (h : hdB z g v tk nl a k = true) : haB z g v tk nl a = true := by
  unfold haB; rw [allB_f k hk (by rw [h]; rfl)]; rfl
theorem haB_f {z g : Nat → Nat} {v tk nl a : Nat} (h : ∀ k, k < a → hdB z g v tk nl a k = false) : haB z g v tk nl a = false := by
  unfold haB; rw [allB_t (fun k hk => by rw [h k hk]; rfl)]; rfl
theorem sqP_n {g : Nat → Nat} {v tk line pl k : Nat} (h : tk.testBit k = false) : sqP g v tk line pl k = true := by unfold sqP; rw [h]; rfl
theorem sqP_y {g : Nat → Nat} {v tk line pl k : Nat} (h : tk.testBit k = true) : sqP g v tk line pl k = decide (rgN g v (k + line) pl = rgN g v (lsN tk + line) pl) := by unfold sqP; rw [h]; rfl
theorem oqP_n {g : Nat → Nat} {v tk line pl to at_ k : Nat} (h : tk.testBit k = false) : oqP g v tk line pl to at_ k = true := by unfold oqP; rw [h]; rfl
theorem oqP_y {g : Nat → Nat} {v tk line pl to at_ k : Nat} (h : tk.testBit k = true) : oqP g v tk line pl to at_ k = decide (rgN g v (k + line) pl = rgN g v (k + to) at_) := by unfold oqP; rw [h]; rfl
def svM (ct n td : Nat) : Int32 := nI (n * ct) - nI n - nI 1 - nI ct - nI td
theorem ls_lt {x : Nat} (h : ∃ t, t < 20 ∧ x.testBit t = true) : lsN x < 20 ∧ x.testBit (lsN x) = true := by
  obtain ⟨t, ht, hb⟩ := h
  obtain ⟨h1, h2⟩ := ls_bit ht hb
  exact ⟨by omega, h2⟩
theorem tkF_top {gr n nl : Nat} (h : gr < 2 ^ nl) : ∀ d, tkF gr n (nl + d) = tkF gr n nl
  | 0 => rfl
  | d + 1 => by
    rw [show nl + (d + 1) = nl + d + 1 by omega, tkF_f (fun q => by rw [Nat.testBit_lt_two_pow (Nat.lt_of_lt_of_le h (Nat.pow_le_pow_right (by omega) (by omega)))] at q; cases q.1)]
    exact tkF_top h d
