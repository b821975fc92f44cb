/-- whether an int is one of 0 to n less 1 -/
def ixB (x : Int32) (n : Nat) : Bool := decide (0 ≤ x.toInt ∧ x.toInt < n)
theorem ixB_nI {v n : Nat} (h : v < n) (hn : n < 2 ^ 31) : ixB (nI v) n = true := by
  unfold ixB
  rw [nI_toInt (Nat.lt_trans h hn)]
  exact decide_eq_true (by omega)
theorem ixB_nIf {v n : Nat} (h : n ≤ v) (hv : v < 2 ^ 31) : ixB (nI v) n = false := by
  unfold ixB
  rw [nI_toInt hv]
  exact decide_eq_false (by omega)
theorem ixB_neg {x : Int32} {n : Nat} (h : x < 0) : ixB x n = false := by
  unfold ixB
  have := (fa_lt x 0).mp h
  exact decide_eq_false (fun q => by have h0 : (0 : Int32).toInt = 0 := rfl; omega)
theorem ixB_of {x : Int32} {n : Nat} (hn : n < 2 ^ 31) (h : ixB x n = true) : ∃ v, v < n ∧ x = nI v := by
  have h2 := of_decide_eq_true h
  obtain ⟨j, hj, e⟩ := nI_of (x := x) (fun q => by have := (fa_lt x 0).mp q; have h0 : (0 : Int32).toInt = 0 := rfl; omega)
  refine ⟨j, ?_, e⟩
  rw [e, nI_toInt hj] at h2
  omega
theorem ixB_iff {x : Int32} {n : Nat} : ixB x n = true ↔ (0 ≤ x.toInt ∧ x.toInt < n) := decide_eq_true_iff
theorem tI0 : (0 : Int32).toInt = 0 := rfl
theorem b_one {P : Prop} [Decidable P] (h : P) : nI 1 = bI (decide P) := by rw [decide_eq_true h]; rfl
theorem b_zero {P : Prop} [Decidable P] (h : ¬ P) : nI 0 = bI (decide P) := by rw [decide_eq_false h]; rfl
theorem bb_one {b : Bool} (h : b = true) : nI 1 = bI b := by rw [h]; rfl
theorem bb_zero {b : Bool} (h : b = false) : nI 0 = bI b := by rw [h]; rfl
/-- all of the first n -/
def allB (n : Nat) (p : Nat → Bool) : Bool := decide (∀ k, k < n → p k = true)
theorem allB_t {n : Nat} {p : Nat → Bool} (h : ∀ k, k < n → p k = true) : allB n p = true := decide_eq_true h
theorem allB_f {n : Nat} {p : Nat → Bool} (k : Nat) (hk : k < n) (h : p k = false) : allB n p = false := decide_eq_false (fun q => by have := q k hk; rw [h] at this; cases this)
theorem allB_iff {n : Nat} {p : Nat → Bool} : allB n p = true ↔ ∀ k, k < n → p k = true := decide_eq_true_iff
/-- the sign at a place of a line, or 0 -/
def sgN (z g : Nat → Nat) (sl k : Nat) : Nat := if k < z sl then g (sl * 8 + k) else 0
def sgA (z g : Nat → Nat) (sl : Nat) (x : Int32) : Nat := if x < 0 then 0 else sgN z g sl x.toNatClampNeg
theorem sgA_nI {z g : Nat → Nat} {sl k : Nat} (hk : k < 2 ^ 31) : sgA z g sl (nI k) = sgN z g sl k := by
  unfold sgA
  rw [if_neg (nI_pos hk), nI_clamp hk]
theorem sgN_le {z g : Nat → Nat} (hg : ∀ j, g j ≤ 126) (sl k : Nat) : sgN z g sl k ≤ 126 := by
  unfold sgN
  split
  · exact hg _
  · omega
/-- a line is the same in the next version -/
def stB (z g : Nat → Nat) (v ln : Nat) : Bool := decide (z ((v + 1) * 20 + ln) = z (v * 20 + ln)) && allB (z (v * 20 + ln)) (fun k => decide (g ((v * 20 + ln) * 8 + k) = g (((v + 1) * 20 + ln) * 8 + k)))
/-- a line put into the first versions -/
def wrG (pd g : Nat → Nat) (ln n : Nat) : Nat → Nat → Nat
  | 0 => g
  | v + 1 => cpN pd (wrG pd g ln n v) 0 ((v * 20 + ln) * 8) n
def wrZ (z : Nat → Nat) (ln n : Nat) : Nat → Nat → Nat
  | 0 => z
  | v + 1 => upN (wrZ z ln n v) (v * 20 + ln) n
theorem upN_le {z : Nat → Nat} {b k x : Nat} (h : ∀ j, z j ≤ b) (hx : x ≤ b) : ∀ j, upN z k x j ≤ b := by
  intro j; unfold upN; split
  · exact hx
  · exact h j
theorem cpN_le {f g : Nat → Nat} {b sp dp n : Nat} (hf : ∀ j, f j ≤ b) (hg : ∀ j, g j ≤ b) : ∀ j, cpN f g sp dp n j ≤ b := by
  intro j; unfold cpN; split
  · exact hf _
  · exact hg j
