theorem ixB_d {a n : Nat} (h : a < 2 ^ 31) : ixB (nI a) n = decide (a < n) := by
  by_cases q : a < n
  · rw [decide_eq_true q]
    unfold ixB
    rw [nI_toInt h]
    exact decide_eq_true (by omega)
  · rw [decide_eq_false q, ixB_nIf (by omega) h]
/-- one place of two rows beside each other -/
def stX (way : Nat) (L : List (Nat × Nat)) (a b : Nat) : Bool × List (Nat × Nat) :=
  if way ≠ 0 ∧ nmB a = true then (jnB L a b, jnL L a b) else if way = 2 ∧ nuB a = true then (nuB b, L) else (decide (a = b), L)
/-- the first places of two lines -/
def lnX (way : Nat) (fa fb : Nat → Nat) (sk : Nat → Bool) (L : List (Nat × Nat)) : Nat → Bool × List (Nat × Nat)
  | 0 => (true, L)
  | p + 1 => if (lnX way fa fb sk L p).1 then (if sk p then lnX way fa fb sk L p else stX way (lnX way fa fb sk L p).2 (fa p) (fb p)) else lnX way fa fb sk L p
/-- two lines, by their slots -/
def lfX (way : Nat) (z g : Nat → Nat) (s1 s2 : Nat) (sk : Nat → Bool) (L : List (Nat × Nat)) : Bool × List (Nat × Nat) :=
  if z s2 = z s1 then lnX way (sgN z g s1) (sgN z g s2) sk L (z s1) else (false, L)
/-- two rows -/
def rwX (way : Nat) (z g : Nat → Nat) (v one other : Nat) (sk : Nat → Nat → Bool) : Nat → Bool × List (Nat × Nat)
  | 0 => (true, [])
  | k + 1 => if (rwX way z g v one other sk k).1 then lfX way z g (v * 20 + (one + k)) (v * 20 + (other + k)) (sk k) (rwX way z g v one other sk k).2 else rwX way z g v one other sk k
theorem rwX_s {way : Nat} {z g : Nat → Nat} {v one other : Nat} {sk : Nat → Nat → Bool} {k : Nat} (h : (rwX way z g v one other sk k).1 = true) : rwX way z g v one other sk (k + 1) = lfX way z g (v * 20 + (one + k)) (v * 20 + (other + k)) (sk k) (rwX way z g v one other sk k).2 := if_pos h
theorem rwX_stop {way : Nat} {z g : Nat → Nat} {v one other : Nat} {sk : Nat → Nat → Bool} {k : Nat} (h : (rwX way z g v one other sk k).1 = false) : ∀ d, rwX way z g v one other sk (k + d) = rwX way z g v one other sk k
  | 0 => rfl
  | d + 1 => by
    have ih := rwX_stop h d
    show (if (rwX way z g v one other sk (k + d)).1 then _ else rwX way z g v one other sk (k + d)) = _
    rw [ih, if_neg (by rw [h]; decide)]
theorem rwX_pre {way : Nat} {z g : Nat → Nat} {v one other : Nat} {sk : Nat → Nat → Bool} {k j : Nat} (hj : j ≤ k) (h : (rwX way z g v one other sk k).1 = true) : (rwX way z g v one other sk j).1 = true := by
  cases hb : (rwX way z g v one other sk j).1 with
  | true => rfl
  | false =>
    have := rwX_stop hb (k - j)
    rw [show j + (k - j) = k by omega] at this
    rw [this, hb] at h
    cases h
theorem lnX_s {way : Nat} {fa fb : Nat → Nat} {sk : Nat → Bool} {L : List (Nat × Nat)} {p : Nat} (h : (lnX way fa fb sk L p).1 = true) (hs : sk p = false) : lnX way fa fb sk L (p + 1) = stX way (lnX way fa fb sk L p).2 (fa p) (fb p) := by
  show (if _ then _ else _) = _
  rw [if_pos h, if_neg (by rw [hs]; decide)]
theorem lnX_k {way : Nat} {fa fb : Nat → Nat} {sk : Nat → Bool} {L : List (Nat × Nat)} {p : Nat} (hs : sk p = true) : lnX way fa fb sk L (p + 1) = lnX way fa fb sk L p := by
  show (if _ then _ else _) = _
  by_cases h : (lnX way fa fb sk L p).1 = true
  · rw [if_pos h, if_pos hs]
  · rw [if_neg h]
theorem lnX_stop {way : Nat} {fa fb : Nat → Nat} {sk : Nat → Bool} {L : List (Nat × Nat)} {p : Nat} (h : (lnX way fa fb sk L p).1 = false) : ∀ d, lnX way fa fb sk L (p + d) = lnX way fa fb sk L p
  | 0 => rfl
  | d + 1 => by
    have ih := lnX_stop h d
    show (if (lnX way fa fb sk L (p + d)).1 then _ else lnX way fa fb sk L (p + d)) = _
    rw [ih, if_neg (by rw [h]; decide)]
theorem stX_1 {way a b : Nat} {L : List (Nat × Nat)} (h : way ≠ 0) (ha : nmB a = true) : stX way L a b = (jnB L a b, jnL L a b) := if_pos ⟨h, ha⟩
theorem stX_2 {way a b : Nat} {L : List (Nat × Nat)} (ha : nmB a = false) (h : way = 2) (hn : nuB a = true) : stX way L a b = (nuB b, L) := by
  unfold stX
  rw [if_neg (fun q => by rw [ha] at q; cases q.2), if_pos ⟨h, hn⟩]
theorem stX_0 {way a b : Nat} {L : List (Nat × Nat)} (h1 : way = 0 ∨ nmB a = false) (h2 : way ≠ 2 ∨ nuB a = false) : stX way L a b = (decide (a = b), L) := by
  unfold stX
  rw [if_neg (fun q => h1.elim (fun e => q.1 e) (fun e => by rw [e] at q; cases q.2)), if_neg (fun q => h2.elim (fun e => e q.1) (fun e => by rw [e] at q; cases q.2))]
/-- the greatest k up to n with p k, or 0 -/
def raN (p : Nat → Bool) : Nat → Nat
  | 0 => 0
  | m + 1 => if p (m + 1) then m + 1 else raN p m
theorem raN_le (p : Nat → Bool) : ∀ m, raN p m ≤ m
  | 0 => Nat.le_refl 0
  | m + 1 => by
    have := raN_le p m
    unfold raN
    split <;> omega
theorem raN_all {p : Nat → Bool} : ∀ {m : Nat}, p m = true → raN p m = m
  | 0, _ => rfl
  | m + 1, h => if_pos h
theorem raN_at {p : Nat → Bool} {k : Nat} (hk : p k = true) : ∀ {m : Nat}, k ≤ m → (∀ j, k < j → j ≤ m → p j = false) → raN p m = k
  | 0, h, _ => by have : k = 0 := by omega
                  subst this; rfl
  | m + 1, h, hn => by
    by_cases e : k = m + 1
    · subst e; exact raN_all hk
    · unfold raN
      rw [if_neg (by rw [hn (m + 1) (by omega) (Nat.le_refl _)]; decide)]
      exact raN_at hk (by omega) (fun j h1 h2 => hn j h1 (by omega))
theorem raN_ge {p : Nat → Bool} (hp : ∀ j k, j ≤ k → p k = true → p j = true) {n : Nat} : ∀ {m : Nat}, 1 ≤ n → n ≤ m → (n ≤ raN p m ↔ p n = true)
  | 0, h1, h => by omega
  | m + 1, h1, h => by
    unfold raN
    by_cases q : p (m + 1) = true
    · rw [if_pos q]
      exact ⟨fun _ => hp n (m + 1) h q, fun _ => h⟩
    · rw [if_neg q]
      by_cases e : n = m + 1
      · subst e
        have := raN_le p m
        exact ⟨fun h => by omega, fun h => absurd h q⟩
      · exact raN_ge hp h1 (by omega)
def skn : Nat → Nat → Bool := fun _ p => decide (nI p = (-1))
/-- how many lines from two starts on are alike, at most m -/
def rlN (way : Nat) (z g : Nat → Nat) (v one other m : Nat) : Nat := raN (fun k => (rwX way z g v one other skn k).1) m
theorem rlN_le (way : Nat) (z g : Nat → Nat) (v one other m : Nat) : rlN way z g v one other m ≤ m := raN_le _ m
/-- whether two rows are there and alike -/
def raB (way : Nat) (z g : Nat → Nat) (v nl one other n : Nat) : Bool := decide (max one other + n ≤ nl) && (rwX way z g v one other skn n).1
/-- bits of those below n that have p -/
def mkN (p : Nat → Bool) : Nat → Nat
  | 0 => 0
  | n + 1 => mkN p n ||| (if p n then 2 ^ n else 0)
theorem mkN_lt (p : Nat → Bool) : ∀ n, mkN p n < 2 ^ n
  | 0 => Nat.zero_lt_one
  | n + 1 => by
    have ih := mkN_lt p n
    unfold mkN
    have h2 : mkN p n < 2 ^ (n + 1) := Nat.lt_trans ih (Nat.pow_lt_pow_right (by omega) (by omega))
    split
    · exact Nat.or_lt_two_pow h2 (Nat.pow_lt_pow_right (by omega) (by omega))
    · rw [Nat.or_zero]; exact h2
theorem mkN_bit (p : Nat → Bool) : ∀ n k, (mkN p n).testBit k = (decide (k < n) && p k)
  | 0, k => by simp [mkN]
  | n + 1, k => by
    have ih := mkN_bit p n k
    unfold mkN
    by_cases hp : p n = true
    · rw [if_pos hp, fb_bit_set, ih]
      by_cases e : k = n
      · subst e; simp [hp]
      · by_cases h : k < n
        · simp [h, e, Nat.lt_succ_of_lt h]
        · simp [h, e, show ¬ k < n + 1 by omega]
    · rw [if_neg hp, Nat.or_zero, ih]
      by_cases e : k = n
      · subst e; simp [hp]
      · by_cases h : k < n
        · simp [h, Nat.lt_succ_of_lt h]
        · simp [h, show ¬ k < n + 1 by omega]
theorem mkN_t {p : Nat → Bool} {n : Nat} (h : p n = true) : mkN p n ||| 2 ^ n = mkN p (n + 1) := by
  show _ = mkN p n ||| (if p n then 2 ^ n else 0)
  rw [if_pos h]
theorem mkN_f {p : Nat → Bool} {n : Nat} (h : p n = false) : mkN p n = mkN p (n + 1) := by
  show _ = mkN p n ||| (if p n then 2 ^ n else 0)
  rw [if_neg (by rw [h]; decide), Nat.or_zero]
theorem pow_le31 {n k : Nat} (h : n < 2 ^ k) (hk : k ≤ 31) : n < 2 ^ 31 := Nat.lt_of_lt_of_le h (Nat.pow_le_pow_right (by omega) hk)
/-- what the table of reaches tells of two starts -/
def rcN (rc : Nat → Nat) (nl one other : Nat) : Nat := if one < nl ∧ other < nl then rc (one * 20 + other) else 0
theorem rcN_le {rc : Nat → Nat} {b : Nat} (h : ∀ j, rc j ≤ b) (nl one other : Nat) : rcN rc nl one other ≤ b := by
  unfold rcN; split
  · exact h _
  · omega
def slN (rc : Nat → Nat) (nl start n : Nat) : Nat := mkN (fun o => decide (n ≤ rcN rc nl start o)) nl
theorem slN_lt {rc : Nat → Nat} {nl start n : Nat} (h : nl ≤ 20) : slN rc nl start n < 2 ^ 20 := Nat.lt_of_lt_of_le (mkN_lt _ _) (Nat.pow_le_pow_right (by omega) h)
def lsN (x : Nat) : Nat := fa_first (fun k => x.testBit k) 20
theorem lsN_le (x : Nat) : lsN x ≤ 20 := fa_first_le _ _
theorem first_eq {p : Nat → Bool} {n k : Nat} (hk : k ≤ n) (h : ∀ j, j < k → p j = false) (h2 : k < n → p k = true) : fa_first p n = k := by
  have a := fa_first_no p n
  have b := fa_first_yes p n
  have c := fa_first_le p n
  rcases Nat.lt_trichotomy (fa_first p n) k with q | q | q
  · have := h _ q
    rw [b (by omega)] at this
    cases this
  · exact q
  · have := a k q
    rw [h2 (by omega)] at this
    cases this
/-- how many bits -/
def bcN (x : Nat) : Nat := fb_ct (fun k => x.testBit k) 20
theorem bcN_le (x : Nat) : bcN x ≤ 20 := fb_ct_le _ _
def lgB (rc : Nat → Nat) (nl start n : Nat) : Bool := decide (2 ≤ bcN (slN rc nl start n) ∧ lsN (slN rc nl start n) = start)
def wlB (rc : Nat → Nat) (nl gr n : Nat) : Bool := decide (slN rc nl (lsN gr) (n + 1) = gr ∨ (0 < lsN gr ∧ slN rc nl (lsN gr - 1) (n + 1) = gr >>> 1))
/-- what compareAll lays -/
def rT (way : Nat) (z g : Nat → Nat) (v nl i j : Nat) : Nat := if i = j then nl - i else if i < j then rlN way z g v i j (nl - j) else rlN way z g v j i (nl - i)
theorem rT_le (way : Nat) (z g : Nat → Nat) (v nl i j : Nat) : rT way z g v nl i j ≤ nl := by
  unfold rT
  split
  · omega
  · split
    · have := rlN_le way z g v i j (nl - j); omega
    · have := rlN_le way z g v j i (nl - i); omega
def rcOK (way : Nat) (z g : Nat → Nat) (v nl : Nat) (rc : Nat → Nat) : Prop := ∀ i j, i < nl → j < nl → rc (i * 20 + j) = rT way z g v nl i j
/-- the longest: of all two starts the greatest of these -/
def lgV (rc : Nat → Nat) (nl i j : Nat) : Nat := min (rcN rc nl i j) (j - i)
/-- the best so far over the pairs ahead of (i, j) -/
def lgI (rc : Nat → Nat) (nl i j ll lo lt : Nat) : Prop :=
  (∀ a b, a < b → b < nl → (a < i ∨ (a = i ∧ b < j)) → lgV rc nl a b ≤ ll) ∧
  (0 < ll → lo < lt ∧ lt < nl ∧ lgV rc nl lo lt = ll ∧ ∀ a b, a < b → b < nl → (a < lo ∨ (a = lo ∧ b < lt)) → lgV rc nl a b < ll)
theorem lgI_0 (rc : Nat → Nat) (nl lo lt : Nat) : lgI rc nl 0 0 0 lo lt := ⟨fun a b _ _ h => by omega, fun h => by omega⟩
theorem lgI_row {rc : Nat → Nat} {nl i j ll lo lt : Nat} (h : lgI rc nl i j ll lo lt) (hj : nl ≤ j) : lgI rc nl (i + 1) (i + 2) ll lo lt :=
  ⟨fun a b h1 h2 h3 => h.1 a b h1 h2 (by omega), h.2⟩
theorem lgI_start {rc : Nat → Nat} {nl i j ll lo lt : Nat} (h : lgI rc nl i j ll lo lt) (hj : j ≤ i + 1) : lgI rc nl i (i + 1) ll lo lt :=
  ⟨fun a b h1 h2 h3 => h.1 a b h1 h2 (by omega), h.2⟩
theorem lgI_keep {rc : Nat → Nat} {nl i j ll lo lt : Nat} (h : lgI rc nl i j ll lo lt) (hv : lgV rc nl i j ≤ ll) : lgI rc nl i (j + 1) ll lo lt := by
  refine ⟨fun a b h1 h2 h3 => ?_, h.2⟩
  by_cases e : a = i ∧ b = j
  · rw [e.1, e.2]; exact hv
  · exact h.1 a b h1 h2 (by omega)
theorem lgI_new {rc : Nat → Nat} {nl i j ll lo lt : Nat} (h : lgI rc nl i j ll lo lt) (hij : i < j) (hj : j < nl) (hv : ll < lgV rc nl i j) : lgI rc nl i (j + 1) (lgV rc nl i j) i j := by
  refine ⟨fun a b h1 h2 h3 => ?_, fun _ => ⟨hij, hj, rfl, fun a b h1 h2 h3 => ?_⟩⟩
  · by_cases e : a = i ∧ b = j
    · rw [e.1, e.2]; exact Nat.le_refl _
    · have := h.1 a b h1 h2 (by omega); omega
  · have := h.1 a b h1 h2 h3; omega
