def nmB (s : Nat) : Bool := decide (97 ≤ s ∧ s ≤ 122)
def nuB (s : Nat) : Bool := decide (48 ≤ s ∧ s ≤ 57)
theorem nmB_iff {s : Nat} : nmB s = true ↔ (97 ≤ s ∧ s ≤ 122) := decide_eq_true_iff
theorem nuB_iff {s : Nat} : nuB s = true ↔ (48 ≤ s ∧ s ≤ 57) := decide_eq_true_iff
/-- names beside each other, one for one -/
def pcons (L : List (Nat × Nat)) : Prop := ∀ q ∈ L, ∀ r ∈ L, (q.1 = r.1 ↔ q.2 = r.2)
def okp (L : List (Nat × Nat)) (a b : Nat) : Bool := L.all (fun q => decide (q.1 = a ↔ q.2 = b))
theorem okp_iff {L : List (Nat × Nat)} {a b : Nat} : okp L a b = true ↔ ∀ q ∈ L, (q.1 = a ↔ q.2 = b) := by
  unfold okp
  rw [List.all_eq_true]
  exact ⟨fun h q hq => of_decide_eq_true (h q hq), fun h q hq => decide_eq_true (h q hq)⟩
def jnB (L : List (Nat × Nat)) (a b : Nat) : Bool := nmB a && nmB b && okp L a b
def jnL (L : List (Nat × Nat)) (a b : Nat) : List (Nat × Nat) := if jnB L a b then (a, b) :: L else L
/-- the pairing of the class holds these names -/
def pmC (n1 n2 : Nat) (pt : Nat → Nat) (L : List (Nat × Nat)) : Prop :=
  n1 < 2 ^ 26 ∧ n2 < 2 ^ 26 ∧ (∀ c, c < 26 → (n1.testBit c = true ↔ ∃ q ∈ L, q.1 = c + 97)) ∧ (∀ c, c < 26 → (n2.testBit c = true ↔ ∃ q ∈ L, q.2 = c + 97)) ∧
  (∀ q ∈ L, (97 ≤ q.1 ∧ q.1 ≤ 122) ∧ (97 ≤ q.2 ∧ q.2 ≤ 122) ∧ pt (q.1 - 97) = q.2) ∧ pcons L ∧ ∀ j, pt j ≤ 126
theorem pmC_nil {pt : Nat → Nat} (h : ∀ j, pt j ≤ 126) : pmC 0 0 pt [] :=
  ⟨by decide, by decide, fun c _ => by simp, fun c _ => by simp, fun q h => absurd h List.not_mem_nil, fun q h => absurd h List.not_mem_nil, h⟩
theorem and_pow_ne {n k : Nat} : n &&& 2 ^ k ≠ 0 ↔ n.testBit k = true := by
  constructor
  · intro h
    cases hb : n.testBit k with
    | true => rfl
    | false => exact absurd ((fb_bit_nat n k).mpr hb) h
  · intro h q
    have := (fb_bit_nat n k).mp q
    rw [h] at this
    cases this
theorem and_pow_lt (n : Nat) {k : Nat} (hk : k < 31) : n &&& 2 ^ k < 2 ^ 31 := Nat.lt_of_le_of_lt Nat.and_le_right (Nat.pow_lt_pow_right (by omega) hk)
theorem or_pow_lt {n k m : Nat} (hn : n < 2 ^ m) (hk : k < m) : n ||| 2 ^ k < 2 ^ m := Nat.or_lt_two_pow hn (Nat.pow_lt_pow_right (by omega) hk)
theorem pm_has {n1 n2 : Nat} {pt : Nat → Nat} {L : List (Nat × Nat)} (h : pmC n1 n2 pt L) {a : Nat} (ha : 97 ≤ a ∧ a ≤ 122) (hb : n1 &&& 2 ^ (a - 97) ≠ 0) : ∃ q ∈ L, q.1 = a ∧ pt (a - 97) = q.2 := by
  obtain ⟨q, hq, e⟩ := (h.2.2.1 (a - 97) (by omega)).mp (and_pow_ne.mp hb)
  have e2 : q.1 = a := by omega
  exact ⟨q, hq, e2, by rw [← (h.2.2.2.2.1 q hq).2.2, e2]⟩
theorem pm_hasnt {n1 n2 : Nat} {pt : Nat → Nat} {L : List (Nat × Nat)} (h : pmC n1 n2 pt L) {a : Nat} (ha : 97 ≤ a ∧ a ≤ 122) (hb : n1 &&& 2 ^ (a - 97) = 0) : ∀ q ∈ L, q.1 ≠ a := by
  intro q hq e
  have := (h.2.2.1 (a - 97) (by omega)).mpr ⟨q, hq, by omega⟩
  exact and_pow_ne.mpr this hb
theorem pm_hasO {n1 n2 : Nat} {pt : Nat → Nat} {L : List (Nat × Nat)} (h : pmC n1 n2 pt L) {a : Nat} (ha : 97 ≤ a ∧ a ≤ 122) (hb : n2 &&& 2 ^ (a - 97) ≠ 0) : ∃ q ∈ L, q.2 = a := by
  obtain ⟨q, hq, e⟩ := (h.2.2.2.1 (a - 97) (by omega)).mp (and_pow_ne.mp hb)
  exact ⟨q, hq, by omega⟩
theorem pm_hasntO {n1 n2 : Nat} {pt : Nat → Nat} {L : List (Nat × Nat)} (h : pmC n1 n2 pt L) {a : Nat} (ha : 97 ≤ a ∧ a ≤ 122) (hb : n2 &&& 2 ^ (a - 97) = 0) : ∀ q ∈ L, q.2 ≠ a := by
  intro q hq e
  have := (h.2.2.2.1 (a - 97) (by omega)).mpr ⟨q, hq, by omega⟩
  exact and_pow_ne.mpr this hb
/-- join of a name that has its partner -/
theorem pm_old {n1 n2 : Nat} {pt : Nat → Nat} {L : List (Nat × Nat)} (h : pmC n1 n2 pt L) {a b : Nat} (ha : 97 ≤ a ∧ a ≤ 122) (hb : 97 ≤ b ∧ b ≤ 122) (h1 : n1 &&& 2 ^ (a - 97) ≠ 0) : (pt (a - 97) = b → jnB L a b = true ∧ pmC n1 n2 pt ((a, b) :: L)) ∧ (pt (a - 97) ≠ b → jnB L a b = false) := by
  obtain ⟨q, hq, e1, e2⟩ := pm_has h ha h1
  have hc := h.2.2.2.2.2.1
  have na : nmB a = true := nmB_iff.mpr ha
  have nb : nmB b = true := nmB_iff.mpr hb
  refine ⟨fun e => ?_, fun e => ?_⟩
  · have hqe : q = (a, b) := by
      obtain ⟨q1, q2⟩ := q
      simp only at e1 e2
      rw [e1, ← e2, e]
    have hin : (a, b) ∈ L := hqe ▸ hq
    refine ⟨?_, ?_⟩
    · unfold jnB
      rw [na, nb, Bool.and_self, Bool.true_and]
      exact okp_iff.mpr (fun r hr => hc r hr (a, b) hin)
    · have hmem : ∀ r, r ∈ (a, b) :: L ↔ r ∈ L := fun r => ⟨fun m => (List.mem_cons.mp m).elim (fun m => m ▸ hin) id, List.mem_cons_of_mem _⟩
      refine ⟨h.1, h.2.1, fun c hcc => ?_, fun c hcc => ?_, fun r hr => h.2.2.2.2.1 r ((hmem r).mp hr), fun r hr t ht => hc r ((hmem r).mp hr) t ((hmem t).mp ht), h.2.2.2.2.2.2⟩
      · rw [h.2.2.1 c hcc]
        exact ⟨fun ⟨r, hr, er⟩ => ⟨r, (hmem r).mpr hr, er⟩, fun ⟨r, hr, er⟩ => ⟨r, (hmem r).mp hr, er⟩⟩
      · rw [h.2.2.2.1 c hcc]
        exact ⟨fun ⟨r, hr, er⟩ => ⟨r, (hmem r).mpr hr, er⟩, fun ⟨r, hr, er⟩ => ⟨r, (hmem r).mp hr, er⟩⟩
  · unfold jnB
    cases hk : okp L a b with
    | false => rw [Bool.and_false]
    | true => exact absurd (((okp_iff.mp hk) q hq).mp e1 ▸ e2) e
/-- join of a name that has none, beside one that has one -/
theorem pm_clash {n1 n2 : Nat} {pt : Nat → Nat} {L : List (Nat × Nat)} (h : pmC n1 n2 pt L) {a b : Nat} (ha : 97 ≤ a ∧ a ≤ 122) (hb : 97 ≤ b ∧ b ≤ 122) (h1 : n1 &&& 2 ^ (a - 97) = 0) (h2 : n2 &&& 2 ^ (b - 97) ≠ 0) : jnB L a b = false := by
  obtain ⟨q, hq, e⟩ := pm_hasO h hb h2
  unfold jnB
  cases hk : okp L a b with
  | false => rw [Bool.and_false]
  | true => exact absurd (((okp_iff.mp hk) q hq).mpr e) (pm_hasnt h ha h1 q hq)
theorem upN_ne {z : Nat → Nat} {k x j : Nat} (h : j ≠ k) : upN z k x j = z j := if_neg h
/-- join of two that have none -/
theorem pm_new {n1 n2 : Nat} {pt : Nat → Nat} {L : List (Nat × Nat)} (h : pmC n1 n2 pt L) {a b : Nat} (ha : 97 ≤ a ∧ a ≤ 122) (hb : 97 ≤ b ∧ b ≤ 122) (h1 : n1 &&& 2 ^ (a - 97) = 0) (h2 : n2 &&& 2 ^ (b - 97) = 0) : jnB L a b = true ∧ pmC (n1 ||| 2 ^ (a - 97)) (n2 ||| 2 ^ (b - 97)) (upN pt (a - 97) b) ((a, b) :: L) := by
  have k1 := pm_hasnt h ha h1
  have k2 := pm_hasntO h hb h2
  have hc := h.2.2.2.2.2.1
  refine ⟨?_, or_pow_lt h.1 (by omega), or_pow_lt h.2.1 (by omega), fun c hcc => ?_, fun c hcc => ?_, fun r hr => ?_, fun r hr t ht => ?_, upN_le h.2.2.2.2.2.2 (by omega)⟩
  · unfold jnB
    rw [nmB_iff.mpr ha, nmB_iff.mpr hb, Bool.and_self, Bool.true_and]
    exact okp_iff.mpr (fun r hr => ⟨fun e => absurd e (k1 r hr), fun e => absurd e (k2 r hr)⟩)
  · rw [fb_bit_set, Bool.or_eq_true, h.2.2.1 c hcc, decide_eq_true_iff]
    constructor
    · rintro (⟨r, hr, er⟩ | e)
      · exact ⟨r, List.mem_cons_of_mem _ hr, er⟩
      · exact ⟨(a, b), List.mem_cons_self, show a = c + 97 by omega⟩
    · rintro ⟨r, hr, er⟩
      rcases List.mem_cons.mp hr with m | m
      · subst m
        exact Or.inr (show c = a - 97 by simp only at er; omega)
      · exact Or.inl ⟨r, m, er⟩
  · rw [fb_bit_set, Bool.or_eq_true, h.2.2.2.1 c hcc, decide_eq_true_iff]
    constructor
    · rintro (⟨r, hr, er⟩ | e)
      · exact ⟨r, List.mem_cons_of_mem _ hr, er⟩
      · exact ⟨(a, b), List.mem_cons_self, show b = c + 97 by omega⟩
    · rintro ⟨r, hr, er⟩
      rcases List.mem_cons.mp hr with m | m
      · subst m
        exact Or.inr (show c = b - 97 by simp only at er; omega)
      · exact Or.inl ⟨r, m, er⟩
  · rcases List.mem_cons.mp hr with m | m
    · subst m
      exact ⟨ha, hb, upN_s _ _ _⟩
    · obtain ⟨e1, e2, e3⟩ := h.2.2.2.2.1 r m
      have := k1 r m
      exact ⟨e1, e2, by rw [upN_ne (by omega)]; exact e3⟩
  · rcases List.mem_cons.mp hr with m | m <;> rcases List.mem_cons.mp ht with m2 | m2
    · subst m; subst m2; exact ⟨fun _ => rfl, fun _ => rfl⟩
    · subst m; exact ⟨fun e => absurd e.symm (k1 t m2), fun e => absurd e.symm (k2 t m2)⟩
    · subst m2; exact ⟨fun e => absurd e (k1 r m), fun e => absurd e (k2 r m)⟩
    · exact hc r m t m2
theorem jnL_t {L : List (Nat × Nat)} {a b : Nat} (h : jnB L a b = true) : jnL L a b = (a, b) :: L := if_pos h
theorem jnL_f {L : List (Nat × Nat)} {a b : Nat} (h : jnB L a b = false) : jnL L a b = L := if_neg (by rw [h]; decide)
theorem jnB_nm {L : List (Nat × Nat)} {a b : Nat} (h : nmB a = false) : jnB L a b = false := by unfold jnB; rw [h]; rfl
theorem jnB_nm2 {L : List (Nat × Nat)} {a b : Nat} (h : nmB b = false) : jnB L a b = false := by unfold jnB; rw [h, Bool.and_false]; rfl
/-- has a name a partner; what it is renamed to; the first name that fits -/
def hpB (L : List (Nat × Nat)) (a : Nat) : Bool := nmB a && L.any (fun q => decide (q.1 = a))
def rnN (L : List (Nat × Nat)) (a : Nat) : Nat := match L.find? (fun q => decide (q.1 = a)) with
  | some q => q.2
  | none => a
theorem hpB_iff {L : List (Nat × Nat)} {a : Nat} : hpB L a = true ↔ nmB a = true ∧ ∃ q ∈ L, q.1 = a := by
  unfold hpB
  rw [Bool.and_eq_true, List.any_eq_true]
  exact ⟨fun ⟨h, q, hq, e⟩ => ⟨h, q, hq, of_decide_eq_true e⟩, fun ⟨h, q, hq, e⟩ => ⟨h, q, hq, decide_eq_true e⟩⟩
theorem hpB_f {L : List (Nat × Nat)} {a : Nat} (h : ¬ (nmB a = true ∧ ∃ q ∈ L, q.1 = a)) : hpB L a = false := by
  cases hk : hpB L a with
  | false => rfl
  | true => exact absurd (hpB_iff.mp hk) h
theorem rnN_in {L : List (Nat × Nat)} {q : Nat × Nat} (hc : pcons L) (h : q ∈ L) : rnN L q.1 = q.2 := by
  unfold rnN
  cases hf : L.find? (fun r => decide (r.1 = q.1)) with
  | none => exact absurd (decide_eq_true (rfl : q.1 = q.1)) (by have := List.find?_eq_none.mp hf q h; exact this)
  | some r =>
    have h1 := List.find?_some hf
    have h2 := List.mem_of_find?_eq_some hf
    exact (hc r h2 q h).mp (of_decide_eq_true h1)
theorem rnN_out {L : List (Nat × Nat)} {a : Nat} (h : ∀ q ∈ L, q.1 ≠ a) : rnN L a = a := by
  unfold rnN
  rw [List.find?_eq_none.mpr (fun q hq => by rw [decide_eq_true_iff]; exact h q hq)]
/-- the first name that fits beside a name: its partner, or the first that nobody has; 0: none -/
def ffL (L : List (Nat × Nat)) : Nat → Nat → Nat
  | _, 0 => 0
  | c, k + 1 => if L.any (fun q => decide (q.2 = c + 97)) then ffL L (c + 1) k else c + 97
def ffN (L : List (Nat × Nat)) (a : Nat) : Nat := if hpB L a then rnN L a else ffL L 0 26
theorem rnN_o {n1 n2 : Nat} {pt : Nat → Nat} {L : List (Nat × Nat)} {a : Nat} (h : pmC n1 n2 pt L) (hp : hpB L a = false) : rnN L a = a := by
  refine rnN_out (fun q hq e => ?_)
  have h2 := (h.2.2.2.2.1 q hq).1
  rw [e] at h2
  have : hpB L a = true := hpB_iff.mpr ⟨nmB_iff.mpr h2, q, hq, e⟩
  rw [hp] at this
  cases this
theorem ffL_at {L : List (Nat × Nat)} {k : Nat} (hn : ∀ q ∈ L, q.2 ≠ k + 97) : ∀ (d c : Nat), c + d = k → (∀ j, c ≤ j → j < k → ∃ q ∈ L, q.2 = j + 97) → ∀ f, d < f → ffL L c f = k + 97
  | 0, c, e, _, f + 1, _ => by
    have e2 : c = k := by omega
    subst e2
    show (if _ then _ else _) = _
    rw [if_neg]
    rw [List.any_eq_true]
    rintro ⟨q, hq, h⟩
    exact hn q hq (of_decide_eq_true h)
  | d + 1, c, e, h, f + 1, hf => by
    show (if _ then _ else _) = _
    rw [if_pos]
    · exact ffL_at hn d (c + 1) (by omega) (fun j h1 h2 => h j (by omega) h2) f (by omega)
    · rw [List.any_eq_true]
      obtain ⟨q, hq, e⟩ := h c (Nat.le_refl c) (by omega)
      exact ⟨q, hq, decide_eq_true e⟩
  | _, _, _, _, 0, hf => absurd hf (Nat.not_lt_zero _)
theorem ffN_at {L : List (Nat × Nat)} {a k : Nat} (h0 : hpB L a = false) (hk : k < 26) (h : ∀ j, j < k → ∃ q ∈ L, q.2 = j + 97) (hn : ∀ q ∈ L, q.2 ≠ k + 97) : ffN L a = 97 + k := by
  unfold ffN
  rw [if_neg (by rw [h0]; decide), ffL_at hn k 0 (by omega) (fun j _ hj => h j hj) 26 hk]
  omega
theorem ffL_no {L : List (Nat × Nat)} : ∀ (f c : Nat), (∀ j, c ≤ j → j < c + f → ∃ q ∈ L, q.2 = j + 97) → ffL L c f = 0
  | 0, _, _ => rfl
  | f + 1, c, h => by
    show (if _ then _ else _) = _
    rw [if_pos]
    · exact ffL_no f (c + 1) (fun j h1 h2 => h j (by omega) (by omega))
    · rw [List.any_eq_true]
      obtain ⟨q, hq, e⟩ := h c (Nat.le_refl c) (by omega)
      exact ⟨q, hq, decide_eq_true e⟩
theorem ffN_no {L : List (Nat × Nat)} {a : Nat} (h0 : hpB L a = false) (h : ∀ j, j < 26 → ∃ q ∈ L, q.2 = j + 97) : ffN L a = 0 := by
  unfold ffN
  rw [if_neg (by rw [h0]; decide), ffL_no 26 0 (fun j _ hj => h j (by omega))]
