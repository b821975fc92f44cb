/-! the model's rows and the class's rows are one -/
theorem lnX_cong {way : Nat} {fa fb fa2 fb2 : Nat → Nat} {sk sk2 : Nat → Bool} {L : List (Nat × Nat)} : ∀ {n : Nat}, (∀ p, p < n → fa p = fa2 p ∧ fb p = fb2 p ∧ sk p = sk2 p) → lnX way fa fb sk L n = lnX way fa2 fb2 sk2 L n
  | 0, _ => rfl
  | n + 1, h => by
    have ih := lnX_cong (way := way) (L := L) (n := n) (fun p hp => h p (by omega))
    obtain ⟨h1, h2, h3⟩ := h n (by omega)
    show (if _ then _ else _) = (if _ then _ else _)
    rw [ih, h1, h2, h3]
theorem nI_nm6 {k : Nat} (h : k < 1000) : ¬ nI k = (-6) := by
  intro q
  have := congrArg Int32.toInt q
  rw [nI_toInt (by omega)] at this
  have e : (-6 : Int32).toInt = -6 := by decide
  omega
theorem nI_nm1 {k : Nat} (h : k < 1000) : ¬ nI k = (-1) := by
  intro q
  have := congrArg Int32.toInt q
  rw [nI_toInt (by omega)] at this
  have e : (-1 : Int32).toInt = -1 := by decide
  omega
theorem rwM_X {way : Nat} {z g : Nat → Nat} (hz : ∀ j, z j ≤ 8) {v one other op os : Nat} : ∀ {n : Nat}, n ≤ 30 → rwM way z g v one other (-6) op os n = rwX way z g v one other skn n
  | 0, _ => rfl
  | n + 1, h => by
    have ih := rwM_X (way := way) (g := g) hz (v := v) (one := one) (other := other) (op := op) (os := os) (n := n) (by omega)
    have h8 := hz (v * 20 + (one + n))
    show (if _ then (if _ then _ else _) else _) = (if _ then lfX _ _ _ _ _ _ _ else _)
    rw [ih]
    by_cases q : (rwX way z g v one other skn n).1 = true
    · rw [if_pos q, if_pos q]
      unfold lfX
      by_cases e : z (v * 20 + (one + n)) = z (v * 20 + (other + n))
      · rw [if_pos e, if_pos e.symm]
        exact lnX_cong (fun p hp => ⟨rfl, if_neg (fun k => nI_nm6 (by omega) k.1), (decide_eq_false (nI_nm1 (by omega))).symm⟩)
      · rw [if_neg e, if_neg (fun k => e k.symm)]
    · rw [if_neg q, if_neg q]
theorem rmB_X {way : Nat} {z g : Nat → Nat} (hz : ∀ j, z j ≤ 8) {v nl one other n op os : Nat} (hn : n ≤ 30) : rmB way z g v nl one other n (-6) op os = raB way z g v nl one other n := by
  unfold rmB raB
  rw [rwM_X hz hn]
  congr 1
  by_cases h : max one other + n ≤ nl
  · rw [decide_eq_true h, decide_eq_true (show one + n ≤ nl by omega), decide_eq_true (show other + n ≤ nl by omega)]; rfl
  · rw [decide_eq_false h]
    by_cases h1 : one + n ≤ nl
    · rw [decide_eq_false (show ¬ other + n ≤ nl by omega), Bool.and_false]
    · rw [decide_eq_false h1]; rfl
/-- a row is alike to itself -/
def dgL (L : List (Nat × Nat)) : Prop := ∀ q ∈ L, q.1 = q.2
theorem stX_self {way a : Nat} {L : List (Nat × Nat)} (h : dgL L) : (stX way L a a).1 = true ∧ dgL (stX way L a a).2 := by
  by_cases q : way ≠ 0 ∧ nmB a = true
  · have k : okp L a a = true := okp_iff.mpr (fun r hr => by rw [h r hr])
    have k2 : jnB L a a = true := by unfold jnB; rw [q.2, k]; rfl
    rw [stX_1 q.1 q.2, jnL_t k2]
    refine ⟨k2, fun r hr => ?_⟩
    rcases List.mem_cons.mp hr with m | m
    · subst m; rfl
    · exact h r m
  · have hw : way = 0 ∨ nmB a = false := by
      by_cases w : way = 0
      · exact Or.inl w
      · cases e : nmB a with
        | false => exact Or.inr rfl
        | true => exact absurd ⟨w, e⟩ q
    rw [stX_eq rfl hw]
    exact ⟨rfl, h⟩
theorem lnX_self {way : Nat} {fa : Nat → Nat} {sk : Nat → Bool} {L : List (Nat × Nat)} (h : dgL L) : ∀ n, (lnX way fa fa sk L n).1 = true ∧ dgL (lnX way fa fa sk L n).2
  | 0 => ⟨rfl, h⟩
  | n + 1 => by
    have ih := lnX_self (way := way) (fa := fa) (sk := sk) h n
    by_cases q : sk n = true
    · rw [lnX_k q]; exact ih
    · rw [lnX_s ih.1 (by cases e : sk n; rfl; exact absurd e q)]
      exact stX_self ih.2
theorem rwX_self {way : Nat} {z g : Nat → Nat} {v one : Nat} {sk : Nat → Nat → Bool} : ∀ n, (rwX way z g v one one sk n).1 = true ∧ dgL (rwX way z g v one one sk n).2
  | 0 => ⟨rfl, fun q h => absurd h List.not_mem_nil⟩
  | n + 1 => by
    have ih := rwX_self (way := way) (z := z) (g := g) (v := v) (one := one) (sk := sk) n
    rw [rwX_s ih.1]
    unfold lfX
    rw [if_pos rfl]
    exact lnX_self ih.2 _
theorem raB_self {way : Nat} {z g : Nat → Nat} {v nl s n : Nat} (h : s + n ≤ nl) : raB way z g v nl s s n = true := by
  unfold raB
  rw [decide_eq_true (show max s s + n ≤ nl by omega), (rwX_self n).1]
  rfl
/-- and if two are alike, they are the other way round -/
def swL (L : List (Nat × Nat)) : List (Nat × Nat) := L.map (fun q => (q.2, q.1))
theorem okp_sw {L : List (Nat × Nat)} {a b : Nat} : okp (swL L) b a = okp L a b := by
  unfold okp swL
  rw [List.all_map]
  congr 1
  funext q
  show decide (q.2 = b ↔ q.1 = a) = decide (q.1 = a ↔ q.2 = b)
  congr 1
  exact propext ⟨Iff.symm, Iff.symm⟩
theorem jnB_sw {L : List (Nat × Nat)} {a b : Nat} : jnB (swL L) b a = jnB L a b := by
  unfold jnB
  rw [okp_sw, Bool.and_comm (nmB b) (nmB a)]
theorem jnL_sw {L : List (Nat × Nat)} {a b : Nat} : jnL (swL L) b a = swL (jnL L a b) := by
  unfold jnL
  rw [jnB_sw]
  split
  · rfl
  · rfl
theorem stX_sw {way : Nat} {L : List (Nat × Nat)} {a b : Nat} : (stX way (swL L) b a).1 = (stX way L a b).1 ∧ ((stX way L a b).1 = true → (stX way (swL L) b a).2 = swL (stX way L a b).2) := by
  cases ha : nmB a <;> cases hb : nmB b
  · -- neither is a name
    have e1 : ∀ M x y, nmB x = false → stX way M x y = if way = 2 ∧ nuB x = true then (nuB y, M) else (decide (x = y), M) := fun M x y h => by unfold stX; rw [if_neg (fun q => by rw [h] at q; cases q.2)]
    rw [e1 _ b a hb, e1 _ a b ha]
    by_cases w : way = 2
    · cases na : nuB a <;> cases nb : nuB b
      · rw [if_neg (fun q => by cases q.2), if_neg (fun q => by cases q.2)]
        exact ⟨by show decide (b = a) = decide (a = b); congr 1; exact propext ⟨Eq.symm, Eq.symm⟩, fun _ => rfl⟩
      · rw [if_pos ⟨w, rfl⟩, if_neg (fun q => by cases q.2)]
        have : a ≠ b := fun e => by rw [e, nb] at na; cases na
        exact ⟨by show false = decide (a = b); rw [decide_eq_false this], fun h => rfl⟩
      · rw [if_neg (fun q => by cases q.2), if_pos ⟨w, rfl⟩]
        have : b ≠ a := fun e => by rw [e, na] at nb; cases nb
        exact ⟨by show decide (b = a) = false; rw [decide_eq_false this], fun h => by cases h⟩
      · rw [if_pos ⟨w, rfl⟩, if_pos ⟨w, rfl⟩]
        exact ⟨rfl, fun _ => rfl⟩
    · rw [if_neg (fun q => w q.1), if_neg (fun q => w q.1)]
      exact ⟨by show decide (b = a) = decide (a = b); congr 1; exact propext ⟨Eq.symm, Eq.symm⟩, fun _ => rfl⟩
  · -- the second alone
    have hne : a ≠ b := fun e => by rw [e, hb] at ha; cases ha
    have nub : nuB b = false := by
      cases q : nuB b with
      | false => rfl
      | true => rw [nu_nm q] at hb; cases hb
    by_cases w : way = 0
    · rw [stX_0 (Or.inl w) (Or.inl (by omega)), stX_0 (Or.inl w) (Or.inl (by omega))]
      exact ⟨by show decide (b = a) = decide (a = b); congr 1; exact propext ⟨Eq.symm, Eq.symm⟩, fun _ => rfl⟩
    · have e1 : (stX way L a b).1 = false := stX_no (Or.inl hne) (Or.inr (Or.inl ha)) (Or.inr (Or.inr nub))
      rw [e1, stX_1 w hb]
      exact ⟨jnB_nm2 ha, fun h => by cases h⟩
  · -- the first alone
    have hne : b ≠ a := fun e => by rw [e, ha] at hb; cases hb
    have nua : nuB a = false := by
      cases q : nuB a with
      | false => rfl
      | true => rw [nu_nm q] at ha; cases ha
    by_cases w : way = 0
    · rw [stX_0 (Or.inl w) (Or.inl (by omega)), stX_0 (Or.inl w) (Or.inl (by omega))]
      exact ⟨by show decide (b = a) = decide (a = b); congr 1; exact propext ⟨Eq.symm, Eq.symm⟩, fun _ => rfl⟩
    · have e1 : (stX way (swL L) b a).1 = false := stX_no (Or.inl hne) (Or.inr (Or.inl hb)) (Or.inr (Or.inr nua))
      rw [e1, stX_1 w ha]
      exact ⟨(jnB_nm2 hb).symm, fun h => by rw [jnB_nm2 hb] at h; cases h⟩
  · by_cases w : way = 0
    · rw [stX_0 (Or.inl w) (Or.inl (by omega)), stX_0 (Or.inl w) (Or.inl (by omega))]
      exact ⟨by show decide (b = a) = decide (a = b); congr 1; exact propext ⟨Eq.symm, Eq.symm⟩, fun _ => rfl⟩
    · rw [stX_1 w hb, stX_1 w ha]
      exact ⟨jnB_sw, fun _ => jnL_sw⟩
theorem lnX_sw {way : Nat} {fa fb : Nat → Nat} {sk : Nat → Bool} {L : List (Nat × Nat)} : ∀ n, (lnX way fb fa sk (swL L) n).1 = (lnX way fa fb sk L n).1 ∧ ((lnX way fa fb sk L n).1 = true → (lnX way fb fa sk (swL L) n).2 = swL (lnX way fa fb sk L n).2)
  | 0 => ⟨rfl, fun _ => rfl⟩
  | n + 1 => by
    have ih := lnX_sw (way := way) (fa := fa) (fb := fb) (sk := sk) (L := L) n
    cases q : sk n with
    | true => rw [lnX_k q, lnX_k q]; exact ih
    | false =>
      cases h : (lnX way fa fb sk L n).1 with
      | true =>
        rw [lnX_s h q, lnX_s (ih.1.trans h) q, ih.2 h]
        exact stX_sw
      | false =>
        rw [lnX_stop h 1, lnX_stop (ih.1.trans h) 1]
        exact ih
theorem rwX_sw {way : Nat} {z g : Nat → Nat} {v one other : Nat} {sk : Nat → Nat → Bool} : ∀ n, (rwX way z g v other one sk n).1 = (rwX way z g v one other sk n).1 ∧ ((rwX way z g v one other sk n).1 = true → (rwX way z g v other one sk n).2 = swL (rwX way z g v one other sk n).2)
  | 0 => ⟨rfl, fun _ => rfl⟩
  | n + 1 => by
    have ih := rwX_sw (way := way) (z := z) (g := g) (v := v) (one := one) (other := other) (sk := sk) n
    cases h : (rwX way z g v one other sk n).1 with
    | true =>
      rw [rwX_s h, rwX_s (ih.1.trans h), ih.2 h]
      unfold lfX
      by_cases e : z (v * 20 + (other + n)) = z (v * 20 + (one + n))
      · rw [if_pos e, if_pos e.symm, e]
        exact lnX_sw _
      · rw [if_neg e, if_neg (fun k => e k.symm)]
        exact ⟨rfl, fun h => by cases h⟩
    | false =>
      rw [rwX_stop h 1, rwX_stop (ih.1.trans h) 1]
      exact ih
theorem raB_sw {way : Nat} {z g : Nat → Nat} {v nl one other n : Nat} : raB way z g v nl other one n = raB way z g v nl one other n := by
  unfold raB
  rw [(rwX_sw n).1, Nat.max_comm]
/-- the table of reaches tells just which rows are alike -/
theorem rT_raB {way : Nat} {z g : Nat → Nat} {v nl i j n : Nat} (hi : i < nl) (hj : j < nl) (hn : 1 ≤ n) : decide (n ≤ rT way z g v nl i j) = raB way z g v nl i j n := by
  have key : ∀ a b, a < b → b < nl → decide (n ≤ rlN way z g v a b (nl - b)) = raB way z g v nl a b n := by
    intro a b hab hb
    unfold raB rlN
    by_cases h : n ≤ nl - b
    · rw [decide_eq_true (show max a b + n ≤ nl by omega), Bool.true_and]
      have := raN_ge (p := fun k => (rwX way z g v a b skn k).1) (fun j k hjk hk => rwX_pre hjk hk) hn h
      cases q : (rwX way z g v a b skn n).1 with
      | true => exact decide_eq_true (this.mpr q)
      | false => exact decide_eq_false (fun k => by have := this.mp k; simp only [q] at this; cases this)
    · rw [decide_eq_false (show ¬ max a b + n ≤ nl by omega), Bool.false_and]
      have := raN_le (fun k => (rwX way z g v a b skn k).1) (nl - b)
      exact decide_eq_false (by omega)
  unfold rT
  by_cases e : i = j
  · subst e
    rw [if_pos rfl]
    by_cases h : i + n ≤ nl
    · rw [raB_self h]; exact decide_eq_true (by omega)
    · unfold raB
      rw [decide_eq_false (show ¬ max i i + n ≤ nl by omega), Bool.false_and]
      exact decide_eq_false (by omega)
  · rw [if_neg e]
    by_cases h : i < j
    · rw [if_pos h]; exact key i j h hj
    · rw [if_neg h, key j i (by omega) hi, raB_sw]
theorem sl_M {way : Nat} {z g : Nat → Nat} (hz : ∀ j, z j ≤ 8) {v nl s n op os : Nat} (hnl : nl ≤ 20) (hn : 1 ≤ n) (hn2 : n ≤ 30) : mkN (fun k => rmB way z g v nl s k n (-6) op os) (nl + 1 - n) = slN (rcC way z g v nl) nl s n := by
  apply Nat.eq_of_testBit_eq
  intro t
  unfold slN
  rw [mkN_bit, mkN_bit]
  by_cases ht : t < nl
  · rw [decide_eq_true ht, Bool.true_and, rmB_X hz hn2]
    by_cases hs : s < nl
    · have e : rcN (rcC way z g v nl) nl s t = rT way z g v nl s t := by unfold rcN; rw [if_pos ⟨hs, ht⟩, rcC_ok hnl s t hs ht]
      rw [e, rT_raB hs ht hn]
      by_cases q : t < nl + 1 - n
      · rw [decide_eq_true q, Bool.true_and]
      · rw [decide_eq_false q, Bool.false_and]
        unfold raB
        rw [decide_eq_false (by omega), Bool.false_and]
    · have e : rcN (rcC way z g v nl) nl s t = 0 := by unfold rcN; rw [if_neg (fun q => hs q.1)]
      rw [e, decide_eq_false (show ¬ n ≤ 0 by omega)]
      unfold raB
      rw [decide_eq_false (show ¬ max s t + n ≤ nl by omega), Bool.false_and, Bool.and_false]
  · rw [decide_eq_false ht, Bool.false_and, decide_eq_false (by omega), Bool.false_and]
