/-- starts taken one after the other: which, where the next may begin, their lines, how many -/
def tkF (gr n : Nat) : Nat → Nat × Nat × Nat × Nat
  | 0 => (0, 0, 0, 0)
  | k + 1 => if gr.testBit k = true ∧ (tkF gr n k).2.1 ≤ k then ((tkF gr n k).1 ||| 2 ^ k, k + n, (tkF gr n k).2.2.1 ||| (2 ^ n - 1) * 2 ^ k, (tkF gr n k).2.2.2 + 1) else tkF gr n k
theorem tkF_t {gr n k : Nat} (h : gr.testBit k = true) (h2 : (tkF gr n k).2.1 ≤ k) : tkF gr n (k + 1) = ((tkF gr n k).1 ||| 2 ^ k, k + n, (tkF gr n k).2.2.1 ||| (2 ^ n - 1) * 2 ^ k, (tkF gr n k).2.2.2 + 1) := if_pos ⟨h, h2⟩
theorem tkF_f {gr n k : Nat} (h : ¬ (gr.testBit k = true ∧ (tkF gr n k).2.1 ≤ k)) : tkF gr n (k + 1) = tkF gr n k := if_neg h
theorem row_bit {n k b : Nat} : ((2 ^ n - 1) * 2 ^ k).testBit b = decide (k ≤ b ∧ b < k + n) := by
  rw [Nat.mul_comm, Nat.testBit_two_pow_mul]
  by_cases h : k ≤ b
  · rw [decide_eq_true h, Bool.true_and, Nat.testBit_two_pow_sub_one]
    by_cases h2 : b - k < n
    · rw [decide_eq_true h2, decide_eq_true (by omega)]
    · rw [decide_eq_false h2, decide_eq_false (by omega)]
  · rw [decide_eq_false h, Bool.false_and, decide_eq_false (by omega)]
theorem row_lt {n k m : Nat} (h : k + n ≤ m) : (2 ^ n - 1) * 2 ^ k < 2 ^ m := by
  refine Nat.lt_of_lt_of_le (m := 2 ^ (k + n)) ?_ (Nat.pow_le_pow_right (by omega) h)
  rw [Nat.pow_add, Nat.mul_comm]
  have h1 : 0 < 2 ^ n := Nat.two_pow_pos n
  have h2 : 0 < 2 ^ k := Nat.two_pow_pos k
  exact Nat.mul_lt_mul_of_pos_left (by omega) h2
/-- what always holds of them -/
def tkI (gr n k : Nat) : Prop :=
  (∀ b, (tkF gr n k).2.1 ≤ b → (tkF gr n k).2.2.1.testBit b = false) ∧ ((tkF gr n k).2.1 = 0 ∨ ∃ t, t < k ∧ (tkF gr n k).2.1 = t + n ∧ ∀ b, t ≤ b → b < t + n → (tkF gr n k).2.2.1.testBit b = true) ∧
  (tkF gr n k).2.2.2 ≤ k ∧ (tkF gr n k).1 < 2 ^ k ∧ (tkF gr n k).2.2.1 < 2 ^ 20
theorem tkI_ok {gr n : Nat} (hg : ∀ t, gr.testBit t = true → t + n ≤ 20) : ∀ k, tkI gr n k
  | 0 => ⟨fun b _ => Nat.zero_testBit b, Or.inl rfl, Nat.le_refl 0, Nat.one_pos, (show (0 : Nat) < 2 ^ 20 by decide)⟩
  | k + 1 => by
    have ih := tkI_ok hg k
    unfold tkI at *
    by_cases h : gr.testBit k = true ∧ (tkF gr n k).2.1 ≤ k
    · rw [tkF_t h.1 h.2]
      refine ⟨fun b hb => ?_, Or.inr ⟨k, Nat.lt_succ_self k, rfl, fun b h1 h2 => ?_⟩, Nat.succ_le_succ ih.2.2.1, Nat.or_lt_two_pow (Nat.lt_trans ih.2.2.2.1 (Nat.pow_lt_pow_right (by omega) (by omega))) (Nat.pow_lt_pow_right (by omega) (by omega)), Nat.or_lt_two_pow ih.2.2.2.2 (row_lt (hg k h.1))⟩
      · simp only at hb ⊢
        rw [Nat.testBit_or, ih.1 b (by omega), row_bit, decide_eq_false (by omega)]
        rfl
      · simp only
        rw [Nat.testBit_or, row_bit, decide_eq_true ⟨h1, h2⟩, Bool.or_true]
    · rw [tkF_f h]
      refine ⟨ih.1, ?_, by omega, Nat.lt_trans ih.2.2.2.1 (Nat.pow_lt_pow_right (by omega) (by omega)), ih.2.2.2.2⟩
      rcases ih.2.1 with q | ⟨t, q1, q2, q3⟩
      · exact Or.inl q
      · exact Or.inr ⟨t, by omega, q2, q3⟩
theorem tk_cond {gr n k : Nat} (h : tkI gr n k) (hn : 1 ≤ n) : (tkF gr n k).2.2.1 &&& (2 ^ n - 1) * 2 ^ k = 0 ↔ (tkF gr n k).2.1 ≤ k := by
  constructor
  · intro e
    rcases h.2.1 with q | ⟨t, q1, q2, q3⟩
    · omega
    · apply Nat.not_lt.mp
      intro hk
      have h1 := q3 k (by omega) (by omega)
      have h2 : ((tkF gr n k).2.2.1 &&& (2 ^ n - 1) * 2 ^ k).testBit k = true := by rw [Nat.testBit_and, h1, row_bit, decide_eq_true (by omega)]; rfl
      rw [e, Nat.zero_testBit] at h2
      cases h2
  · intro hk
    apply Nat.eq_of_testBit_eq
    intro b
    rw [Nat.testBit_and, row_bit, Nat.zero_testBit]
    by_cases hb : k ≤ b ∧ b < k + n
    · rw [h.1 b (by omega)]; rfl
    · rw [decide_eq_false hb, Bool.and_false]
/-- the list of starts: those that are taken, in order -/
def stOK (st : Nat → Nat) (tk ct k : Nat) : Prop := (∀ j, j < ct → tk.testBit (st j) = true ∧ st j < k) ∧ (∀ t, tk.testBit t = true → ∃ j, j < ct ∧ st j = t) ∧ ∀ i j, i < j → j < ct → st i < st j
theorem stOK_0 (st : Nat → Nat) : stOK st 0 0 0 := ⟨fun j h => absurd h (Nat.not_lt_zero j), fun t h => absurd h (by rw [Nat.zero_testBit]; decide), fun i j _ h => absurd h (Nat.not_lt_zero j)⟩
theorem stOK_s {st : Nat → Nat} {tk ct k : Nat} (h : stOK st tk ct k) : stOK st tk ct (k + 1) := ⟨fun j hj => ⟨(h.1 j hj).1, by have := (h.1 j hj).2; omega⟩, h.2.1, h.2.2⟩
theorem stOK_n {st : Nat → Nat} {tk ct k : Nat} (h : stOK st tk ct k) : stOK (upN st ct k) (tk ||| 2 ^ k) (ct + 1) (k + 1) := by
  refine ⟨fun j hj => ?_, fun t ht => ?_, fun i j hij hj => ?_⟩
  · by_cases e : j = ct
    · subst e
      rw [upN_s, fb_bit_set]
      exact ⟨by simp, by omega⟩
    · rw [upN_ne e, fb_bit_set, (h.1 j (by omega)).1]
      exact ⟨rfl, by have := (h.1 j (by omega)).2; omega⟩
  · rw [fb_bit_set, Bool.or_eq_true] at ht
    rcases ht with q | q
    · obtain ⟨j, hj, e⟩ := h.2.1 t q
      exact ⟨j, by omega, by rw [upN_ne (by omega)]; exact e⟩
    · exact ⟨ct, by omega, by rw [upN_s]; exact (of_decide_eq_true q).symm⟩
  · by_cases e : j = ct
    · subst e
      rw [upN_s, upN_ne (by omega)]
      exact (h.1 i hij).2
    · rw [upN_ne e, upN_ne (by omega)]
      exact h.2.2 i j hij (by omega)
theorem ls_bit {x : Nat} {t : Nat} (ht : t < 20) (h : x.testBit t = true) : lsN x ≤ t ∧ x.testBit (lsN x) = true := by
  have h1 : lsN x ≤ t := by
    apply Nat.not_lt.mp
    intro q
    have := fa_first_no (fun k => x.testBit k) 20 t q
    simp only [h] at this
    cases this
  exact ⟨h1, fa_first_yes (fun k => x.testBit k) 20 (by unfold lsN at h1; omega)⟩
theorem st_first {st : Nat → Nat} {tk ct : Nat} (h : stOK st tk ct 20) (hc : 0 < ct) : st 0 = lsN tk := by
  obtain ⟨h1, h2⟩ := h.1 0 hc
  obtain ⟨q1, q2⟩ := ls_bit h2 h1
  obtain ⟨j, hj, e⟩ := h.2.1 _ q2
  by_cases e0 : j = 0
  · subst e0; exact e
  · have := h.2.2 0 j (by omega) hj; omega
/-- of all that are taken -/
def alT (tk : Nat) (f : Nat → Bool) : Bool := allB 20 (fun t => !tk.testBit t || f t)
theorem alT_iff {tk : Nat} {f : Nat → Bool} : alT tk f = true ↔ ∀ t, t < 20 → tk.testBit t = true → f t = true := by
  unfold alT
  rw [allB_iff]
  refine ⟨fun h t ht hb => ?_, fun h t ht => ?_⟩
  · have := h t ht
    rw [hb] at this
    exact this
  · cases hb : tk.testBit t with
    | false => rfl
    | true => exact h t ht hb
theorem alT_t {st : Nat → Nat} {tk ct : Nat} {f : Nat → Bool} (h : stOK st tk ct 20) (hf : ∀ j, j < ct → f (st j) = true) : alT tk f = true := alT_iff.mpr (fun t _ hb => by
  obtain ⟨j, hj, e⟩ := h.2.1 t hb
  rw [← e]; exact hf j hj)
theorem alT_f {st : Nat → Nat} {tk ct : Nat} {f : Nat → Bool} (h : stOK st tk ct 20) (j : Nat) (hj : j < ct) (hf : f (st j) = false) : alT tk f = false := by
  cases hb : alT tk f with
  | false => rfl
  | true =>
    have := alT_iff.mp hb (st j) (h.1 j hj).2 (h.1 j hj).1
    rw [hf] at this
    cases this
/-- two places at which each that is taken has the same; a place at which not all have the same -/
def saB (z g : Nat → Nat) (v tk line ahead k pl : Nat) : Bool := alT tk (fun t => decide (sgN z g (v * 20 + (t + line)) ahead = sgN z g (v * 20 + (t + k)) pl))
def dfB (z g : Nat → Nat) (v tk k pl : Nat) : Bool := !(alT tk (fun t => decide (sgN z g (v * 20 + (t + k)) pl = sgN z g (v * 20 + (lsN tk + k)) pl)))
def szT (z : Nat → Nat) (v tk k : Nat) : Nat := z (v * 20 + (lsN tk + k))
/-- a place ahead, at which it is told already -/
def ahB (z g : Nat → Nat) (v tk k pl : Nat) : Bool := !(allB (8 * k + pl) (fun a => !(decide (a % 8 < szT z v tk (a / 8)) && saB z g v tk (a / 8) (a % 8) k pl)))
def tdB (z g : Nat → Nat) (v tk a : Nat) : Bool := decide (a % 8 < szT z v tk (a / 8)) && dfB z g v tk (a / 8) (a % 8) && !(ahB z g v tk (a / 8) (a % 8))
def tdN (z g : Nat → Nat) (v tk n : Nat) : Nat := fb_ct (tdB z g v tk) (8 * n)
theorem tdN_le (z g : Nat → Nat) (v tk n : Nat) : tdN z g v tk n ≤ 8 * n := fb_ct_le _ _
theorem ahB_t {z g : Nat → Nat} {v tk k pl line ahead : Nat} (hl : line < k ∨ (line = k ∧ ahead < pl)) (h8 : ahead < 8) (hs : ahead < szT z v tk line) (h : saB z g v tk line ahead k pl = true) : ahB z g v tk k pl = true := by
  unfold ahB
  rw [allB_f (8 * line + ahead) (by omega)]
  · rfl
  · rw [show (8 * line + ahead) % 8 = ahead by omega, show (8 * line + ahead) / 8 = line by omega, decide_eq_true hs, h]; rfl
theorem ahB_f {z g : Nat → Nat} {v tk k pl : Nat} (h8 : pl ≤ 8) (h : ∀ line ahead, (line < k ∨ (line = k ∧ ahead < pl)) → ahead < szT z v tk line → saB z g v tk line ahead k pl = false) : ahB z g v tk k pl = false := by
  unfold ahB
  rw [allB_t (fun a ha => ?_)]
  · rfl
  · by_cases q : a % 8 < szT z v tk (a / 8)
    · rw [h (a / 8) (a % 8) (by omega) q, Bool.and_false]; rfl
    · rw [decide_eq_false q]; rfl
theorem ct_flat {q : Nat → Bool} {a : Nat} : ∀ {d : Nat}, (∀ j, a ≤ j → j < a + d → q j = false) → fb_ct q (a + d) = fb_ct q a
  | 0, _ => rfl
  | d + 1, h => by
    rw [show a + (d + 1) = a + d + 1 by omega, fb_ct_succ, ct_flat (fun j h1 h2 => h j h1 (by omega)), h (a + d) (by omega) (by omega)]
    rfl
theorem td_end {z g : Nat → Nat} {v tk k : Nat} (hz : szT z v tk k ≤ 8) : fb_ct (tdB z g v tk) (8 * k + szT z v tk k) = fb_ct (tdB z g v tk) (8 * (k + 1)) := by
  have h := ct_flat (q := tdB z g v tk) (a := 8 * k + szT z v tk k) (d := 8 - szT z v tk k) (fun j h1 h2 => by
    unfold tdB
    rw [show j / 8 = k by omega, decide_eq_false (by omega)]
    rfl)
  rw [← h]
  congr 1
  omega
theorem td_t {z g : Nat → Nat} {v tk k pl : Nat} (h8 : pl < 8) (hs : pl < szT z v tk k) (h1 : dfB z g v tk k pl = true) (h2 : ahB z g v tk k pl = false) : fb_ct (tdB z g v tk) (8 * k + pl) + 1 = fb_ct (tdB z g v tk) (8 * k + (pl + 1)) := by
  have e : tdB z g v tk (8 * k + pl) = true := by
    unfold tdB
    rw [show (8 * k + pl) / 8 = k by omega, show (8 * k + pl) % 8 = pl by omega, decide_eq_true hs, h1, h2]; rfl
  rw [show 8 * k + (pl + 1) = 8 * k + pl + 1 by omega, fb_ct_succ, e]
  rfl
theorem td_f {z g : Nat → Nat} {v tk k pl : Nat} (h8 : pl < 8) (h : dfB z g v tk k pl = false ∨ ahB z g v tk k pl = true) : fb_ct (tdB z g v tk) (8 * k + pl) = fb_ct (tdB z g v tk) (8 * k + (pl + 1)) := by
  have e : tdB z g v tk (8 * k + pl) = false := by
    unfold tdB
    rw [show (8 * k + pl) / 8 = k by omega, show (8 * k + pl) % 8 = pl by omega]
    rcases h with q | q
    · rw [q, Bool.and_false]; rfl
    · rw [q]; simp
  rw [show 8 * k + (pl + 1) = 8 * k + pl + 1 by omega, fb_ct_succ, e]
  rfl
/-- what a procedure saves -/
def svI (ct n td : Nat) : Int32 := nI (ct * n) - nI (n + 1) - nI ct - nI td
