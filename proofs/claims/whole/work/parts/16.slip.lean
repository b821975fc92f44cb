def adN (a b : Nat) : Nat := if a < b then b - a else a - b
theorem abs_nI {a b : Nat} (ha : a < 1000) (hb : b < 1000) : (if 0 ≤ nI a - nI b then nI a - nI b else 0 - (nI a - nI b)) = nI (adN a b) := by
  have e1 := nI_toInt (show a < 2 ^ 31 by omega)
  have e2 := nI_toInt (show b < 2 ^ 31 by omega)
  have f1 : (nI a - nI b).toInt = (nI a).toInt - (nI b).toInt := fb_subI (by omega) (by omega)
  rw [e1, e2] at f1
  unfold adN
  by_cases h : a < b
  · rw [if_neg (by rw [fa_le, f1, tI0]; omega), if_pos h, fa_eq, nI_toInt (by omega)]
    have f2 : (0 - (nI a - nI b)).toInt = (0 : Int32).toInt - (nI a - nI b).toInt := fb_subI (by rw [f1, tI0]; omega) (by rw [f1, tI0]; omega)
    rw [f2, f1, tI0]
    omega
  · rw [if_pos (by rw [fa_le, f1, tI0]; omega), if_neg h, fa_eq, nI_toInt (by omega), f1]
    omega
/-- the name that would make two rows alike at a place of the second; 0: none -/
def fgF (z g : Nat → Nat) (v one other n k i : Nat) : Nat :=
  if nmB (sgN z g (v * 20 + (one + k)) i) && nmB (sgN z g (v * 20 + (other + k)) i) && (rwX 1 z g v one other (fun (kk pq : Nat) => decide (nI pq = nI (k * 10 + i) - nI (kk * 10))) n).1
  then ffN (rwX 1 z g v one other (fun (kk pq : Nat) => decide (nI pq = nI (k * 10 + i) - nI (kk * 10))) n).2 (sgN z g (v * 20 + (one + k)) i) else 0
theorem fgF_t {z g : Nat → Nat} {v one other n k i : Nat} (h1 : nmB (sgN z g (v * 20 + (one + k)) i) = true) (h2 : nmB (sgN z g (v * 20 + (other + k)) i) = true) (h3 : (rwX 1 z g v one other (fun (kk pq : Nat) => decide (nI pq = nI (k * 10 + i) - nI (kk * 10))) n).1 = true) : fgF z g v one other n k i = ffN (rwX 1 z g v one other (fun (kk pq : Nat) => decide (nI pq = nI (k * 10 + i) - nI (kk * 10))) n).2 (sgN z g (v * 20 + (one + k)) i) := by
  unfold fgF; rw [if_pos (by rw [h1, h2, h3]; rfl)]
theorem fgF_f {z g : Nat → Nat} {v one other n k i : Nat} (h : nmB (sgN z g (v * 20 + (one + k)) i) = false ∨ nmB (sgN z g (v * 20 + (other + k)) i) = false ∨ (rwX 1 z g v one other (fun (kk pq : Nat) => decide (nI pq = nI (k * 10 + i) - nI (kk * 10))) n).1 = false) : fgF z g v one other n k i = 0 := by
  unfold fgF; rw [if_neg]
  rcases h with h | h | h <;> rw [h] <;> simp
/-- the search: no place ahead, or the first -/
def fgI (F : Nat → Nat → Nat) (sz : Nat → Nat) (k i pl nm : Nat) : Prop :=
  (nm = 0 ∧ ∀ a b, (a < k ∨ (a = k ∧ b < i)) → b < sz a → F a b = 0) ∨
  (nm ≠ 0 ∧ ∃ a0 b0, (a0 < k ∨ (a0 = k ∧ b0 < i)) ∧ b0 < sz a0 ∧ pl = a0 * 10 + b0 ∧ nm = F a0 b0 ∧ ∀ a b, (a < a0 ∨ (a = a0 ∧ b < b0)) → b < sz a → F a b = 0)
theorem fgI_0 (F : Nat → Nat → Nat) (sz : Nat → Nat) (pl : Nat) : fgI F sz 0 0 pl 0 := Or.inl ⟨rfl, fun a b h => by omega⟩
theorem fgI_s {F : Nat → Nat → Nat} {sz : Nat → Nat} {k i pl : Nat} (h : fgI F sz k i pl 0) (hi : i < sz k) : fgI F sz k (i + 1) (k * 10 + i) (F k i) := by
  rcases h with ⟨-, h⟩ | ⟨h, -⟩
  · by_cases e : F k i = 0
    · refine Or.inl ⟨e, fun a b h1 h2 => ?_⟩
      by_cases q : a = k ∧ b = i
      · rw [q.1, q.2]; exact e
      · exact h a b (by omega) h2
    · exact Or.inr ⟨e, k, i, by omega, hi, rfl, rfl, h⟩
  · exact absurd rfl h
theorem fgI_row {F : Nat → Nat → Nat} {sz : Nat → Nat} {k i pl nm : Nat} (h : fgI F sz k i pl nm) (hi : sz k ≤ i ∨ nm ≠ 0) : fgI F sz (k + 1) 0 pl nm := by
  rcases h with ⟨h0, h⟩ | ⟨h0, a0, b0, h1, h2⟩
  · refine Or.inl ⟨h0, fun a b h1 h2 => ?_⟩
    rcases hi with q | q
    · by_cases e : a = k
      · subst e; exact h a b (by omega) h2
      · exact h a b (by omega) h2
    · exact absurd h0 q
  · exact Or.inr ⟨h0, a0, b0, by omega, h2⟩
theorem fgI_end {F : Nat → Nat → Nat} {sz : Nat → Nat} {k n pl nm : Nat} (h : fgI F sz k 0 pl nm) (hk : k ≤ n) (hn : n ≤ k ∨ nm ≠ 0) : fgI F sz n 0 pl nm := by
  rcases h with ⟨h0, h⟩ | ⟨h0, a0, b0, h1, h2⟩
  · rcases hn with q | q
    · have e : k = n := by omega
      subst e; exact Or.inl ⟨h0, h⟩
    · exact absurd h0 q
  · exact Or.inr ⟨h0, a0, b0, by omega, h2⟩
theorem ffL_le (L : List (Nat × Nat)) : ∀ (k c : Nat), c + k ≤ 26 → ffL L c k ≤ 126
  | 0, c, _ => by show 0 ≤ 126; omega
  | k + 1, c, h => by
    unfold ffL
    split
    · exact ffL_le L k (c + 1) (by omega)
    · omega
theorem ffN_le {n1 n2 : Nat} {pt : Nat → Nat} {L : List (Nat × Nat)} (h : pmC n1 n2 pt L) (a : Nat) : ffN L a ≤ 126 := by
  unfold ffN
  split
  · rename_i q
    obtain ⟨-, r, hr, e⟩ := hpB_iff.mp q
    rw [← e, rnN_in h.2.2.2.2.2.1 hr]
    have := (h.2.2.2.2.1 r hr).2.1
    omega
  · exact ffL_le L 26 0 (by omega)
/-- how far two lines are -/
def scN (a b : Nat) : Nat := if a = b then 0 else if (nmB a && nmB b || nuB a && nuB b) then 1 else 3
theorem scN_le (a b : Nat) : scN a b ≤ 3 := by unfold scN; split; omega; split <;> omega
def dsR (prev : Nat → Nat) (a : Nat) (fb : Nat → Nat) (i : Nat) : Nat → Nat
  | 0 => 2 * (i + 1)
  | j + 1 => min (prev j + scN a (fb j)) (min (dsR prev a fb i j) (prev (j + 1)) + 2)
def dsN (fa fb : Nat → Nat) : Nat → Nat → Nat
  | 0 => fun j => 2 * j
  | i + 1 => dsR (dsN fa fb i) (fa i) fb i
theorem dsN_0 (fa fb : Nat → Nat) : ∀ i, dsN fa fb i 0 = 2 * i
  | 0 => rfl
  | _ + 1 => rfl
theorem dsN_s (fa fb : Nat → Nat) (i j : Nat) : dsN fa fb (i + 1) (j + 1) = min (dsN fa fb i j + scN (fa i) (fb j)) (min (dsN fa fb (i + 1) j) (dsN fa fb i (j + 1)) + 2) := rfl
theorem dsN_le (fa fb : Nat → Nat) : ∀ i j, dsN fa fb i j ≤ 2 * (i + j)
  | 0, j => by show 2 * j ≤ _; omega
  | i + 1, 0 => by rw [dsN_0]; omega
  | i + 1, j + 1 => by
    have := dsN_le fa fb i (j + 1)
    rw [dsN_s]
    omega
/-- the table so far: rows ahead, and places ahead in the row -/
def dsT (fa fb : Nat → Nat) (R C : Nat) (cs : Nat → Nat) (i j : Nat) : Prop := (∀ r c, r ≤ R → c ≤ C → (r < i ∨ (r = i ∧ c < j) ∨ c = 0) → cs (r * 9 + c) = dsN fa fb r c) ∧ ∀ q, cs q ≤ 1000
theorem dsT_s {fa fb : Nat → Nat} {R C : Nat} {cs : Nat → Nat} {i j x : Nat} (hR : R ≤ 8) (hC : C ≤ 8) (h : dsT fa fb R C cs i j) (hi : i ≤ R) (hj : j ≤ C) (hx : x = dsN fa fb i j) : dsT fa fb R C (upN cs (i * 9 + j) x) i (j + 1) := by
  have hb := dsN_le fa fb i j
  refine ⟨fun r c h1 h2 h3 => ?_, upN_le h.2 (by omega)⟩
  by_cases e : r = i ∧ c = j
  · rw [e.1, e.2, upN_s]; exact hx
  · rw [upN_ne (by omega)]
    exact h.1 r c h1 h2 (by omega)
theorem dsT_row {fa fb : Nat → Nat} {R C : Nat} {cs : Nat → Nat} {i j : Nat} (h : dsT fa fb R C cs i j) (hj : C < j) : dsT fa fb R C cs (i + 1) 1 := ⟨fun r c h1 h2 h3 => h.1 r c h1 h2 (by omega), h.2⟩
