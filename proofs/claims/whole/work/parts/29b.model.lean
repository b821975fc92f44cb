def bmI (L : List (Nat × Nat × Nat × Nat)) (k : Nat) (bx : Int32) : Prop := (bx = -6 ∧ k = 0) ∨ ∃ b x, b < k ∧ L[b]? = some x ∧ bx = nI b ∧ bsF (L.take k) = (x.1, x.2.2.1, x.2.2.2)
theorem bsF_take {L : List (Nat × Nat × Nat × Nat)} {k : Nat} {x : Nat × Nat × Nat × Nat} (h : L[k]? = some x) : bsF (L.take (k + 1)) = if (bsF (L.take k)).1 < x.1 then (x.1, x.2.2.1, x.2.2.2) else bsF (L.take k) := by
  rw [List.take_add_one, h]
  exact bsF_app _ _
theorem bm_first {L : List (Nat × Nat × Nat × Nat)} {k : Nat} {bx : Int32} {x : Nat × Nat × Nat × Nat} (h : bmI L k bx) (hk : k < 1000) (hx : L[k]? = some x) (h0 : 0 < x.1) (hb : bx < 0) : bmI L (k + 1) (nI k) := by
  rcases h with ⟨-, e⟩ | ⟨b, y, h1, h2, h3, h4⟩
  · subst e
    refine Or.inr ⟨0, x, by omega, hx, rfl, ?_⟩
    rw [bsF_take hx, if_pos (show (bsF (L.take 0)).1 < x.1 from h0)]
  · rw [h3] at hb
    exact absurd hb (nI_pos (by omega))
theorem bm_of {L : List (Nat × Nat × Nat × Nat)} {k : Nat} {bx : Int32} (h : bmI L k bx) (hb : ¬ bx < 0) : ∃ b x, b < k ∧ L[b]? = some x ∧ bx = nI b ∧ bsF (L.take k) = (x.1, x.2.2.1, x.2.2.2) := by
  rcases h with ⟨e, -⟩ | h
  · rw [e] at hb; exact absurd (by decide) hb
  · exact h
theorem bm_new {L : List (Nat × Nat × Nat × Nat)} {k b : Nat} {x y : Nat × Nat × Nat × Nat} (hx : L[k]? = some x) (hy : L[b]? = some y) (hs : bsF (L.take k) = (y.1, y.2.2.1, y.2.2.2)) (h : y.1 < x.1) : bmI L (k + 1) (nI k) := by
  refine Or.inr ⟨k, x, by omega, hx, rfl, ?_⟩
  rw [bsF_take hx, hs, if_pos h]
theorem bm_keep {L : List (Nat × Nat × Nat × Nat)} {k b : Nat} {x y : Nat × Nat × Nat × Nat} (hb : b < k) (hx : L[k]? = some x) (hy : L[b]? = some y) (hs : bsF (L.take k) = (y.1, y.2.2.1, y.2.2.2)) (h : x.1 ≤ y.1) : bmI L (k + 1) (nI b) := by
  refine Or.inr ⟨b, y, by omega, hy, rfl, ?_⟩
  rw [bsF_take hx, hs, if_neg (by show ¬ y.1 < x.1; omega)]
theorem psM_at {L : List (Nat × Nat × Nat × Nat)} {ct : Nat} {s1 s2 s3 s4 : Nat → Nat} (h : psM L ct s1 s2 s3 s4) {j : Nat} (hj : j < ct) : ∃ x, L[j]? = some x ∧ (s1 j = x.1 ∧ s4 j = x.2.1 ∧ s2 j = x.2.2.1 ∧ s3 j = x.2.2.2) ∧ 0 < x.1 ∧ x.1 < 2 ^ 30 ∧ x.2.1 < 2 ^ 31 ∧ x.2.2.1 ≤ 20 ∧ x.2.2.2 ≤ 20 := by
  rw [h.1] at hj
  exact ⟨L[j], List.getElem?_eq_getElem hj, h.2.1 j _ (List.getElem?_eq_getElem hj), h.2.2 _ (List.getElem_mem hj)⟩
def twQ (L : List (Nat × Nat × Nat × Nat)) : Nat := mxI (fun k => max (laF L k) (mxI (fun j => prF (laF L) (lbF L) k j) k)) L.length
theorem twQ_of {L : List (Nat × Nat × Nat × Nat)} {ct : Nat} {s1 s2 s3 s4 : Nat → Nat} (h : psM L ct s1 s2 s3 s4) : mxI (fun k => max (s1 k) (mxI (fun j => prF s1 s4 k j) k)) ct = twQ L := by
  have e : ∀ j, j < L.length → s1 j = laF L j ∧ s4 j = lbF L j := by
    intro j hj
    have h1 := h.2.1 j L[j] (List.getElem?_eq_getElem hj)
    unfold laF lbF
    rw [List.getD_eq_getElem?_getD, List.getElem?_eq_getElem hj]
    exact ⟨h1.1, h1.2.1⟩
  unfold twQ
  rw [h.1]
  refine mxI_cong (fun k hk => ?_)
  rw [(e k hk).1]
  congr 1
  refine mxI_cong (fun j hj => ?_)
  unfold prF
  rw [(e k hk).1, (e k hk).2, (e j (by omega)).1, (e j (by omega)).2]
/-- the longest: none, or the greatest, of several the first -/
def lqP (F : Nat → Nat → Nat → Bool) (nl ll lo lt : Nat) : Prop :=
  (ll = 0 ∧ ∀ m i j, 1 ≤ m → i + m ≤ j → j + m ≤ nl → F m i j = false) ∨
  (0 < ll ∧ lo + ll ≤ lt ∧ lt + ll ≤ nl ∧ F ll lo lt = true ∧ (∀ m i j, ll < m → i + m ≤ j → j + m ≤ nl → F m i j = false) ∧ ∀ a b, (a < lo ∨ (a = lo ∧ b < lt)) → a + ll ≤ b → b + ll ≤ nl → F ll a b = false)
theorem st_eq {z g : Nat → Nat} {v ln : Nat} (h : z (v * 20 + ln) = z ((v + 1) * 20 + ln)) (h2 : ∀ j, j < z (v * 20 + ln) → g ((v * 20 + ln) * 8 + j) = g (((v + 1) * 20 + ln) * 8 + j)) : stB z g v ln = true := by
  unfold stB
  rw [decide_eq_true h.symm, allB_t (fun k hk => decide_eq_true (h2 k hk))]; rfl
theorem st_z {z g : Nat → Nat} {v ln : Nat} (h : ¬ z (v * 20 + ln) = z ((v + 1) * 20 + ln)) : stB z g v ln = false := by
  unfold stB
  rw [decide_eq_false (fun e => h e.symm)]; rfl
theorem st_g {z g : Nat → Nat} {v ln k : Nat} (hk : k < z (v * 20 + ln)) (h : ¬ g ((v * 20 + ln) * 8 + k) = g (((v + 1) * 20 + ln) * 8 + k)) : stB z g v ln = false := by
  unfold stB
  rw [allB_f k hk (decide_eq_false h), Bool.and_false]
def mqN (z g : Nat → Nat) (v nl one other n : Nat) (ol : Int32) (op os : Nat) : Nat := if rmB 1 z g v nl one other n ol op os then mkN (fun k => meB z g v (one + k) (other + k)) n else 0
def mdQ (z g : Nat → Nat) (v nl one other n k : Nat) (i ol : Int32) (op os : Nat) : Int32 :=
  if rmB 1 z g v nl one other n ol op os && meB z g v (one + k) (other + k) then
    (if i = -1 then nI (z ((v + 1) * 20 + (one + k))) else if sgA z g ((v + 1) * 20 + (one + k)) i = 0 then -6 else nI (rnN (rwM 1 z g v one other ol op os n).2 (sgA z g ((v + 1) * 20 + (one + k)) i))) else -5
theorem mq_bit {z g : Nat → Nat} {v nl one other n k : Nat} {ol : Int32} {op os : Nat} (hk : k < n) : (mqN z g v nl one other n ol op os).testBit k = (rmB 1 z g v nl one other n ol op os && meB z g v (one + k) (other + k)) := by
  unfold mqN
  cases h : rmB 1 z g v nl one other n ol op os with
  | false => rw [if_neg (by decide), Nat.zero_testBit]; rfl
  | true => rw [if_pos rfl, mkN_bit, decide_eq_true hk]
theorem mq_lt {z g : Nat → Nat} {v nl one other n : Nat} {ol : Int32} {op os : Nat} (hn : n ≤ 20) : mqN z g v nl one other n ol op os < 2 ^ 31 := by
  unfold mqN
  split
  · exact pow_le31 (mkN_lt _ _) (by omega)
  · decide
theorem rn_be {be ba : Nat → Nat} {L : List (Nat × Nat)} (h : pmM be ba L) {s : Nat} (hs : 97 ≤ s ∧ s ≤ 122) : (be (s - 97) = 0 → rnN L s = s) ∧ (0 < be (s - 97) → rnN L s = be (s - 97)) := by
  have h1 := h.1 (s - 97) (by omega)
  rw [show s - 97 + 97 = s by omega] at h1
  rcases h1 with ⟨e, n⟩ | ⟨q, hq, e1, e2⟩
  · exact ⟨fun _ => rnN_out n, fun k => by omega⟩
  · have hr := h.2.2.1 q hq
    refine ⟨fun k => by omega, fun _ => ?_⟩
    rw [e2, ← e1]
    exact rnN_in h.2.2.2 hq
theorem rn_no {be ba : Nat → Nat} {L : List (Nat × Nat)} (h : pmM be ba L) {s : Nat} (hs : nmB s = false) : rnN L s = s := rnN_out (fun q hq e => by
  have := nmB_iff.mpr (h.2.2.1 q hq).1
  rw [e, hs] at this
  cases this)
