/-- what two alike rows keep at each place -/
theorem lnX_pos {way : Nat} {fa fb : Nat → Nat} {sk : Nat → Bool} {L : List (Nat × Nat)} : ∀ {n : Nat}, (lnX way fa fb sk L n).1 = true → ∀ p, p < n → sk p = false → nmB (fa p) = false → nuB (fa p) = false → fa p = fb p
  | 0, _, p, hp, _, _, _ => absurd hp (Nat.not_lt_zero p)
  | n + 1, h, p, hp, hs, h1, h2 => by
    cases hq : (lnX way fa fb sk L n).1 with
    | false =>
      rw [lnX_stop hq 1, hq] at h
      cases h
    | true =>
      by_cases e : p = n
      · subst e
        rw [lnX_s hq hs, stX_0 (Or.inr h1) (Or.inr h2)] at h
        exact of_decide_eq_true h
      · exact lnX_pos hq p (by omega) hs h1 h2
theorem rwX_pos {way : Nat} {z g : Nat → Nat} {v one other : Nat} {sk : Nat → Nat → Bool} : ∀ {n : Nat}, (rwX way z g v one other sk n).1 = true → ∀ k, k < n → z (v * 20 + (other + k)) = z (v * 20 + (one + k)) ∧ ∀ p, p < z (v * 20 + (one + k)) → sk k p = false → nmB (sgN z g (v * 20 + (one + k)) p) = false → nuB (sgN z g (v * 20 + (one + k)) p) = false → sgN z g (v * 20 + (one + k)) p = sgN z g (v * 20 + (other + k)) p
  | 0, _, k, hk => absurd hk (Nat.not_lt_zero k)
  | n + 1, h, k, hk => by
    cases hq : (rwX way z g v one other sk n).1 with
    | false =>
      rw [rwX_stop hq 1, hq] at h
      cases h
    | true =>
      by_cases e : k = n
      · subst e
        rw [rwX_s hq] at h
        unfold lfX at h
        by_cases e2 : z (v * 20 + (other + k)) = z (v * 20 + (one + k))
        · rw [if_pos e2] at h
          exact ⟨e2, fun p hp hs h1 h2 => lnX_pos h p hp hs h1 h2⟩
        · rw [if_neg e2] at h
          cases h
      · exact rwX_pos hq k (by omega)
theorem al_eq {tk nl : Nat} (hnl : nl ≤ 20) (hb : ∀ t, tk.testBit t = true → t < nl) {p f : Nat → Bool} (h : ∀ t, tk.testBit t = true → p t = f t) : allB nl (fun k => !tk.testBit k || p k) = alT tk f := by
  rw [Bool.eq_iff_iff, allB_iff, alT_iff]
  constructor
  · intro q t _ ht
    have := q t (hb t ht)
    rw [ht] at this
    rw [← h t ht]
    simpa using this
  · intro q t ht
    cases e : tk.testBit t with
    | false => rfl
    | true =>
      have := q t (by omega) e
      rw [h t e, this]; rfl
/-- the rows that are taken are alike, as far as told needs it -/
def tkA (z g : Nat → Nat) (v tk nl n : Nat) : Prop := ∀ t, tk.testBit t = true → t < nl ∧ ∀ line, line < n → z (v * 20 + (t + line)) = szT z v tk line ∧ ∀ p, p < szT z v tk line → nmB (rgN g v (lsN tk + line) p) = false → nuB (rgN g v (lsN tk + line) p) = false → rgN g v (t + line) p = rgN g v (lsN tk + line) p
theorem rg_sg {z g : Nat → Nat} {v l p : Nat} (h : p < z (v * 20 + l)) : sgN z g (v * 20 + l) p = rgN g v l p := by
  unfold sgN rgN; rw [if_pos h]
theorem eq_td {z g : Nat → Nat} {v tk nl n : Nat} (hnl : nl ≤ 20) (H : tkA z g v tk nl n) {a : Nat} (ha : a < 8 * n) : tdQ z g v tk nl a = tdB z g v tk a := by
  have hl : a / 8 < n := by omega
  have hb : ∀ t, tk.testBit t = true → t < nl := fun t ht => (H t ht).1
  unfold tdQ tdB
  by_cases hs : a % 8 < szT z v tk (a / 8)
  · rw [decide_eq_true hs, Bool.true_and, Bool.true_and]
    have E1 : allB nl (sqP g v tk (a / 8) (a % 8)) = alT tk (fun t => decide (sgN z g (v * 20 + (t + a / 8)) (a % 8) = sgN z g (v * 20 + (lsN tk + a / 8)) (a % 8))) :=
      al_eq hnl hb (fun t ht => by
        have q := (H t ht).2 (a / 8) hl
        rw [rg_sg (by rw [q.1]; exact hs), rg_sg hs])
    have E2 : haB z g v tk nl a = ahB z g v tk (a / 8) (a % 8) := by
      unfold haB ahB
      rw [show 8 * (a / 8) + a % 8 = a by omega]
      congr 1
      rw [Bool.eq_iff_iff, allB_iff, allB_iff]
      have E3 : ∀ k, k < a → hdB z g v tk nl a k = (decide (k % 8 < szT z v tk (k / 8)) && saB z g v tk (k / 8) (k % 8) (a / 8) (a % 8)) := by
        intro k hk
        unfold hdB saB
        by_cases h8 : k % 8 < szT z v tk (k / 8)
        · rw [decide_eq_true h8, Bool.true_and, Bool.true_and]
          refine al_eq hnl hb (fun t ht => ?_)
          have q := (H t ht).2 (a / 8) hl
          have q2 := (H t ht).2 (k / 8) (by omega)
          rw [rg_sg (by rw [q2.1]; exact h8), rg_sg (by rw [q.1]; exact hs)]
          exact decide_eq_decide.mpr ⟨Eq.symm, Eq.symm⟩
        · rw [decide_eq_false h8, Bool.false_and, Bool.false_and]
      exact ⟨fun q k hk => by rw [← E3 k hk]; exact q k hk, fun q k hk => by rw [E3 k hk]; exact q k hk⟩
    rw [E2]
    congr 1
    unfold tlB dfB
    rw [E1]
    cases hX : alT tk (fun t => decide (sgN z g (v * 20 + (t + a / 8)) (a % 8) = sgN z g (v * 20 + (lsN tk + a / 8)) (a % 8))) with
    | true => simp
    | false =>
      cases h1 : nmB (rgN g v (lsN tk + a / 8) (a % 8)) with
      | true => rfl
      | false =>
        cases h2 : nuB (rgN g v (lsN tk + a / 8) (a % 8)) with
        | true => rfl
        | false =>
          exfalso
          have : alT tk (fun t => decide (sgN z g (v * 20 + (t + a / 8)) (a % 8) = sgN z g (v * 20 + (lsN tk + a / 8)) (a % 8))) = true := alT_iff.mpr (fun t _ ht => by
            have q := (H t ht).2 (a / 8) hl
            rw [rg_sg (by rw [q.1]; exact hs), rg_sg hs]
            exact decide_eq_true (q.2 _ hs h1 h2))
          rw [hX] at this
          cases this
  · rw [decide_eq_false hs]; rfl
