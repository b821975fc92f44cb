theorem rl_in {fa fb fb2 : Nat → Nat} {sk : Nat → Bool} {L : List (Nat × Nat)} {a c i0 M : Nat} (hf : ∀ p, p ≠ i0 → fb2 p = fb p) (hf0 : fb2 i0 = c) (hfa : fa i0 = a) (ha : nmB a = true) (hc : nmB c = true) (hs : ∀ p, p < M → sk p = decide (p = i0)) :
    ∀ m, m ≤ M → (m ≤ i0 → lnX 1 fa fb2 (fun _ => false) L m = lnX 1 fa fb sk L m) ∧ (i0 < m → rlP a c (lnX 1 fa fb2 (fun _ => false) L m) (lnX 1 fa fb sk L m))
  | 0, _ => ⟨fun _ => rfl, fun h => absurd h (Nat.not_lt_zero _)⟩
  | m + 1, hm => by
    have ih := rl_in (L := L) hf hf0 hfa ha hc hs m (by omega)
    have hM := hs m (by omega)
    have eX : lnX 1 fa fb2 (fun _ => false) L (m + 1) = if (lnX 1 fa fb2 (fun _ => false) L m).1 then stX 1 (lnX 1 fa fb2 (fun _ => false) L m).2 (fa m) (fb2 m) else lnX 1 fa fb2 (fun _ => false) L m := rfl
    by_cases e : m = i0
    · refine ⟨fun h => by omega, fun _ => ?_⟩
      rw [eX, lnX_k (sk := sk) (by rw [hM]; exact decide_eq_true e), ih.1 (by omega), e, hf0, hfa]
      exact rl_at ha hc
    · have eY : lnX 1 fa fb sk L (m + 1) = if (lnX 1 fa fb sk L m).1 then stX 1 (lnX 1 fa fb sk L m).2 (fa m) (fb m) else lnX 1 fa fb sk L m := by
        show (if (lnX 1 fa fb sk L m).1 then (if sk m then lnX 1 fa fb sk L m else stX 1 (lnX 1 fa fb sk L m).2 (fa m) (fb m)) else lnX 1 fa fb sk L m) = _
        rw [if_neg (show ¬ sk m = true by rw [hM, decide_eq_false e]; decide)]
      refine ⟨fun h => ?_, fun h => ?_⟩
      · rw [eX, eY, ih.1 (by omega), hf m e]
      · rw [eX, eY, hf m e]
        exact rl_st (ih.2 (by omega))
