theorem rl_at {a c : Nat} {Y : Bool × List (Nat × Nat)} (ha : nmB a = true) (hc : nmB c = true) : rlP a c (if Y.1 then stX 1 Y.2 a c else Y) Y := by
  cases hY : Y.1 with
  | false =>
    refine ⟨?_, fun q => ?_⟩
    · show Y.1 = (Y.1 && _)
      rw [hY]; rfl
    · have q2 : Y.1 = true := q
      rw [hY] at q2; cases q2
  | true =>
    show rlP a c (stX 1 Y.2 a c) Y
    rw [stX_1 (by decide) ha]
    have e : jnB Y.2 a c = okp Y.2 a c := by unfold jnB; rw [ha, hc]; rfl
    refine ⟨?_, fun q => ?_⟩
    · show jnB Y.2 a c = _
      rw [e, hY, Bool.true_and]
    · have q2 : jnB Y.2 a c = true := q
      intro r
      show r ∈ jnL Y.2 a c ↔ _
      unfold jnL
      rw [if_pos q2, List.mem_cons]
theorem ln1_f {fa fb : Nat → Nat} {sk : Nat → Bool} {L : List (Nat × Nat)} {a c : Nat} (h : okp L a c = false) : ∀ m, okp (lnX 1 fa fb sk L m).2 a c = false
  | 0 => h
  | m + 1 => by
    have ih := ln1_f (fa := fa) (fb := fb) (sk := sk) h m
    show okp (if (lnX 1 fa fb sk L m).1 then (if sk m then lnX 1 fa fb sk L m else stX 1 (lnX 1 fa fb sk L m).2 (fa m) (fb m)) else lnX 1 fa fb sk L m).2 a c = false
    split
    · split
      · exact ih
      · exact st1_f ih
    · exact ih
theorem rl_ln {fa fb : Nat → Nat} {Lx Ly : List (Nat × Nat)} {a c : Nat} (h : ∀ q, q ∈ Lx ↔ (q = (a, c) ∨ q ∈ Ly)) (hO : okp Ly a c = true) : ∀ m, rlP a c (lnX 1 fa fb (fun _ => false) Lx m) (lnX 1 fa fb (fun _ => false) Ly m)
  | 0 => ⟨by show true = (true && okp Ly a c); rw [hO]; rfl, fun _ => h⟩
  | m + 1 => rl_st (rl_ln h hO m)
