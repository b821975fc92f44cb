/-- the model's pairs are the class's and one more -/
def rlP (a c : Nat) (X Y : Bool × List (Nat × Nat)) : Prop := X.1 = (Y.1 && okp Y.2 a c) ∧ (X.1 = true → ∀ q, q ∈ X.2 ↔ (q = (a, c) ∨ q ∈ Y.2))
theorem okp_cons {L : List (Nat × Nat)} {x y a b : Nat} : okp ((x, y) :: L) a b = (decide (x = a ↔ y = b) && okp L a b) := by
  unfold okp; rw [List.all_cons]
theorem okp_rel {L L2 : List (Nat × Nat)} {a c x y : Nat} (h : ∀ q, q ∈ L2 ↔ (q = (a, c) ∨ q ∈ L)) : okp L2 x y = (decide (a = x ↔ c = y) && okp L x y) := by
  rw [← okp_cons, Bool.eq_iff_iff, okp_iff, okp_iff]
  exact ⟨fun k q hq => k q ((h q).mpr (List.mem_cons.mp hq)), fun k q hq => k q (List.mem_cons.mpr ((h q).mp hq))⟩
theorem st1_f {L : List (Nat × Nat)} {x y a c : Nat} (h : okp L a c = false) : okp (stX 1 L x y).2 a c = false := by
  cases hx : nmB x with
  | true =>
    rw [stX_1 (by decide) hx]
    show okp (jnL L x y) a c = false
    unfold jnL
    split
    · rw [okp_cons, h, Bool.and_false]
    · exact h
  | false =>
    rw [stX_0 (Or.inr hx) (Or.inl (by decide))]
    exact h
theorem rl_st {a c x y : Nat} {X Y : Bool × List (Nat × Nat)} (h : rlP a c X Y) : rlP a c (if X.1 then stX 1 X.2 x y else X) (if Y.1 then stX 1 Y.2 x y else Y) := by
  obtain ⟨h1, h2⟩ := h
  cases hY : Y.1 with
  | false =>
    rw [hY, Bool.false_and] at h1
    rw [h1]
    refine ⟨?_, fun q => ?_⟩
    · show X.1 = (Y.1 && _)
      rw [h1, hY]; rfl
    · have q2 : X.1 = true := q
      rw [h1] at q2; cases q2
  | true =>
    rw [hY, Bool.true_and] at h1
    cases hO : okp Y.2 a c with
    | false =>
      rw [hO] at h1
      rw [h1]
      refine ⟨?_, fun q => ?_⟩
      · show X.1 = ((stX 1 Y.2 x y).1 && okp (stX 1 Y.2 x y).2 a c)
        rw [st1_f hO, Bool.and_false, h1]
      · have q2 : X.1 = true := q
        rw [h1] at q2; cases q2
    | true =>
      rw [hO] at h1
      have hR := h2 h1
      rw [h1]
      show rlP a c (stX 1 X.2 x y) (stX 1 Y.2 x y)
      cases hx : nmB x with
      | true =>
        rw [stX_1 (by decide) hx, stX_1 (by decide) hx]
        have e1 : jnB X.2 x y = (jnB Y.2 x y && decide (a = x ↔ c = y)) := by
          unfold jnB
          rw [okp_rel hR]
          cases nmB x <;> cases nmB y <;> cases okp Y.2 x y <;> simp
        have e2 : (decide (a = x ↔ c = y)) = (decide (x = a ↔ y = c)) := decide_eq_decide.mpr ⟨fun q => ⟨fun r => (q.mp r.symm).symm, fun r => (q.mpr r.symm).symm⟩, fun q => ⟨fun r => (q.mp r.symm).symm, fun r => (q.mpr r.symm).symm⟩⟩
        cases hB : jnB Y.2 x y with
        | false =>
          rw [hB, Bool.false_and] at e1
          refine ⟨?_, fun q => ?_⟩
          · show jnB X.2 x y = (false && _)
            rw [e1, Bool.false_and]
          · have q2 : jnB X.2 x y = true := q
            rw [e1] at q2; cases q2
        | true =>
          rw [hB, Bool.true_and, e2] at e1
          have eY : jnL Y.2 x y = (x, y) :: Y.2 := by unfold jnL; rw [if_pos hB]
          refine ⟨?_, fun q => ?_⟩
          · show jnB X.2 x y = (true && okp (jnL Y.2 x y) a c)
            rw [e1, eY, okp_cons, hO, Bool.and_true, Bool.true_and]
          · have q2 : jnB X.2 x y = true := q
            intro r
            show r ∈ jnL X.2 x y ↔ (r = (a, c) ∨ r ∈ jnL Y.2 x y)
            rw [eY]
            unfold jnL
            rw [if_pos q2, List.mem_cons, List.mem_cons, hR r]
            exact ⟨fun k => by rcases k with k | k | k; exact Or.inr (Or.inl k); exact Or.inl k; exact Or.inr (Or.inr k), fun k => by rcases k with k | k | k; exact Or.inr (Or.inl k); exact Or.inl k; exact Or.inr (Or.inr k)⟩
      | false =>
        rw [stX_0 (Or.inr hx) (Or.inl (by decide)), stX_0 (Or.inr hx) (Or.inl (by decide))]
        refine ⟨?_, fun _ => hR⟩
        show decide (x = y) = (decide (x = y) && okp Y.2 a c)
        rw [hO, Bool.and_true]
