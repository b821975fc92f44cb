theorem mx_iff {f : Nat → Nat} {b : Nat} : ∀ {n : Nat}, mxI f n ≤ b ↔ ∀ j, j < n → f j ≤ b
  | 0 => ⟨fun _ j hj => absurd hj (Nat.not_lt_zero j), fun _ => Nat.zero_le _⟩
  | n + 1 => by
    have ih := mx_iff (f := f) (b := b) (n := n)
    have e : mxI f (n + 1) = max (mxI f n) (f n) := rfl
    rw [e, Nat.max_le, ih]
    exact ⟨fun h j hj => by by_cases q : j = n; rw [q]; exact h.2; exact h.1 j (by omega), fun h => ⟨fun j hj => h j (by omega), h n (by omega)⟩⟩
theorem pr_sym {f h : Nat → Nat} {i j : Nat} : prF f h i j = prF f h j i := by
  unfold prF
  rw [Nat.and_comm, Nat.add_comm]
theorem bs_take {L : List (Nat × Nat × Nat × Nat)} : ∀ k, k ≤ L.length → (bsF (L.take k)).1 = mxI (laF L) k
  | 0, _ => by simp [bsF, mxI]
  | k + 1, hk => by
    have ih := bs_take (L := L) k (by omega)
    have hx : L[k]? = some L[k] := List.getElem?_eq_getElem (by omega)
    have e : laF L k = L[k].1 := by unfold laF; rw [List.getD_eq_getElem?_getD, hx]; rfl
    rw [bsF_take hx]
    show _ = max (mxI (laF L) k) (laF L k)
    rw [e, ← ih]
    split
    · show L[k].1 = _
      omega
    · omega
theorem eq_tw (L : List (Nat × Nat × Nat × Nat)) : twQ L = twN L := by
  have h0 := bs_take (L := L) L.length (Nat.le_refl _)
  rw [List.take_length] at h0
  have key : ∀ b, twQ L ≤ b ↔ twN L ≤ b := by
    intro b
    unfold twQ twN
    rw [h0, Nat.max_le, mx_iff, mx_iff, mx_iff]
    constructor
    · intro h
      refine ⟨fun j hj => (Nat.max_le.mp (h j hj)).1, fun i hi => mx_iff.mpr (fun j hj => ?_)⟩
      split
      · rename_i q
        rw [pr_sym]
        exact mx_iff.mp (Nat.max_le.mp (h j hj)).2 i q
      · exact Nat.zero_le _
    · intro h k hk
      refine Nat.max_le.mpr ⟨h.1 k hk, mx_iff.mpr (fun j hj => ?_)⟩
      have q := mx_iff.mp (h.2 j (by omega)) k hk
      rw [if_pos hj] at q
      rw [pr_sym]
      exact q
  exact Nat.le_antisymm ((key _).mpr (Nat.le_refl _)) ((key _).mp (Nat.le_refl _))
