theorem eq_ok {z g : Nat → Nat} (hz : ∀ j, z j ≤ 8) {v nl one oth n op os : Nat} (hn : n ≤ 30) : okM z g v nl one oth n op os ↔ okS z g v nl one oth n := by
  unfold okM okS adN
  rw [rmB_X hz hn]
  constructor
  · intro ⟨h1, h2, h3, h4⟩
    exact ⟨by split <;> omega, by omega, h4⟩
  · intro ⟨h1, h2, h3⟩
    refine ⟨?_, by omega, by omega, h3⟩
    split at h1 <;> omega
/-- the model's image n is the class's -/
def imR (im : Nat → Nat) (n nl nv : Nat) (z g : Nat → Nat) : Prop := im (722 * n) = nl ∧ im (722 * n + 1) = nv ∧ (∀ j, j < 80 → im (722 * n + 2 + j) = z j) ∧ ∀ j, j < 640 → im (722 * n + 82 + j) = g j
theorem imR_set {im : Nat → Nat} {nl nv : Nat} {z g z2 g2 : Nat → Nat} {n : Nat} : imR (imF im nl nv z g n) n nl nv (cpN z z2 0 0 80) (cpN g g2 0 0 640) := by
  unfold imR imF cpN
  refine ⟨?_, ?_, fun j hj => ?_, fun j hj => ?_⟩
  · rw [if_neg (by omega), if_neg (by omega), upN_ne (by omega), upN_s]
  · rw [if_neg (by omega), if_neg (by omega), upN_s]
  · rw [if_neg (by omega), if_pos (by omega), if_pos (by omega)]
    congr 1; omega
  · rw [if_pos (by omega), if_pos (by omega)]
    congr 1; omega
theorem imR_other {im : Nat → Nat} {nl nv nl2 nv2 : Nat} {z g z2 g2 : Nat → Nat} {n k : Nat} (hk : k ≠ n) (h : imR im k nl2 nv2 z2 g2) : imR (imF im nl nv z g n) k nl2 nv2 z2 g2 := by
  have e : ∀ q, 722 * k ≤ q → q < 722 * k + 722 → imF im nl nv z g n q = im q := by
    intro q h1 h2
    unfold imF cpN
    rw [if_neg (by omega), if_neg (by omega), upN_ne (by omega), upN_ne (by omega)]
  obtain ⟨h1, h2, h3, h4⟩ := h
  exact ⟨by rw [e _ (by omega) (by omega)]; exact h1, by rw [e _ (by omega) (by omega)]; exact h2, fun j hj => by rw [e _ (by omega) (by omega)]; exact h3 j hj, fun j hj => by rw [e _ (by omega) (by omega)]; exact h4 j hj⟩
theorem imR_get {im : Nat → Nat} {nl2 nv2 : Nat} {z g z2 g2 : Nat → Nat} {n : Nat} (h : imR im n nl2 nv2 z2 g2) : (im (722 * n), im (722 * n + 1), cpN im z (722 * n + 2) 0 80, cpN im g (722 * n + 82) 0 640) = (nl2, nv2, cpN z2 z 0 0 80, cpN g2 g 0 0 640) := by
  have e1 : cpN im z (722 * n + 2) 0 80 = cpN z2 z 0 0 80 := by
    funext j
    unfold cpN
    by_cases q : 0 ≤ j ∧ j < 0 + 80
    · rw [if_pos q, if_pos q, h.2.2.1 (j - 0) (by omega)]
      congr 1; omega
    · rw [if_neg q, if_neg q]
  have e2 : cpN im g (722 * n + 82) 0 640 = cpN g2 g 0 0 640 := by
    funext j
    unfold cpN
    by_cases q : 0 ≤ j ∧ j < 0 + 640
    · rw [if_pos q, if_pos q, h.2.2.2 (j - 0) (by omega)]
      congr 1; omega
    · rw [if_neg q, if_neg q]
  rw [h.1, h.2.1, e1, e2]
