/-- what the class leaves out: the place (k, i) -/
def skF (k i : Nat) : Nat → Nat → Bool := fun kk pq => decide (nI pq = nI (k * 10 + i) - nI (kk * 10))
theorem rpN_ne {z g : Nat → Nat} {sl kk k op os : Nat} (h : kk ≠ k) (h1 : kk < 1000) (h2 : k < 1000) : rpN z g sl kk (nI k) op os = sgN z g sl := by
  funext p
  exact if_neg (fun q => nI_ne h1 h2 h q.1)
theorem ahead_eq {z g : Nat → Nat} (hz : ∀ j, z j ≤ 8) {v one other k0 i0 c : Nat} (hk0 : k0 ≤ 20) (hi0 : i0 < 8) : ∀ {n : Nat}, n ≤ k0 → rwM 1 z g v one other (nI k0) i0 c n = rwX 1 z g v one other (skF k0 i0) n
  | 0, _ => rfl
  | n + 1, h => by
    have ih := ahead_eq (g := g) hz (v := v) (one := one) (other := other) (c := c) hk0 hi0 (n := n) (by omega)
    have h8 := hz (v * 20 + (one + n))
    show (if _ then (if _ then _ else _) else _) = (if _ then lfX _ _ _ _ _ _ _ else _)
    rw [ih]
    by_cases q : (rwX 1 z g v one other (skF k0 i0) n).1 = true
    · rw [if_pos q, if_pos q]
      unfold lfX
      by_cases e : z (v * 20 + (one + n)) = z (v * 20 + (other + n))
      · rw [if_pos e, if_pos e.symm, rpN_ne (show n ≠ k0 by omega) (by omega) (by omega)]
        exact lnX_cong (fun p hp => ⟨rfl, rfl, by
          unfold skF
          rw [sk_at (by omega) (by omega) (by omega) (by omega), decide_eq_false (by omega)]⟩)
      · rw [if_neg e, if_neg (fun k => e k.symm)]
    · rw [if_neg q, if_neg q]
theorem rlP_no {a c : Nat} {X Y : Bool × List (Nat × Nat)} (h1 : X.1 = false) (h2 : Y.1 = false ∨ okp Y.2 a c = false) : rlP a c X Y := by
  refine ⟨?_, fun q => by rw [h1] at q; cases q⟩
  rw [h1]
  rcases h2 with h | h
  · rw [h]; rfl
  · rw [h, Bool.and_false]
theorem at_eq {z g : Nat → Nat} (hz : ∀ j, z j ≤ 8) {v one other k0 i0 c : Nat} (hk0 : k0 ≤ 20) (hi : i0 < z (v * 20 + (other + k0))) (ha : nmB (sgN z g (v * 20 + (one + k0)) i0) = true) (hc : nmB c = true) :
    rlP (sgN z g (v * 20 + (one + k0)) i0) c (rwM 1 z g v one other (nI k0) i0 c (k0 + 1)) (rwX 1 z g v one other (skF k0 i0) (k0 + 1)) := by
  have h7 := hz (v * 20 + (other + k0))
  have h8 := hz (v * 20 + (one + k0))
  have e0 := ahead_eq (g := g) hz (v := v) (one := one) (other := other) (c := c) hk0 (show i0 < 8 by omega) (Nat.le_refl k0)
  show rlP _ c (if _ then (if _ then _ else _) else _) (if _ then lfX _ _ _ _ _ _ _ else _)
  rw [e0]
  cases q : (rwX 1 z g v one other (skF k0 i0) k0).1 with
  | true =>
    rw [if_pos rfl, if_pos rfl]
    unfold lfX
    by_cases e : z (v * 20 + (one + k0)) = z (v * 20 + (other + k0))
    · rw [if_pos e, if_pos e.symm]
      have k := rl_in (fa := sgN z g (v * 20 + (one + k0))) (fb := sgN z g (v * 20 + (other + k0))) (fb2 := rpN z g (v * 20 + (other + k0)) k0 (nI k0) i0 c) (sk := skF k0 i0 k0) (L := (rwX 1 z g v one other (skF k0 i0) k0).2) (a := sgN z g (v * 20 + (one + k0)) i0) (c := c) (i0 := i0) (M := z (v * 20 + (one + k0)))
        (fun p hp => if_neg (fun r => hp r.2)) (if_pos ⟨rfl, rfl⟩) rfl ha hc (fun p hp => by
          unfold skF
          rw [sk_at (by omega) (by omega) (by omega) (by omega)]
          exact decide_eq_decide.mpr ⟨fun r => r.2, fun r => ⟨rfl, r⟩⟩) (z (v * 20 + (one + k0))) (Nat.le_refl _)
      exact k.2 (by omega)
    · rw [if_neg e, if_neg (fun k => e k.symm)]
      exact rlP_no rfl (Or.inl rfl)
  | false =>
    rw [if_neg (by decide), if_neg (by decide)]
    exact rlP_no q (Or.inl q)
theorem behind_eq {z g : Nat → Nat} (hz : ∀ j, z j ≤ 8) {v one other k0 i0 c : Nat} (hk0 : k0 ≤ 20) (hi : i0 < z (v * 20 + (other + k0))) (ha : nmB (sgN z g (v * 20 + (one + k0)) i0) = true) (hc : nmB c = true) :
    ∀ d, k0 + 1 + d ≤ 30 → rlP (sgN z g (v * 20 + (one + k0)) i0) c (rwM 1 z g v one other (nI k0) i0 c (k0 + 1 + d)) (rwX 1 z g v one other (skF k0 i0) (k0 + 1 + d))
  | 0, _ => at_eq hz hk0 hi ha hc
  | d + 1, hd => by
    have ih := behind_eq (g := g) hz (v := v) (one := one) (other := other) (c := c) hk0 hi ha hc d (by omega)
    have h7 := hz (v * 20 + (other + k0))
    show rlP (sgN z g (v * 20 + (one + k0)) i0) c (rwM 1 z g v one other (nI k0) i0 c ((k0 + 1 + d) + 1)) (rwX 1 z g v one other (skF k0 i0) ((k0 + 1 + d) + 1))
    generalize hn : k0 + 1 + d = n at *
    have h8 := hz (v * 20 + (one + n))
    show rlP _ c (if _ then (if _ then _ else _) else _) (if _ then lfX _ _ _ _ _ _ _ else _)
    rw [rpN_ne (show n ≠ k0 by omega) (by omega) (by omega)]
    have esk : ∀ L, lnX 1 (sgN z g (v * 20 + (one + n))) (sgN z g (v * 20 + (other + n))) (skF k0 i0 n) L (z (v * 20 + (one + n))) = lnX 1 (sgN z g (v * 20 + (one + n))) (sgN z g (v * 20 + (other + n))) (fun _ => false) L (z (v * 20 + (one + n))) := fun L => lnX_cong (fun p hp => ⟨rfl, rfl, by
      unfold skF
      rw [sk_at (by omega) (by omega) (by omega) (by omega), decide_eq_false (by omega)]⟩)
    unfold lfX
    rw [esk]
    generalize rwM 1 z g v one other (nI k0) i0 c n = X at *
    generalize rwX 1 z g v one other (skF k0 i0) n = Y at *
    obtain ⟨r1, r2⟩ := id ih
    cases hY : Y.1 with
    | false =>
      rw [hY, Bool.false_and] at r1
      rw [r1, if_neg (by decide), if_neg (by decide)]
      exact ih
    | true =>
      rw [hY, Bool.true_and] at r1
      rw [if_pos rfl]
      cases hO : okp Y.2 (sgN z g (v * 20 + (one + k0)) i0) c with
      | false =>
        rw [hO] at r1
        rw [r1, if_neg (by decide)]
        refine rlP_no r1 (Or.inr ?_)
        split
        · exact ln1_f hO _
        · exact hO
      | true =>
        rw [hO] at r1
        rw [r1, if_pos rfl]
        by_cases e : z (v * 20 + (one + n)) = z (v * 20 + (other + n))
        · rw [if_pos e, if_pos e.symm]
          exact rl_ln (r2 r1) hO _
        · rw [if_neg e, if_neg (fun k => e k.symm)]
          exact rlP_no rfl (Or.inl rfl)
/-- a place whose sign in the first row is no name is never mended by a name -/
theorem noname {z g : Nat → Nat} {v one other k0 i0 c n : Nat} (hi : i0 < z (v * 20 + (other + k0))) (ha : nmB (sgN z g (v * 20 + (one + k0)) i0) = false) (hc : nmB c = true) (hn : k0 < n) : (rwM 1 z g v one other (nI k0) i0 c n).1 = false := by
  cases h : (rwM 1 z g v one other (nI k0) i0 c n).1 with
  | false => rfl
  | true =>
    exfalso
    have h0 : (rwM 1 z g v one other (nI k0) i0 c k0).1 = true := by
      cases q : (rwM 1 z g v one other (nI k0) i0 c k0).1 with
      | true => rfl
      | false =>
        have := rwM_stop q (n - k0)
        rw [show k0 + (n - k0) = n by omega] at this
        rw [this, q] at h
        cases h
    have h1 : (rwM 1 z g v one other (nI k0) i0 c (k0 + 1)).1 = true := by
      cases q : (rwM 1 z g v one other (nI k0) i0 c (k0 + 1)).1 with
      | true => rfl
      | false =>
        rw [rwM_fail q hn] at h
        cases h
    by_cases e : z (v * 20 + (one + k0)) = z (v * 20 + (other + k0))
    · rw [rwM_s h0 e] at h1
      have k := lnX_pos1 h1 i0 (by omega) rfl ha
      have k2 : rpN z g (v * 20 + (other + k0)) k0 (nI k0) i0 c i0 = c := if_pos ⟨rfl, rfl⟩
      rw [k, k2, hc] at ha
      cases ha
    · rw [rwM_z h0 e] at h1
      cases h1
theorem eq_fm {z g : Nat → Nat} (hz : ∀ j, z j ≤ 8) {v nl one other n k i : Nat} (hn : n ≤ 20) (h1 : one + n ≤ nl) (h2 : other + n ≤ nl) (hk : k < n) (hi : i < z (v * 20 + (other + k))) : fmF z g v nl one other n k i = fgF z g v one other n k i := by
  have eb : g ((v * 20 + (other + k)) * 8 + i) = sgN z g (v * 20 + (other + k)) i := (sg_g hi).symm
  unfold fmF
  rw [eb]
  cases hb : nmB (sgN z g (v * 20 + (other + k)) i) with
  | false => rw [fmQ_n hb, fgF_f (Or.inr (Or.inl hb))]
  | true =>
    unfold fmQ
    rw [if_pos hb]
    have hm : ∀ c, rmB 1 z g v nl one other n (nI k) i c = (rwM 1 z g v one other (nI k) i c n).1 := fun c => by
      unfold rmB
      rw [decide_eq_true h1, decide_eq_true h2]
      rfl
    have hnm : ∀ d, d < 26 → nmB (97 + d) = true := fun d hd => nmB_iff.mpr (by omega)
    cases ha : nmB (sgN z g (v * 20 + (one + k)) i) with
    | false =>
      rw [fgF_f (Or.inl ha)]
      rcases fcN_spec (fun c => rmB 1 z g v nl one other n (nI k) i c) 26 with ⟨k1, -⟩ | ⟨d, k1, k2, k3, -⟩
      · exact k1
      · exfalso
        simp only [hm] at k3
        rw [noname hi ha (hnm d k1) hk] at k3
        cases k3
    | true =>
      have hR : ∀ d, d < 26 → rmB 1 z g v nl one other n (nI k) i (97 + d) = ((rwX 1 z g v one other (skF k i) n).1 && okp (rwX 1 z g v one other (skF k i) n).2 (sgN z g (v * 20 + (one + k)) i) (97 + d)) := fun d hd => by
        rw [hm]
        have := (behind_eq (g := g) hz (v := v) (one := one) (other := other) (k0 := k) (i0 := i) (c := 97 + d) (by omega) hi ha (hnm d hd) (n - (k + 1)) (by omega)).1
        rw [show k + 1 + (n - (k + 1)) = n by omega] at this
        exact this
      cases hY : (rwX 1 z g v one other (skF k i) n).1 with
      | false =>
        rw [fgF_f (Or.inr (Or.inr hY))]
        rcases fcN_spec (fun c => rmB 1 z g v nl one other n (nI k) i c) 26 with ⟨k1, -⟩ | ⟨d, k1, k2, k3, -⟩
        · exact k1
        · exfalso
          simp only [hR d k1, hY, Bool.false_and] at k3
          cases k3
      | true =>
        rw [fgF_t ha hb hY]
        exact ff_fc (gd_rw n) ha (fun d hd => by simp only [hR d hd, hY, Bool.true_and]; rfl)
theorem fgI_one {F G : Nat → Nat → Nat} {sz : Nat → Nat} {n p1 m1 p2 m2 : Nat} (hF : ∀ a b, a < n → b < sz a → F a b = G a b) (h1 : fgI F sz n 0 p1 m1) (h2 : fgI G sz n 0 p2 m2) (w : Int32) : foR p1 m1 w = foR p2 m2 w := by
  rcases h1 with ⟨e1, k1⟩ | ⟨e1, a1, b1, c1, d1, f1, g1, k1⟩ <;> rcases h2 with ⟨e2, k2⟩ | ⟨e2, a2, b2, c2, d2, f2, g2, k2⟩
  · rw [e1, e2]; rfl
  · exfalso
    have := k1 a2 b2 c2 d2
    rw [hF a2 b2 (by omega) d2, ← g2] at this
    exact e2 this
  · exfalso
    have := k2 a1 b1 c1 d1
    rw [← hF a1 b1 (by omega) d1, ← g1] at this
    exact e1 this
  · have n1 : ¬ (a1 < a2 ∨ (a1 = a2 ∧ b1 < b2)) := fun q => by
      have := k2 a1 b1 q d1
      rw [← hF a1 b1 (by omega) d1, ← g1] at this
      exact e1 this
    have n2 : ¬ (a2 < a1 ∨ (a2 = a1 ∧ b2 < b1)) := fun q => by
      have := k1 a2 b2 q d2
      rw [hF a2 b2 (by omega) d2, ← g2] at this
      exact e2 this
    have ea : a1 = a2 := by omega
    have eb : b1 = b2 := by omega
    subst ea; subst eb
    rw [f1, f2, g1, g2, hF a1 b1 (by omega) d1]
theorem eq_forgotten {nv nl : Nat} {z g : Nat → Nat} (hz : ∀ j, z j ≤ 8) {ve one oth n wh : Int32} {op os p1 m1 p2 m2 : Nat}
    (h1 : ixB ve nv = true → (arB one oth n && ixB wh 2) = true → (¬ okS z g (cN ve) nl (cN one) (cN oth) (cN n) → m1 = 0) ∧ (okS z g (cN ve) nl (cN one) (cN oth) (cN n) → fgI (fgF z g (cN ve) (cN one) (cN oth) (cN n)) (fun a => z (cN ve * 20 + (cN oth + a))) (cN n) 0 p1 m1))
    (h2 : ixB ve nv = true → (arB one oth n && ixB wh 2) = true → (¬ okM z g (cN ve) nl (cN one) (cN oth) (cN n) op os → m2 = 0) ∧ (okM z g (cN ve) nl (cN one) (cN oth) (cN n) op os → fgI (fmF z g (cN ve) nl (cN one) (cN oth) (cN n)) (fun a => z (cN ve * 20 + (cN oth + a))) (cN n) 0 p2 m2)) :
    rfQ nv ve (arB one oth n && ixB wh 2) (foR p1 m1 wh) = rfQ nv ve (arB one oth n && ixB wh 2) (foR p2 m2 wh) := by
  refine rfQ_cong (fun q1 q2 => ?_)
  have hn := arB_n (Bool.and_eq_true_iff.mp q2).1
  obtain ⟨a1, b1⟩ := h1 q1 q2
  obtain ⟨a2, b2⟩ := h2 q1 q2
  have e := eq_ok (g := g) hz (v := cN ve) (nl := nl) (one := cN one) (oth := cN oth) (n := cN n) (op := op) (os := os) (by omega)
  by_cases k : okS z g (cN ve) nl (cN one) (cN oth) (cN n)
  · have k2 := e.mpr k
    exact fgI_one (fun a b h3 h4 => (eq_fm hz (by omega) k2.2.1 k2.2.2.1 h3 h4).symm) (b1 k) (b2 k2) wh
  · rw [a1 k, a2 (fun q => k (e.mp q))]
    rfl
