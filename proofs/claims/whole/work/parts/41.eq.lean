theorem eq_whole {nv nl : Nat} {z g : Nat → Nat} (hz : ∀ j, z j ≤ 8) (hnl : nl ≤ 20) {ve way sta n : Int32} {op os : Nat} :
    rfQ nv ve (ixB way 3 && ixB sta 20 && lnB n) (whQ (mkN (fun k => rmB (cN way) z g (cN ve) nl (cN sta) k (cN n) (-6) op os) (nl + 1 - (cN n)))
      (mkN (fun k => rmB (cN way) z g (cN ve) nl (lsN (mkN (fun k => rmB (cN way) z g (cN ve) nl (cN sta) k (cN n) (-6) op os) (nl + 1 - (cN n)))) k (cN n + 1) (-6) op os) (nl + 1 - (cN n + 1)))
      (mkN (fun k => rmB (cN way) z g (cN ve) nl (lsN (mkN (fun k => rmB (cN way) z g (cN ve) nl (cN sta) k (cN n) (-6) op os) (nl + 1 - (cN n))) - 1) k (cN n + 1) (-6) op os) (nl + 1 - (cN n + 1))))
    = rfQ nv ve (ixB way 3 && ixB sta 20 && lnB n) (whR (rcC (cN way) z g (cN ve) nl) nl (cN sta) (cN n)) := by
  refine rfQ_cong (fun _ h => ?_)
  have h2 := lnB_cN (Bool.and_eq_true_iff.mp h).2
  rw [sl_M hz hnl h2.2.1 (by omega), sl_M hz hnl (by omega) (by omega), sl_M hz hnl (by omega) (by omega)]
  unfold whQ whR wlB
  simp only [decide_eq_true_eq]
def tkP (gr n j : Nat) : Bool := gr.testBit j && decide ((tkF gr n j).2.1 ≤ j)
theorem tk_bits (gr n : Nat) : ∀ k, (tkF gr n k).1 = mkN (tkP gr n) k ∧ (tkF gr n k).2.2.2 = fb_ct (tkP gr n) k
  | 0 => ⟨rfl, rfl⟩
  | k + 1 => by
    have ih := tk_bits gr n k
    rw [fb_ct_succ]
    by_cases h : gr.testBit k = true ∧ (tkF gr n k).2.1 ≤ k
    · have e : tkP gr n k = true := by unfold tkP; rw [h.1, decide_eq_true h.2]; rfl
      rw [tkF_t h.1 h.2]
      refine ⟨?_, ?_⟩
      · show (tkF gr n k).1 ||| 2 ^ k = _
        rw [ih.1]; exact mkN_t e
      · show (tkF gr n k).2.2.2 + 1 = _
        rw [ih.2]; simp [e]
    · have e : tkP gr n k = false := by
        unfold tkP
        cases q : gr.testBit k with
        | false => rfl
        | true => exact decide_eq_false (fun r => h ⟨q, r⟩)
      rw [tkF_f h]
      refine ⟨?_, ?_⟩
      · rw [ih.1]; exact mkN_f e
      · rw [ih.2]; simp [e]
theorem ct_cong {p q : Nat → Bool} : ∀ {n : Nat}, (∀ j, j < n → p j = q j) → fb_ct p n = fb_ct q n
  | 0, _ => rfl
  | n + 1, h => by rw [fb_ct_succ, fb_ct_succ, ct_cong (fun j hj => h j (by omega)), h n (by omega)]
theorem ct_top {p : Nat → Bool} {n : Nat} : ∀ d, (∀ j, n ≤ j → p j = false) → fb_ct p (n + d) = fb_ct p n
  | 0, _ => rfl
  | d + 1, h => by
    rw [← Nat.add_assoc, fb_ct_succ, ct_top d h]
    simp [h (n + d) (by omega)]
theorem tk_count {gr n k : Nat} (hk : k ≤ 20) : bcN (tkF gr n k).1 = (tkF gr n k).2.2.2 := by
  rw [(tk_bits gr n k).1, (tk_bits gr n k).2]
  unfold bcN
  have e := ct_top (p := fun j => (mkN (tkP gr n) k).testBit j) (n := k) (20 - k) (fun j hj => by show Nat.testBit _ _ = _; rw [mkN_bit, decide_eq_false (by omega)]; rfl)
  rw [show k + (20 - k) = 20 by omega] at e
  rw [e]
  refine ct_cong (fun j hj => ?_)
  rw [mkN_bit, decide_eq_true hj, Bool.true_and]
theorem tk_20 {rc : Nat → Nat} {nl s n : Nat} (hnl : nl ≤ 20) : tkF (slN rc nl s n) n 20 = tkF (slN rc nl s n) n nl := by
  have e := tkF_top (gr := slN rc nl s n) (n := n) (nl := nl) (mkN_lt _ _) (20 - nl)
  rw [show nl + (20 - nl) = 20 by omega] at e
  exact e
