theorem sl_rw {way : Nat} {z g : Nat → Nat} {v nl s n t : Nat} (hnl : nl ≤ 20) (hn : 1 ≤ n) (ht : (slN (rcC way z g v nl) nl s n).testBit t = true) : t < nl ∧ (rwX way z g v s t skn n).1 = true ∧ (rwX way z g v t s skn n).1 = true := by
  have h2 := ht
  unfold slN at h2
  rw [mkN_bit, Bool.and_eq_true, decide_eq_true_iff, decide_eq_true_iff] at h2
  have he := slN_end (rcC_ok hnl) hn ht
  have h3 := h2.2
  unfold rcN at h3
  rw [if_pos ⟨by omega, h2.1⟩, rcC_ok hnl s t (by omega) h2.1] at h3
  have h4 := rT_raB (way := way) (z := z) (g := g) (v := v) (nl := nl) (i := s) (j := t) (n := n) (by omega) h2.1 hn
  rw [decide_eq_true h3] at h4
  have h5 : (rwX way z g v s t skn n).1 = true := by
    have := h4.symm
    unfold raB at this
    exact (Bool.and_eq_true_iff.mp this).2
  exact ⟨h2.1, h5, by rw [(rwX_sw (way := way) (z := z) (g := g) (v := v) (one := s) (other := t) (sk := skn) n).1]; exact h5⟩
theorem skn_f {k p : Nat} (h : p < 1000) : skn k p = false := decide_eq_false (nI_nm1 h)
theorem tkA_of {way : Nat} {z g : Nat → Nat} (hz : ∀ j, z j ≤ 8) {v nl s n : Nat} (hnl : nl ≤ 20) (hn : 1 ≤ n) : tkA z g v (tkF (slN (rcC way z g v nl) nl s n) n nl).1 nl n := by
  intro t ht
  obtain ⟨h1, h2, h3⟩ := sl_rw hnl hn (tk_sub ht)
  have hl := ls_lt ⟨t, by omega, ht⟩
  obtain ⟨l1, l2, l3⟩ := sl_rw hnl hn (tk_sub hl.2)
  refine ⟨h1, fun line hline => ?_⟩
  have a1 := rwX_pos h2 line hline
  have a2 := rwX_pos l3 line hline
  have a3 := rwX_pos l2 line hline
  refine ⟨by unfold szT; rw [a1.1, a3.1], fun p hp e1 e2 => ?_⟩
  have hp2 : p < z (v * 20 + (lsN (tkF (slN (rcC way z g v nl) nl s n) n nl).1 + line)) := hp
  have hz2 := hz (v * 20 + (lsN (tkF (slN (rcC way z g v nl) nl s n) n nl).1 + line))
  have b2 := a2.2 p hp2 (skn_f (by omega)) (by rw [rg_sg hp2]; exact e1) (by rw [rg_sg hp2]; exact e2)
  have b1 := a1.2 p (by rw [← a3.1]; exact hp2) (skn_f (by omega)) (by rw [← b2, rg_sg hp2]; exact e1) (by rw [← b2, rg_sg hp2]; exact e2)
  rw [← b2, rg_sg hp2, rg_sg (by rw [a1.1, ← a3.1]; exact hp2)] at b1
  exact b1.symm
theorem td_sum {way : Nat} {z g : Nat → Nat} (hz : ∀ j, z j ≤ 8) {v nl s n : Nat} (hnl : nl ≤ 20) (hn : 1 ≤ n) : fb_ct (tdQ z g v (tkF (slN (rcC way z g v nl) nl s n) n nl).1 nl) (8 * n) = toN z g v nl (rcC way z g v nl) s n := by
  unfold toN tdN
  rw [tk_20 hnl]
  exact ct_cong (fun a ha => eq_td hnl (tkA_of hz hnl hn) ha)
theorem sv_eq {way : Nat} {z g : Nat → Nat} (hz : ∀ j, z j ≤ 8) {v nl s n : Nat} (hnl : nl ≤ 20) (hn : 1 ≤ n) (hn2 : n ≤ 20) : svM (bcN (tkF (slN (rcC way z g v nl) nl s n) n nl).1) n (toN z g v nl (rcC way z g v nl) s n) = svI (tkF (slN (rcC way z g v nl) nl s n) n nl).2.2.2 n (toN z g v nl (rcC way z g v nl) s n) := by
  have h1 := bcN_le (tkF (slN (rcC way z g v nl) nl s n) n nl).1
  have h2 : bcN (tkF (slN (rcC way z g v nl) nl s n) n nl).1 * n ≤ 20 * 20 := Nat.mul_le_mul h1 hn2
  have h3 := tdN_le z g v (tkF (slN (rcC way z g v nl) nl s n) n 20).1 n
  rw [svM_I h1 hn2 h2 (by unfold toN; omega), tk_count hnl]
theorem eq_pulled {nv nl : Nat} {z g : Nat → Nat} (hz : ∀ j, z j ≤ 8) (hnl : nl ≤ 20) {ve way sta n wh : Int32} {op os : Nat} :
    plQ nv ve (ixB way 3 && ixB sta 20 && lnB n && ixB wh 3) (plR (bcN (tkF (mkN (fun k => rmB (cN way) z g (cN ve) nl (cN sta) k (cN n) (-6) op os) (nl + 1 - (cN n))) (cN n) nl).1) (tkF (mkN (fun k => rmB (cN way) z g (cN ve) nl (cN sta) k (cN n) (-6) op os) (nl + 1 - (cN n))) (cN n) nl).1 (fb_ct (tdQ z g (cN ve) ((tkF (mkN (fun k => rmB (cN way) z g (cN ve) nl (cN sta) k (cN n) (-6) op os) (nl + 1 - (cN n))) (cN n) nl).1) nl) (8 * cN n)) (svM (bcN (tkF (mkN (fun k => rmB (cN way) z g (cN ve) nl (cN sta) k (cN n) (-6) op os) (nl + 1 - (cN n))) (cN n) nl).1) (cN n) (fb_ct (tdQ z g (cN ve) ((tkF (mkN (fun k => rmB (cN way) z g (cN ve) nl (cN sta) k (cN n) (-6) op os) (nl + 1 - (cN n))) (cN n) nl).1) nl) (8 * cN n))) wh)
    = plQ nv ve (ixB way 3 && ixB sta 20 && lnB n && ixB wh 3) (plR (tkF (slN (rcC (cN way) z g (cN ve) nl) nl (cN sta) (cN n)) (cN n) 20).2.2.2 (tkF (slN (rcC (cN way) z g (cN ve) nl) nl (cN sta) (cN n)) (cN n) 20).1 (toN z g (cN ve) nl (rcC (cN way) z g (cN ve) nl) (cN sta) (cN n)) (svI (tkF (slN (rcC (cN way) z g (cN ve) nl) nl (cN sta) (cN n)) (cN n) 20).2.2.2 (cN n) (toN z g (cN ve) nl (rcC (cN way) z g (cN ve) nl) (cN sta) (cN n))) wh) := by
  unfold plQ
  split
  · split
    · rename_i h
      have h2 := lnB_cN (Bool.and_eq_true_iff.mp (Bool.and_eq_true_iff.mp h).1).2
      rw [sl_M hz hnl h2.2.1 (by omega), td_sum hz hnl h2.2.1, sv_eq hz hnl h2.2.1 h2.2.2, tk_count hnl, tk_20 hnl]
    · rfl
  · rfl
