theorem ct_mono {p q : Nat → Bool} (h : ∀ j, p j = true → q j = true) : ∀ n, fb_ct p n ≤ fb_ct q n
  | 0 => Nat.le_refl _
  | n + 1 => by
    have ih := ct_mono h n
    rw [fb_ct_succ, fb_ct_succ]
    cases e : p n with
    | false => simp; omega
    | true => simp [h n e]; omega
theorem tk_room2 {gr n m : Nat} (hg : ∀ t, gr.testBit t = true → t + n ≤ m) : ∀ k, (tkF gr n k).2.2.2 * n ≤ (tkF gr n k).2.1 ∧ (tkF gr n k).2.1 ≤ m
  | 0 => ⟨Nat.le_of_eq (Nat.zero_mul n), Nat.zero_le _⟩
  | k + 1 => by
    have ih := tk_room2 hg k
    by_cases h : gr.testBit k = true ∧ (tkF gr n k).2.1 ≤ k
    · rw [tkF_t h.1 h.2]
      have := hg k h.1
      refine ⟨?_, this⟩
      show ((tkF gr n k).2.2.2 + 1) * n ≤ k + n
      rw [Nat.add_mul, Nat.one_mul]
      omega
    · rw [tkF_f h]; exact ih
theorem sv_small {ct n td : Nat} (h1 : ct ≤ 1) (h2 : n ≤ 20) (h4 : td ≤ 160) : svI ct n td ≤ 0 := by
  have h3 : ct * n ≤ 1 * n := Nat.mul_le_mul_right n h1
  rw [← svM_I (by omega) h2 (by omega) h4, fa_le, svM_int (by omega) h2 (by omega) h4, tI0]
  omega
theorem toN_le {z g : Nat → Nat} {v nl : Nat} {rc : Nat → Nat} {s n : Nat} (h : n ≤ 20) : toN z g v nl rc s n ≤ 160 := by
  have := tdN_le z g v (tkF (slN rc nl s n) n 20).1 n
  unfold toN
  omega
theorem mc_cv {way : Nat} {z g : Nat → Nat} (hz : ∀ j, z j ≤ 8) {v nl s n op os : Nat} (hnl : nl ≤ 20) (hn : 1 ≤ n) (hn2 : n ≤ 20) : mcO z g v nl (mkN (fun k => rmB way z g v nl s k n (-6) op os) (nl + 1 - n)) n s = cvO z g v nl (rcC way z g v nl) n s := by
  rw [sl_M hz hnl hn (by omega)]
  have eT : mcT z g v nl (slN (rcC way z g v nl) nl s n) n = cvI z g v nl (rcC way z g v nl) s n := by
    unfold mcT cvI
    rw [td_sum hz hnl hn, sv_eq hz hnl hn hn2, tk_20 hnl]
  have eL : lnM (tkF (slN (rcC way z g v nl) nl s n) n nl).1 n = cvL nl (rcC way z g v nl) s n := by
    unfold cvL
    rw [tk_20 hnl, lnM_tk]
  unfold mcO cvO
  rw [eT, eL]
  by_cases h : cvI z g v nl (rcC way z g v nl) s n ≤ 0
  · rw [if_neg (fun q => q.2.2 h), cdL_t h]
    split <;> rfl
  · rw [cdL_f h]
    have h2 : 2 ≤ (tkF (slN (rcC way z g v nl) nl s n) n nl).2.2.2 := by
      rcases Nat.lt_or_ge (tkF (slN (rcC way z g v nl) nl s n) n nl).2.2.2 2 with q | q
      · exact absurd (by unfold cvI; rw [tk_20 hnl]; exact sv_small (by omega) hn2 (toN_le hn2)) h
      · exact q
    have h3 := tk_count (gr := slN (rcC way z g v nl) nl s n) (n := n) (k := nl) hnl
    have h4 : bcN (tkF (slN (rcC way z g v nl) nl s n) n nl).1 ≤ bcN (slN (rcC way z g v nl) nl s n) := ct_mono (fun j hj => tk_sub hj) 20
    unfold lgB
    by_cases h5 : lsN (slN (rcC way z g v nl) nl s n) = s
    · rw [if_pos ⟨h5, by omega, h⟩, if_pos (decide_eq_true ⟨by omega, h5⟩)]
    · rw [if_neg (fun q => h5 q.1), if_neg (fun q => h5 (of_decide_eq_true q).2)]
theorem cv_nil {way : Nat} {z g : Nat → Nat} {v nl s n : Nat} (hnl : nl ≤ 20) (hn : nl / 2 < n) (hn2 : n ≤ 20) : cvO z g v nl (rcC way z g v nl) n s = [] := by
  have h1 := tk_room2 (gr := slN (rcC way z g v nl) nl s n) (n := n) (m := nl) (fun t ht => (slN_end (rcC_ok hnl) (by omega) ht).1) 20
  have h2 : (tkF (slN (rcC way z g v nl) nl s n) n 20).2.2.2 ≤ 1 := by
    rcases Nat.lt_or_ge (tkF (slN (rcC way z g v nl) nl s n) n 20).2.2.2 2 with q | q
    · omega
    · have : 2 * n ≤ (tkF (slN (rcC way z g v nl) nl s n) n 20).2.2.2 * n := Nat.mul_le_mul_right n q
      omega
  unfold cvO
  rw [cdL_t (by unfold cvI; exact sv_small h2 hn2 (toN_le hn2))]
  split <;> rfl
theorem rowL_cong {F G : Nat → List (Nat × Nat × Nat × Nat)} (h : ∀ s, F s = G s) : ∀ n, rowL F n = rowL G n
  | 0 => rfl
  | n + 1 => by show rowL F n ++ F n = rowL G n ++ G n; rw [rowL_cong h n, h n]
theorem rowL_nil {F : Nat → List (Nat × Nat × Nat × Nat)} (h : ∀ s, F s = []) : ∀ n, rowL F n = []
  | 0 => rfl
  | n + 1 => by show rowL F n ++ F n = []; rw [rowL_nil h n, h n]; rfl
theorem allL_cong {F G : Nat → Nat → List (Nat × Nat × Nat × Nat)} {nl : Nat} : ∀ n, (∀ m s, 1 ≤ m → m ≤ n → F m s = G m s) → allL F nl n = allL G nl n
  | 0, _ => rfl
  | n + 1, h => by
    show allL F nl n ++ rowL (F (n + 1)) (nl - n) = allL G nl n ++ rowL (G (n + 1)) (nl - n)
    rw [allL_cong n (fun m s h1 h2 => h m s h1 (by omega)), rowL_cong (fun s => h (n + 1) s (by omega) (by omega))]
theorem allL_top {F : Nat → Nat → List (Nat × Nat × Nat × Nat)} {nl n : Nat} : ∀ d, (∀ m s, n < m → m ≤ n + d → F m s = []) → allL F nl (n + d) = allL F nl n
  | 0, _ => rfl
  | d + 1, h => by
    show allL F nl (n + d) ++ rowL (F (n + d + 1)) (nl - (n + d)) = _
    rw [allL_top d (fun m s h1 h2 => h m s h1 (by omega)), rowL_nil (fun s => h (n + d + 1) s (by omega) (by omega)), List.append_nil]
theorem eq_all {way : Nat} {z g : Nat → Nat} (hz : ∀ j, z j ≤ 8) {v nl op os : Nat} (hnl : nl ≤ 20) : allL (fun n w => mcO z g v nl (mkN (fun k => rmB way z g v nl w k n (-6) op os) (nl + 1 - n)) n w) nl (nl / 2) = allL (cvO z g v nl (rcC way z g v nl)) nl nl := by
  rw [allL_cong (nl / 2) (G := cvO z g v nl (rcC way z g v nl)) (fun m s h1 h2 => mc_cv hz hnl h1 (by omega))]
  have e := allL_top (F := cvO z g v nl (rcC way z g v nl)) (nl := nl) (n := nl / 2) (nl - nl / 2) (fun m s h1 h2 => cv_nil hnl h1 (by omega))
  rw [show nl / 2 + (nl - nl / 2) = nl by omega] at e
  exact e.symm
