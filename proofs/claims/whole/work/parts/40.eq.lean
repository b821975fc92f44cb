theorem rfQ_cong {nv : Nat} {v : Int32} {ins : Bool} {X Y : Int32} (h : ixB v nv = true → ins = true → X = Y) : rfQ nv v ins X = rfQ nv v ins Y := by
  unfold rfQ
  split
  · rename_i h1
    split
    · rename_i h2
      exact h h1 h2
    · rfl
  · rfl
theorem arB_n {one oth n : Int32} (h : arB one oth n = true) : 1 ≤ cN n ∧ cN n ≤ 20 := (lnB_cN (arB_iff.mp h).2.2).2
theorem eq_alike {nv nl : Nat} {z g : Nat → Nat} (hz : ∀ j, z j ≤ 8) {ve way one oth n : Int32} {op os : Nat} :
    rfQ nv ve (ixB way 3 && arB one oth n) (bI (rmB (cN way) z g (cN ve) nl (cN one) (cN oth) (cN n) (-6) op os)) = rfQ nv ve (ixB way 3 && arB one oth n) (bI (raB (cN way) z g (cN ve) nl (cN one) (cN oth) (cN n))) := by
  refine rfQ_cong (fun _ h => ?_)
  have h2 := arB_n (Bool.and_eq_true_iff.mp h).2
  rw [rmB_X hz (by omega)]
theorem eq_like {nv nl : Nat} {z g : Nat → Nat} (hz : ∀ j, z j ≤ 8) (hnl : nl ≤ 20) {ve way sta n : Int32} {op os : Nat} :
    rfQ nv ve (ixB way 3 && ixB sta 20 && lnB n) (nI (mkN (fun k => rmB (cN way) z g (cN ve) nl (cN sta) k (cN n) (-6) op os) (nl + 1 - cN n))) = rfQ nv ve (ixB way 3 && ixB sta 20 && lnB n) (nI (slN (rcC (cN way) z g (cN ve) nl) nl (cN sta) (cN n))) := by
  refine rfQ_cong (fun _ h => ?_)
  have h2 := lnB_cN (Bool.and_eq_true_iff.mp h).2
  rw [sl_M hz hnl h2.2.1 (by omega)]
theorem grF_cut {p : Nat → Bool} {i : Int32} : ∀ {d e s c : Nat}, (∀ t, s + d ≤ t → t < s + d + e → p t = false) → grF p i (d + e) s c = grF p i d s c
  | 0, 0, s, c, _ => rfl
  | 0, e + 1, s, c, h => by
    rw [Nat.zero_add, grF_f (h s (by omega) (by omega))]
    have ih := grF_cut (p := p) (i := i) (d := 0) (e := e) (s := s + 1) (c := c) (fun t h1 h2 => h t (by omega) (by omega))
    rw [Nat.zero_add] at ih
    rw [ih]
    rfl
  | d + 1, e, s, c, h => by
    rw [show d + 1 + e = (d + e) + 1 by omega]
    by_cases h1 : p s = true
    · by_cases h2 : nI c = i
      · rw [grF_t h1 h2, grF_t h1 h2]
      · rw [grF_n h1 h2, grF_n h1 h2]
        exact grF_cut (fun t h3 h4 => h t (by omega) (by omega))
    · have h1 : p s = false := by cases hq : p s with | false => rfl | true => exact absurd hq h1
      rw [grF_f h1, grF_f h1]
      exact grF_cut (fun t h3 h4 => h t (by omega) (by omega))
theorem bc_some {x : Nat} (h : 1 ≤ bcN x) : ∃ t, t < 20 ∧ x.testBit t = true := by
  by_cases q : ∃ t, t < 20 ∧ x.testBit t = true
  · exact q
  · exfalso
    have e : ∀ n, n ≤ 20 → fb_ct (fun k => x.testBit k) n = 0 := by
      intro n
      induction n with
      | zero => intro _; rfl
      | succ n ih =>
        intro hn
        rw [fb_ct_succ, ih (by omega)]
        have : x.testBit n = false := by
          cases hb : x.testBit n with
          | false => rfl
          | true => exact absurd ⟨n, by omega, hb⟩ q
        simp [this]
    have e2 : bcN x = 0 := e 20 (Nat.le_refl _)
    omega
theorem lgB_end {way : Nat} {z g : Nat → Nat} {v nl w n : Nat} (hnl : nl ≤ 20) (hn : 1 ≤ n) (h : nl < w + n) : lgB (rcC way z g v nl) nl w n = false := by
  unfold lgB
  refine decide_eq_false (fun q => ?_)
  obtain ⟨t, -, ht⟩ := bc_some (show 1 ≤ bcN _ from Nat.le_trans (by decide) q.1)
  have := slN_end (rcC_ok hnl) hn ht
  omega
theorem eq_groups {nv nl : Nat} {z g : Nat → Nat} (hz : ∀ j, z j ≤ 8) (hnl : nl ≤ 20) {ve way n gi : Int32} {op os : Nat} :
    rfQ nv ve (ixB way 3 && lnB n) (grF (fun w => decide (2 ≤ bcN (mkN (fun k => rmB (cN way) z g (cN ve) nl w k (cN n) (-6) op os) (nl + 1 - (cN n))) ∧ lsN (mkN (fun k => rmB (cN way) z g (cN ve) nl w k (cN n) (-6) op os) (nl + 1 - (cN n))) = w)) gi (nl + 1 - cN n) 0 0)
    = rfQ nv ve (ixB way 3 && lnB n) (grF (fun w => lgB (rcC (cN way) z g (cN ve) nl) nl w (cN n)) gi nl 0 0) := by
  refine rfQ_cong (fun _ h => ?_)
  have h2 := lnB_cN (Bool.and_eq_true_iff.mp h).2
  have e : (fun w => decide (2 ≤ bcN (mkN (fun k => rmB (cN way) z g (cN ve) nl w k (cN n) (-6) op os) (nl + 1 - (cN n))) ∧ lsN (mkN (fun k => rmB (cN way) z g (cN ve) nl w k (cN n) (-6) op os) (nl + 1 - (cN n))) = w)) = (fun w => lgB (rcC (cN way) z g (cN ve) nl) nl w (cN n)) := by
    funext w
    rw [sl_M hz hnl h2.2.1 (by omega)]
    rfl
  rw [e]
  have hd : nl + 1 - cN n + (nl - (nl + 1 - cN n)) = nl := by omega
  have q := grF_cut (p := fun w => lgB (rcC (cN way) z g (cN ve) nl) nl w (cN n)) (i := gi) (d := nl + 1 - cN n) (e := nl - (nl + 1 - cN n)) (s := 0) (c := 0) (fun t h3 h4 => lgB_end hnl h2.2.1 (by omega))
  rw [hd] at q
  exact q.symm
theorem eq_parted {nl nv : Nat} {z g : Nat → Nat} (hz : ∀ j, z j ≤ 8) {way one oth n : Int32} {op os : Nat} :
    paR (ixB way 3 && arB one oth n) (ptF (fun w => rmB (cN way) z g w nl (cN one) (cN oth) (cN n) (-6) op os) nv 0 false) = paR (ixB way 3 && arB one oth n) (ptF (fun w => raB (cN way) z g w nl (cN one) (cN oth) (cN n)) nv 0 false) := by
  unfold paR
  split
  · rename_i h
    have h2 := arB_n (Bool.and_eq_true_iff.mp h).2
    have e : (fun w => rmB (cN way) z g w nl (cN one) (cN oth) (cN n) (-6) op os) = (fun w => raB (cN way) z g w nl (cN one) (cN oth) (cN n)) := by
      funext w
      rw [rmB_X hz (by omega)]
    rw [e]
  · rfl
theorem eq_mq {z g : Nat → Nat} (hz : ∀ j, z j ≤ 8) {v nl one oth n op os : Nat} (hn : n ≤ 30) : mqN z g v nl one oth n (-6) op os = msN z g v nl one oth n := by
  unfold mqN msN
  rw [rmB_X hz hn]
theorem eq_md {z g : Nat → Nat} (hz : ∀ j, z j ≤ 8) {v nl one oth n k op os : Nat} {i : Int32} (hn : n ≤ 30) : mdQ z g v nl one oth n k i (-6) op os = mdR z g v nl one oth n k i := by
  unfold mdQ mdR
  rw [rmB_X hz hn, rwM_X hz hn]
theorem lgV_iff {way : Nat} {z g : Nat → Nat} {v nl a b m : Nat} (hnl : nl ≤ 20) (hab : a < b) (hb : b < nl) (hm : 1 ≤ m) : m ≤ lgV (rcC way z g v nl) nl a b ↔ a + m ≤ b ∧ raB way z g v nl a b m = true := by
  have e := rT_raB (way := way) (z := z) (g := g) (v := v) (nl := nl) (i := a) (j := b) (n := m) (by omega) hb hm
  unfold lgV rcN
  rw [if_pos ⟨by omega, hb⟩, rcC_ok hnl a b (by omega) hb, ← e, decide_eq_true_iff]
  omega
theorem raB_end {way : Nat} {z g : Nat → Nat} {v nl a b m : Nat} (h : raB way z g v nl a b m = true) : max a b + m ≤ nl := by
  unfold raB at h
  exact of_decide_eq_true (Bool.and_eq_true_iff.mp h).1
theorem eq_longest {way : Nat} {z g : Nat → Nat} (hz : ∀ j, z j ≤ 8) {v nl op os ll lo lt l2 o2 t2 : Nat} (hnl : nl ≤ 20) (h : lgI (rcC way z g v nl) nl nl 0 ll lo lt) (h2 : lqP (fun m i j => rmB way z g v nl i j m (-6) op os) nl l2 o2 t2) (w : Int32) : lgR ll lo lt w = lgR l2 o2 t2 w := by
  have V : ∀ a b m, a < b → b < nl → 1 ≤ m → m ≤ lgV (rcC way z g v nl) nl a b → a + m ≤ b ∧ b + m ≤ nl ∧ rmB way z g v nl a b m (-6) op os = true := by
    intro a b m e1 e2 e3 e4
    have q := (lgV_iff hnl e1 e2 e3).mp e4
    have q2 := raB_end q.2
    exact ⟨q.1, by omega, by rw [rmB_X hz (by omega)]; exact q.2⟩
  rcases h2 with ⟨e0, hN⟩ | ⟨hp, e1, e2, e3, hN, hF⟩
  · have e : ll = 0 := by
      rcases Nat.eq_zero_or_pos ll with q | q
      · exact q
      · exfalso
        obtain ⟨q1, q2, q3, -⟩ := h.2 q
        obtain ⟨r1, r2, r3⟩ := V lo lt ll q1 q2 q (by omega)
        have := hN ll lo lt q r1 r2
        simp only at this
        rw [r3] at this
        cases this
    unfold lgR
    rw [if_pos e, if_pos e0]
  · simp only at e3 hN hF
    have e4 : raB way z g v nl o2 t2 l2 = true := by rw [← rmB_X (op := op) (os := os) hz (by omega)]; exact e3
    have e5 : l2 ≤ lgV (rcC way z g v nl) nl o2 t2 := (lgV_iff hnl (by omega) (by omega) hp).mpr ⟨e1, e4⟩
    have e6 := h.1 o2 t2 (by omega) (by omega) (by omega)
    obtain ⟨q1, q2, q3, q4⟩ := h.2 (by omega)
    obtain ⟨r1, r2, r3⟩ := V lo lt ll q1 q2 (by omega) (by omega)
    have e7 : ll = l2 := by
      rcases Nat.lt_or_ge l2 ll with q | q
      · have := hN ll lo lt q r1 r2
        rw [r3] at this
        cases this
      · omega
    subst e7
    have n1 : ¬ (o2 < lo ∨ (o2 = lo ∧ t2 < lt)) := fun q => by
      have := q4 o2 t2 (by omega) (by omega) q
      omega
    have n2 : ¬ (lo < o2 ∨ (lo = o2 ∧ lt < t2)) := fun q => by
      have := hF lo lt q r1 r2
      rw [r3] at this
      cases this
    have e8 : lo = o2 := by omega
    have e9 : lt = t2 := by omega
    rw [e8, e9]
