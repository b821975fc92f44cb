/-- what stays true of the lines in all their versions -/
def cInv (nl nv : Nat) (z g : Nat → Nat) : Prop := nl ≤ 20 ∧ 1 ≤ nv ∧ nv ≤ 4 ∧ (∀ j, z j ≤ 8) ∧ (∀ j, g j ≤ 126) ∧ ∀ v ln k, v < nv → ln < nl → k < z (v * 20 + ln) → g ((v * 20 + ln) * 8 + k) ≠ 0
/-- of the pad -/
def pInv (ps : Nat) (pd : Nat → Nat) : Prop := ps ≤ 8 ∧ (∀ j, pd j ≤ 126) ∧ ∀ j, j < ps → pd j ≠ 0
/-- of the images -/
def kInv (k0 k1 : Nat) (im ik : Nat → Nat) (nlz nvz : Nat) (zz gz : Nat → Nat) (nly nvy : Nat) (zy gy : Nat → Nat) : Prop :=
  k0 ≤ 1 ∧ k1 ≤ 1 ∧ ik 0 = k0 ∧ ik 1 = k1 ∧ (∀ j, ik j ≤ 1) ∧ (k0 ≠ 0 → imR im 0 nlz nvz zz gz) ∧ (k1 ≠ 0 → imR im 1 nly nvy zy gy) ∧ cInv nlz nvz zz gz ∧ cInv nly nvy zy gy
theorem pInv_0 {pd : Nat → Nat} (h : ∀ j, pd j ≤ 126) : pInv 0 pd := ⟨by omega, h, fun j hj => absurd hj (Nat.not_lt_zero j)⟩
theorem say_inv {ps : Nat} {pd : Nat → Nat} {s : Int32} {ps2 : Nat} {pd2 : Nat → Nat} (h : pInv ps pd) (e : (ps2, pd2) = sayS ps pd s) : pInv ps2 pd2 := by
  obtain ⟨h1, h2, h3⟩ := id h
  unfold sayS at e
  split at e
  · rename_i q
    obtain ⟨e1, e2⟩ := Prod.mk.inj e
    obtain ⟨-, i1, i2⟩ := sgB_cN q.1
    subst e1; subst e2
    refine ⟨by omega, upN_le h2 (by omega), fun j hj => ?_⟩
    by_cases k : j = ps
    · rw [k, upN_s]; omega
    · rw [upN_ne k]; exact h3 j (by omega)
  · obtain ⟨e1, e2⟩ := Prod.mk.inj e
    subst e1; subst e2
    exact h
theorem wrZ_le {z : Nat → Nat} {ln n b : Nat} (h : ∀ j, z j ≤ b) (hn : n ≤ b) : ∀ m j, wrZ z ln n m j ≤ b
  | 0 => h
  | m + 1 => upN_le (wrZ_le h hn m) hn
theorem wrG_le {pd g : Nat → Nat} {ln n b : Nat} (hp : ∀ j, pd j ≤ b) (h : ∀ j, g j ≤ b) : ∀ m j, wrG pd g ln n m j ≤ b
  | 0 => h
  | m + 1 => cpN_le hp (wrG_le hp h m)
theorem wrZ_at {z : Nat → Nat} {ln n v t : Nat} (hl : ln < 20) (ht : t < 20) : ∀ m, wrZ z ln n m (v * 20 + t) = if v < m ∧ t = ln then n else z (v * 20 + t)
  | 0 => by rw [if_neg (by omega)]; rfl
  | m + 1 => by
    show upN (wrZ z ln n m) (m * 20 + ln) n (v * 20 + t) = _
    unfold upN
    rw [wrZ_at hl ht m]
    by_cases q : v * 20 + t = m * 20 + ln
    · rw [if_pos q, if_pos (by omega)]
    · rw [if_neg q]
      by_cases k : v < m ∧ t = ln
      · rw [if_pos k, if_pos (by omega)]
      · rw [if_neg k, if_neg (by omega)]
theorem wrG_at {pd g : Nat → Nat} {ln n v t k : Nat} (hl : ln < 20) (ht : t < 20) (hk : k < 8) (hn : n ≤ 8) : ∀ m, wrG pd g ln n m ((v * 20 + t) * 8 + k) = if v < m ∧ t = ln ∧ k < n then pd k else g ((v * 20 + t) * 8 + k)
  | 0 => by rw [if_neg (by omega)]; rfl
  | m + 1 => by
    show cpN pd (wrG pd g ln n m) 0 ((m * 20 + ln) * 8) n ((v * 20 + t) * 8 + k) = _
    unfold cpN
    rw [wrG_at hl ht hk hn m]
    by_cases q : (m * 20 + ln) * 8 ≤ (v * 20 + t) * 8 + k ∧ (v * 20 + t) * 8 + k < (m * 20 + ln) * 8 + n
    · rw [if_pos q, if_pos (by omega)]
      congr 1; omega
    · rw [if_neg q]
      by_cases j : v < m ∧ t = ln ∧ k < n
      · rw [if_pos j, if_pos (by omega)]
      · rw [if_neg j, if_neg (by omega)]
theorem line_inv {nl nv : Nat} {z g : Nat → Nat} {ps : Nat} {pd : Nat → Nat} {nl2 ps2 : Nat} {z2 g2 : Nat → Nat} (hc : cInv nl nv z g) (hp : pInv ps pd) (e : (nl2, z2, g2, ps2) = lineS nl nv z g ps pd) : cInv nl2 nv z2 g2 ∧ pInv ps2 pd := by
  obtain ⟨h1, h2, h3, h4, h5, h6⟩ := id hc
  obtain ⟨p1, p2, p3⟩ := id hp
  unfold lineS at e
  split at e
  · rename_i q
    simp only [Prod.mk.injEq] at e
    obtain ⟨e1, e2, e3, e4⟩ := e
    subst e1; subst e2; subst e3; subst e4
    refine ⟨⟨by omega, h2, h3, wrZ_le h4 p1 nv, wrG_le p2 h5 nv, fun v ln k q1 q2 q3 => ?_⟩, pInv_0 p2⟩
    have z8 := wrZ_le (ln := nl) h4 p1 nv (v * 20 + ln)
    have k8 : k < 8 := by omega
    rw [wrZ_at q.1 (by omega)] at q3
    rw [wrG_at q.1 (by omega) k8 p1]
    by_cases k1 : ln = nl
    · rw [if_pos ⟨q1, k1⟩] at q3
      rw [if_pos ⟨q1, k1, q3⟩]
      exact p3 k q3
    · rw [if_neg (fun r => k1 r.2)] at q3
      rw [if_neg (fun r => k1 r.2.1)]
      exact h6 v ln k q1 (by omega) q3
  · simp only [Prod.mk.injEq] at e
    obtain ⟨e1, e2, e3, e4⟩ := e
    subst e1; subst e2; subst e3; subst e4
    exact ⟨hc, hp⟩
theorem chg_inv {nl nv : Nat} {z g : Nat → Nat} {ps : Nat} {pd : Nat → Nat} {x : Int32} {ps2 : Nat} {z2 g2 : Nat → Nat} (hc : cInv nl nv z g) (hp : pInv ps pd) (e : (z2, g2, ps2) = chgS nl nv z g ps pd x) : cInv nl nv z2 g2 ∧ pInv ps2 pd := by
  obtain ⟨h1, h2, h3, h4, h5, h6⟩ := id hc
  obtain ⟨p1, p2, p3⟩ := id hp
  unfold chgS at e
  split at e
  · rename_i q
    obtain ⟨-, q0⟩ := ixB_cN (by omega) q.1
    simp only [Prod.mk.injEq] at e
    obtain ⟨e1, e2, e3⟩ := e
    subst e1; subst e2; subst e3
    refine ⟨⟨h1, h2, h3, upN_le h4 p1, cpN_le p2 h5, fun v ln k q1 q2 q3 => ?_⟩, pInv_0 p2⟩
    unfold upN at q3
    unfold cpN
    by_cases k1 : v * 20 + ln = (nv - 1) * 20 + cN x
    · rw [if_pos k1] at q3
      rw [if_pos (by omega), k1]
      exact (show pd (0 + (((nv - 1) * 20 + cN x) * 8 + k - ((nv - 1) * 20 + cN x) * 8)) ≠ 0 by
        rw [show 0 + (((nv - 1) * 20 + cN x) * 8 + k - ((nv - 1) * 20 + cN x) * 8) = k by omega]
        exact p3 k q3)
    · rw [if_neg k1] at q3
      have z8 := h4 (v * 20 + ln)
      rw [if_neg (by omega)]
      exact h6 v ln k q1 q2 q3
  · simp only [Prod.mk.injEq] at e
    obtain ⟨e1, e2, e3⟩ := e
    subst e1; subst e2; subst e3
    exact ⟨hc, hp⟩
theorem ver_inv {nl nv : Nat} {z g : Nat → Nat} {nv2 : Nat} {z2 g2 : Nat → Nat} (hc : cInv nl nv z g) (e : (nv2, z2, g2) = verS nv z g) : cInv nl nv2 z2 g2 := by
  obtain ⟨h1, h2, h3, h4, h5, h6⟩ := id hc
  unfold verS at e
  split at e
  · rename_i q
    simp only [Prod.mk.injEq] at e
    obtain ⟨e1, e2, e3⟩ := e
    subst e1; subst e2; subst e3
    refine ⟨h1, by omega, by omega, cpN_le h4 h4, cpN_le h5 h5, fun v ln k q1 q2 q3 => ?_⟩
    have z8 := cpN_le (sp := (nv - 1) * 20) (dp := nv * 20) (n := 20) h4 h4 (v * 20 + ln)
    unfold cpN at q3 z8 ⊢
    by_cases k1 : v = nv
    · subst k1
      rw [if_pos (by omega)] at q3 z8
      rw [if_pos (by omega)]
      rw [show (v - 1) * 20 + (v * 20 + ln - v * 20) = (v - 1) * 20 + ln by omega] at q3 z8
      rw [show (v - 1) * 20 * 8 + ((v * 20 + ln) * 8 + k - v * 20 * 8) = ((v - 1) * 20 + ln) * 8 + k by omega]
      exact h6 (v - 1) ln k (by omega) q2 q3
    · rw [if_neg (by omega)] at q3 z8
      rw [if_neg (by omega)]
      exact h6 v ln k (by omega) q2 q3
  · simp only [Prod.mk.injEq] at e
    obtain ⟨e1, e2, e3⟩ := e
    subst e1; subst e2; subst e3
    exact hc
theorem cp_inv {nl nv : Nat} {z g z2 g2 : Nat → Nat} (hc : cInv nl nv z g) (hz : ∀ j, z2 j ≤ 8) (hg : ∀ j, g2 j ≤ 126) : cInv nl nv (cpN z z2 0 0 80) (cpN g g2 0 0 640) := by
  obtain ⟨h1, h2, h3, h4, h5, h6⟩ := id hc
  refine ⟨h1, h2, h3, cpN_le h4 hz, cpN_le h5 hg, fun v ln k q1 q2 q3 => ?_⟩
  have z8 := cpN_le (sp := 0) (dp := 0) (n := 80) h4 hz (v * 20 + ln)
  unfold cpN at q3 z8 ⊢
  rw [if_pos (by omega)] at q3 z8
  rw [if_pos (by omega)]
  rw [show 0 + (v * 20 + ln - 0) = v * 20 + ln by omega] at q3 z8
  rw [show 0 + ((v * 20 + ln) * 8 + k - 0) = (v * 20 + ln) * 8 + k by omega]
  exact h6 v ln k q1 q2 q3
theorem ims_inv {c : Bool} {nl nv : Nat} {z g : Nat → Nat} {k nl2 nv2 : Nat} {z2 g2 : Nat → Nat} {k3 nl3 nv3 : Nat} {z3 g3 : Nat → Nat} (hc : cInv nl nv z g) (h2 : cInv nl2 nv2 z2 g2) (e : (k3, nl3, nv3, z3, g3) = imS c nl nv z g k nl2 nv2 z2 g2) : cInv nl3 nv3 z3 g3 := by
  unfold imS at e
  split at e
  · simp only [Prod.mk.injEq] at e
    obtain ⟨e1, e2, e3, e4, e5⟩ := e
    subst e1; subst e2; subst e3; subst e4; subst e5
    exact cp_inv hc h2.2.2.2.1 h2.2.2.2.2.1
  · simp only [Prod.mk.injEq] at e
    obtain ⟨e1, e2, e3, e4, e5⟩ := e
    subst e1; subst e2; subst e3; subst e4; subst e5
    exact h2
theorem im_inv {nl nv : Nat} {z g : Nat → Nat} {k0 k1 : Nat} {im ik : Nat → Nat} {nlz nvz : Nat} {zz gz : Nat → Nat} {nly nvy : Nat} {zy gy : Nat → Nat} {n : Int32} {k02 nlz2 nvz2 : Nat} {zz2 gz2 : Nat → Nat} {k12 nly2 nvy2 : Nat} {zy2 gy2 im2 ik2 : Nat → Nat}
    (hc : cInv nl nv z g) (hk : kInv k0 k1 im ik nlz nvz zz gz nly nvy zy gy) (e1 : (k02, nlz2, nvz2, zz2, gz2) = imS (ixB n 2 && decide (cN n = 0)) nl nv z g k0 nlz nvz zz gz) (e2 : (k12, nly2, nvy2, zy2, gy2) = imS (ixB n 2 && decide (cN n ≠ 0)) nl nv z g k1 nly nvy zy gy) (e3 : (im2, ik2) = imM im ik nl nv z g n) :
    kInv k02 k12 im2 ik2 nlz2 nvz2 zz2 gz2 nly2 nvy2 zy2 gy2 := by
  obtain ⟨h1, h2, h3, h4, h5, h6, h7, h8, h9⟩ := hk
  have c1 := ims_inv hc h8 e1
  have c2 := ims_inv hc h9 e2
  unfold imM at e3
  unfold imS at e1 e2
  cases hx : ixB n 2 with
  | false =>
    rw [hx] at e1 e2 e3
    rw [if_neg (by decide)] at e3
    rw [if_neg (by simp)] at e1 e2
    simp only [Prod.mk.injEq] at e1 e2 e3
    obtain ⟨a1, a2, a3, a4, a5⟩ := e1
    obtain ⟨b1, b2, b3, b4, b5⟩ := e2
    obtain ⟨d1, d2⟩ := e3
    subst a1; subst a2; subst a3; subst a4; subst a5; subst b1; subst b2; subst b3; subst b4; subst b5; subst d1; subst d2
    exact ⟨h1, h2, h3, h4, h5, h6, h7, h8, h9⟩
  | true =>
    obtain ⟨-, hn⟩ := ixB_cN (by omega) hx
    rw [hx] at e1 e2 e3
    rw [if_pos rfl] at e3
    obtain ⟨d1, d2⟩ := Prod.mk.inj e3
    subst d1; subst d2
    by_cases q : cN n = 0
    · rw [if_pos (by rw [decide_eq_true q]; rfl)] at e1
      rw [if_neg (by rw [decide_eq_false (fun r => r q)]; decide)] at e2
      simp only [Prod.mk.injEq] at e1 e2
      obtain ⟨a1, a2, a3, a4, a5⟩ := e1
      obtain ⟨b1, b2, b3, b4, b5⟩ := e2
      subst a1; subst a2; subst a3; subst a4; subst a5; subst b1; subst b2; subst b3; subst b4; subst b5
      refine ⟨by omega, h2, by rw [q, upN_s], by rw [q, upN_ne (by omega)]; exact h4, upN_le h5 (by omega), fun _ => by rw [q]; exact imR_set, fun r => by rw [q]; exact imR_other (by omega) (h7 r), c1, c2⟩
    · have q1 : cN n = 1 := by omega
      rw [if_neg (by rw [decide_eq_false q]; decide)] at e1
      rw [if_pos (by rw [decide_eq_true q]; rfl)] at e2
      simp only [Prod.mk.injEq] at e1 e2
      obtain ⟨a1, a2, a3, a4, a5⟩ := e1
      obtain ⟨b1, b2, b3, b4, b5⟩ := e2
      subst a1; subst a2; subst a3; subst a4; subst a5; subst b1; subst b2; subst b3; subst b4; subst b5
      refine ⟨h1, by omega, by rw [q1, upN_ne (by omega)]; exact h3, by rw [q1, upN_s], upN_le h5 (by omega), fun r => by rw [q1]; exact imR_other (by omega) (h6 r), fun _ => by rw [q1]; exact imR_set, c1, c2⟩
theorem eq_re {nl nv : Nat} {z g : Nat → Nat} {k0 k1 : Nat} {im ik : Nat → Nat} {nlz nvz : Nat} {zz gz : Nat → Nat} {nly nvy : Nat} {zy gy : Nat → Nat} {n : Int32} (hk : kInv k0 k1 im ik nlz nvz zz gz nly nvy zy gy) :
    reM im ik nl nv z g n = resS k0 k1 n nl nv z g nlz nvz zz gz nly nvy zy gy ∧ reR ik n = resR k0 k1 n := by
  obtain ⟨h1, h2, h3, h4, h5, h6, h7, h8, h9⟩ := hk
  unfold reM reR resS resR
  cases hx : ixB n 2 with
  | false => exact ⟨rfl, rfl⟩
  | true =>
    obtain ⟨-, hn⟩ := ixB_cN (by omega) hx
    rw [if_pos rfl, if_pos rfl, if_pos rfl, if_pos rfl]
    by_cases q : cN n = 0
    · rw [q, h3, if_pos rfl, if_pos rfl]
      refine ⟨?_, rfl⟩
      by_cases r : k0 = 0
      · rw [if_pos r, reS_f (decide_eq_false (fun t => t r))]
      · rw [if_neg r, reS_t (decide_eq_true r)]
        exact imR_get (h6 r)
    · have q1 : cN n = 1 := by omega
      rw [q1, h4, if_neg (show ¬ (1 : Nat) = 0 by decide), if_neg (show ¬ (1 : Nat) = 0 by decide)]
      refine ⟨?_, rfl⟩
      by_cases r : k1 = 0
      · rw [if_pos r, reS_f (decide_eq_false (fun t => t r))]
      · rw [if_neg r, reS_t (decide_eq_true r)]
        exact imR_get (h7 r)
theorem re_inv {nl nv : Nat} {z g : Nat → Nat} {k0 k1 : Nat} {im ik : Nat → Nat} {nlz nvz : Nat} {zz gz : Nat → Nat} {nly nvy : Nat} {zy gy : Nat → Nat} {n : Int32} {nl2 nv2 : Nat} {z2 g2 : Nat → Nat} (hc : cInv nl nv z g) (hk : kInv k0 k1 im ik nlz nvz zz gz nly nvy zy gy) (e : (nl2, nv2, z2, g2) = resS k0 k1 n nl nv z g nlz nvz zz gz nly nvy zy gy) : cInv nl2 nv2 z2 g2 := by
  have key : ∀ (b : Bool) (nl3 nv3 : Nat) (z3 g3 : Nat → Nat), cInv nl3 nv3 z3 g3 → (nl2, nv2, z2, g2) = reS b nl nv z g nl3 nv3 z3 g3 → cInv nl2 nv2 z2 g2 := by
    intro b nl3 nv3 z3 g3 h3 q
    cases b with
    | true =>
      rw [reS_t rfl] at q
      simp only [Prod.mk.injEq] at q
      obtain ⟨e1, e2, e3, e4⟩ := q
      subst e1; subst e2; subst e3; subst e4
      exact cp_inv h3 hc.2.2.2.1 hc.2.2.2.2.1
    | false =>
      rw [reS_f rfl] at q
      simp only [Prod.mk.injEq] at q
      obtain ⟨e1, e2, e3, e4⟩ := q
      subst e1; subst e2; subst e3; subst e4
      exact hc
  obtain ⟨-, -, -, -, -, -, -, h8, h9⟩ := hk
  unfold resS at e
  split at e
  · split at e
    · exact key _ _ _ _ _ h8 e
    · exact key _ _ _ _ _ h9 e
  · simp only [Prod.mk.injEq] at e
    obtain ⟨e1, e2, e3, e4⟩ := e
    subst e1; subst e2; subst e3; subst e4
    exact hc
