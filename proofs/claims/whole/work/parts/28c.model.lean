/-- lines of rows that are taken -/
def lnM (tk : Nat) : Nat → Nat
  | 0 => 0
  | l + 1 => lnM tk l ||| tk * 2 ^ l
def mcT (z g : Nat → Nat) (v nl : Nat) (S n : Nat) : Int32 := svM (bcN (tkF S n nl).1) n (fb_ct (tdQ z g v (tkF S n nl).1 nl) (8 * n))
def mcO (z g : Nat → Nat) (v nl : Nat) (S n s : Nat) : List (Nat × Nat × Nat × Nat) :=
  if lsN S = s ∧ 1 < bcN (tkF S n nl).1 ∧ ¬ mcT z g v nl S n ≤ 0 then [((mcT z g v nl S n).toNatClampNeg, lnM (tkF S n nl).1 n, s, n)] else []
def psM (L : List (Nat × Nat × Nat × Nat)) (ct : Nat) (s1 s2 s3 s4 : Nat → Nat) : Prop :=
  ct = L.length ∧ (∀ j x, L[j]? = some x → s1 j = x.1 ∧ s4 j = x.2.1 ∧ s2 j = x.2.2.1 ∧ s3 j = x.2.2.2) ∧ ∀ x ∈ L, 0 < x.1 ∧ x.1 < 2 ^ 30 ∧ x.2.1 < 2 ^ 31 ∧ x.2.2.1 ≤ 20 ∧ x.2.2.2 ≤ 20
theorem psM_nil (s1 s2 s3 s4 : Nat → Nat) : psM [] 0 s1 s2 s3 s4 := ⟨rfl, fun j x h => by simp at h, fun x h => absurd h List.not_mem_nil⟩
theorem psM_new {L : List (Nat × Nat × Nat × Nat)} {ct : Nat} {s1 s2 s3 s4 : Nat → Nat} (h : psM L ct s1 s2 s3 s4) {w al st n : Nat} (h0 : 0 < w) (h1 : w < 2 ^ 30) (h2 : al < 2 ^ 31) (h3 : st ≤ 20) (h4 : n ≤ 20) : psM (L ++ [(w, al, st, n)]) (ct + 1) (upN s1 ct w) (upN s2 ct st) (upN s3 ct n) (upN s4 ct al) := by
  refine ⟨by rw [List.length_append, h.1]; rfl, fun j x hj => ?_, fun x hx => ?_⟩
  · by_cases e : j = ct
    · subst e
      rw [h.1, List.getElem?_append_right (Nat.le_refl _), Nat.sub_self] at hj
      cases hj
      rw [upN_s, upN_s, upN_s, upN_s]
      exact ⟨rfl, rfl, rfl, rfl⟩
    · have hl : j < L.length := by
        have := (List.getElem?_eq_some_iff.mp hj).1
        rw [List.length_append] at this
        simp at this
        have := h.1
        omega
      rw [List.getElem?_append_left hl] at hj
      rw [upN_ne e, upN_ne e, upN_ne e, upN_ne e]
      exact h.2.1 j x hj
  · rcases List.mem_append.mp hx with q | q
    · exact h.2.2 x q
    · rw [List.mem_singleton.mp q]; exact ⟨h0, h1, h2, h3, h4⟩
theorem lnM_lt {tk : Nat} (h : tk < 2 ^ 20) : ∀ n, n ≤ 10 → lnM tk n < 2 ^ 31
  | 0, _ => (show (0 : Nat) < 2 ^ 31 by decide)
  | n + 1, hn => by
    refine Nat.or_lt_two_pow (lnM_lt h n (by omega)) ?_
    have h1 : 2 ^ n ≤ 2 ^ 10 := Nat.pow_le_pow_right (by omega) (by omega)
    calc tk * 2 ^ n ≤ tk * 2 ^ 10 := Nat.mul_le_mul_left tk h1
      _ < 2 ^ 20 * 2 ^ 10 := Nat.mul_lt_mul_of_pos_right h (by decide)
      _ < 2 ^ 31 := by decide
theorem bc0 : bcN 0 = 0 := by decide
theorem clamp_lt (x : Int32) : x.toNatClampNeg < 2 ^ 31 := by
  have := fb_rng x
  show x.toInt.toNat < 2 ^ 31
  omega
theorem svM_int {ct n td : Nat} (h1 : ct ≤ 20) (h2 : n ≤ 20) (h3 : ct * n ≤ 400) (h4 : td ≤ 160) : (svM ct n td).toInt = (ct * n : Nat) - (n + 1 : Int) - ct - td := by
  unfold svM
  rw [Nat.mul_comm n ct]
  have e1 := nI_toInt (show ct * n < 2 ^ 31 by omega)
  have e2 := nI_toInt (show n < 2 ^ 31 by omega)
  have e5 := nI_toInt (show 1 < 2 ^ 31 by omega)
  have e3 := nI_toInt (show ct < 2 ^ 31 by omega)
  have e4 := nI_toInt (show td < 2 ^ 31 by omega)
  have f1 : (nI (ct * n) - nI n).toInt = (nI (ct * n)).toInt - (nI n).toInt := fb_subI (by omega) (by omega)
  have f0 : (nI (ct * n) - nI n - nI 1).toInt = (nI (ct * n) - nI n).toInt - (nI 1).toInt := fb_subI (by omega) (by omega)
  have f2 : (nI (ct * n) - nI n - nI 1 - nI ct).toInt = (nI (ct * n) - nI n - nI 1).toInt - (nI ct).toInt := fb_subI (by omega) (by omega)
  have f3 : (nI (ct * n) - nI n - nI 1 - nI ct - nI td).toInt = (nI (ct * n) - nI n - nI 1 - nI ct).toInt - (nI td).toInt := fb_subI (by omega) (by omega)
  rw [f3, f2, f0, f1, e1, e2, e3, e4, e5]
  omega
theorem svM_I {ct n td : Nat} (h1 : ct ≤ 20) (h2 : n ≤ 20) (h3 : ct * n ≤ 400) (h4 : td ≤ 160) : svM ct n td = svI ct n td := by
  rw [fa_eq, svM_int h1 h2 h3 h4, svI_int h1 h2 h3 h4]
theorem mc_lt {z g : Nat → Nat} {v nl S n : Nat} (hn : n ≤ 20) (h : ¬ mcT z g v nl S n ≤ 0) : (mcT z g v nl S n).toNatClampNeg < 2 ^ 30 := by
  have hb := bcN_le (tkF S n nl).1
  have ht : fb_ct (tdQ z g v (tkF S n nl).1 nl) (8 * n) ≤ 160 := by have := fb_ct_le (tdQ z g v (tkF S n nl).1 nl) (8 * n); omega
  have hm : bcN (tkF S n nl).1 * n ≤ 400 := by
    have := Nat.mul_le_mul hb hn
    omega
  have e := svM_int hb hn hm ht
  obtain ⟨-, p2⟩ := pos_cl h
  unfold mcT at p2 ⊢
  omega
