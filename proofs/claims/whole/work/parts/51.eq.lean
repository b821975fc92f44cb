theorem lnX_pos1 {fa fb : Nat → Nat} {sk : Nat → Bool} {L : List (Nat × Nat)} : ∀ {n : Nat}, (lnX 1 fa fb sk L n).1 = true → ∀ p, p < n → sk p = false → nmB (fa p) = false → fa p = fb p
  | 0, _, p, hp, _, _ => absurd hp (Nat.not_lt_zero p)
  | n + 1, h, p, hp, hs, h1 => by
    cases hq : (lnX 1 fa fb sk L n).1 with
    | false =>
      rw [lnX_stop hq 1, hq] at h
      cases h
    | true =>
      by_cases e : p = n
      · subst e
        rw [lnX_s hq hs, stX_0 (Or.inr h1) (Or.inl (by decide))] at h
        exact of_decide_eq_true h
      · exact lnX_pos1 hq p (by omega) hs h1
/-- pairs of names, one for one -/
def gdL (L : List (Nat × Nat)) : Prop := (∀ q ∈ L, nmB q.1 = true ∧ nmB q.2 = true) ∧ pcons L
theorem gd_jn {L : List (Nat × Nat)} {a b : Nat} (h : gdL L) : gdL (jnL L a b) := by
  unfold jnL
  split
  · rename_i q
    unfold jnB at q
    have q1 := Bool.and_eq_true_iff.mp q
    have q2 := Bool.and_eq_true_iff.mp q1.1
    have k := okp_iff.mp q1.2
    refine ⟨fun r hr => ?_, fun r hr t ht => ?_⟩
    · rcases List.mem_cons.mp hr with m | m
      · subst m; exact q2
      · exact h.1 r m
    · rcases List.mem_cons.mp hr with m | m <;> rcases List.mem_cons.mp ht with m2 | m2
      · subst m; subst m2; exact ⟨fun _ => rfl, fun _ => rfl⟩
      · subst m; exact ⟨fun e => ((k t m2).mp e.symm).symm, fun e => ((k t m2).mpr e.symm).symm⟩
      · subst m2; exact k r m
      · exact h.2 r m t m2
  · exact h
theorem gd_st {way : Nat} {L : List (Nat × Nat)} {a b : Nat} (h : gdL L) : gdL (stX way L a b).2 := by
  unfold stX
  split
  · exact gd_jn h
  · split
    · exact h
    · exact h
theorem gd_ln {way : Nat} {fa fb : Nat → Nat} {sk : Nat → Bool} {L : List (Nat × Nat)} (h : gdL L) : ∀ n, gdL (lnX way fa fb sk L n).2
  | 0 => h
  | n + 1 => by
    have ih := gd_ln (way := way) (fa := fa) (fb := fb) (sk := sk) h n
    show gdL (if (lnX way fa fb sk L n).1 then (if sk n then lnX way fa fb sk L n else stX way (lnX way fa fb sk L n).2 (fa n) (fb n)) else lnX way fa fb sk L n).2
    split
    · split
      · exact ih
      · exact gd_st ih
    · exact ih
theorem gd_rw {way : Nat} {z g : Nat → Nat} {v one other : Nat} {sk : Nat → Nat → Bool} : ∀ n, gdL (rwX way z g v one other sk n).2
  | 0 => ⟨fun q h => absurd h List.not_mem_nil, fun q h => absurd h List.not_mem_nil⟩
  | n + 1 => by
    have ih := gd_rw (way := way) (z := z) (g := g) (v := v) (one := one) (other := other) (sk := sk) n
    show gdL (if (rwX way z g v one other sk n).1 then lfX way z g (v * 20 + (one + n)) (v * 20 + (other + n)) (sk n) (rwX way z g v one other sk n).2 else rwX way z g v one other sk n).2
    split
    · unfold lfX
      split
      · exact gd_ln ih _
      · exact ih
    · exact ih
theorem fcN_spec (p : Nat → Bool) : ∀ n, (fcN p n = 0 ∧ ∀ j, j < n → p (97 + j) = false) ∨ (∃ d, d < n ∧ fcN p n = 97 + d ∧ p (97 + d) = true ∧ ∀ j, j < d → p (97 + j) = false)
  | 0 => Or.inl ⟨rfl, fun j hj => absurd hj (Nat.not_lt_zero j)⟩
  | n + 1 => by
    have e : fcN p (n + 1) = if fcN p n = 0 then (if p (97 + n) then 97 + n else 0) else fcN p n := rfl
    rcases fcN_spec p n with ⟨h1, h2⟩ | ⟨d, h1, h2, h3, h4⟩
    · cases hp : p (97 + n) with
      | true =>
        refine Or.inr ⟨n, by omega, ?_, hp, h2⟩
        rw [e, if_pos h1, if_pos hp]
      | false =>
        refine Or.inl ⟨?_, fun j hj => ?_⟩
        · rw [e, if_pos h1, if_neg (by rw [hp]; decide)]
        · by_cases q : j = n
          · rw [q]; exact hp
          · exact h2 j (by omega)
    · refine Or.inr ⟨d, by omega, ?_, h3, h4⟩
      rw [e, if_neg (by omega)]
      exact h2
theorem ff_fc {L : List (Nat × Nat)} {a : Nat} (h : gdL L) (ha : nmB a = true) {p : Nat → Bool} (hp : ∀ d, d < 26 → p (97 + d) = okp L a (97 + d)) : fcN p 26 = ffN L a := by
  cases hb : hpB L a with
  | true =>
    obtain ⟨-, q, hq, e⟩ := hpB_iff.mp hb
    have e2 : ffN L a = q.2 := by
      unfold ffN
      rw [if_pos hb, ← e, rnN_in h.2 hq]
    have hn := nmB_iff.mp (h.1 q hq).2
    have hk : okp L a q.2 = true := okp_iff.mpr (fun r hr => by rw [← e]; exact h.2 r hr q hq)
    rcases fcN_spec p 26 with ⟨-, k2⟩ | ⟨d, k1, k2, k3, k4⟩
    · exfalso
      have := k2 (q.2 - 97) (by omega)
      rw [hp _ (by omega), show 97 + (q.2 - 97) = q.2 by omega, hk] at this
      cases this
    · rw [hp d k1] at k3
      have := (okp_iff.mp k3 q hq).mp e
      rw [k2, e2, this]
  | false =>
    have hno : ∀ q ∈ L, q.1 ≠ a := fun q hq e => by
      have := hpB_iff.mpr ⟨ha, q, hq, e⟩
      rw [hb] at this
      cases this
    have hok : ∀ c, okp L a c = true ↔ ∀ q ∈ L, q.2 ≠ c := fun c => by
      rw [okp_iff]
      exact ⟨fun k q hq e => hno q hq ((k q hq).mpr e), fun k q hq => ⟨fun e => absurd e (hno q hq), fun e => absurd e (k q hq)⟩⟩
    have hex : ∀ c, okp L a c = false → ∃ q ∈ L, q.2 = c := fun c hc => by
      by_cases q : ∃ q ∈ L, q.2 = c
      · exact q
      · have := (hok c).mpr (fun r hr e => q ⟨r, hr, e⟩)
        rw [hc] at this
        cases this
    rcases fcN_spec p 26 with ⟨k1, k2⟩ | ⟨d, k1, k2, k3, k4⟩
    · rw [k1, ffN_no hb (fun j hj => ?_)]
      obtain ⟨q, hq, e⟩ := hex (97 + j) (by rw [← hp j hj]; exact k2 j hj)
      exact ⟨q, hq, by omega⟩
    · rw [hp d k1] at k3
      rw [k2, ffN_at hb k1 (fun j hj => ?_) (fun q hq e => (hok _).mp k3 q hq (by omega))]
      obtain ⟨q, hq, e⟩ := hex (97 + j) (by rw [← hp j (by omega)]; exact k4 j hj)
      exact ⟨q, hq, by omega⟩
/-- the place that is left out, as the class tells it -/
theorem sk_at {kk pq k i : Nat} (h1 : kk ≤ 30) (h2 : k ≤ 30) (h3 : pq < 10) (h4 : i < 10) : decide (nI pq = nI (k * 10 + i) - nI (kk * 10)) = decide (kk = k ∧ pq = i) := by
  have e1 := nI_toInt (show pq < 2 ^ 31 by omega)
  have e2 := nI_toInt (show k * 10 + i < 2 ^ 31 by omega)
  have e3 := nI_toInt (show kk * 10 < 2 ^ 31 by omega)
  have f1 : (nI (k * 10 + i) - nI (kk * 10)).toInt = (nI (k * 10 + i)).toInt - (nI (kk * 10)).toInt := fb_subI (by omega) (by omega)
  refine decide_eq_decide.mpr ?_
  rw [fa_eq, f1, e1, e2, e3]
  omega
theorem nI_ne {a b : Nat} (ha : a < 1000) (hb : b < 1000) (h : a ≠ b) : ¬ nI a = nI b := by
  intro q
  have := congrArg Int32.toInt q
  rw [nI_toInt (by omega), nI_toInt (by omega)] at this
  omega
