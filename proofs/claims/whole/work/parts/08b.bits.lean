theorem s_u : ∀ n, n < 32 → (((nI n).toUInt32 &&& Int32.toUInt32 31).toBitVec % 32).toNat = n := by decide +kernel
theorem m_ushrE {a k : Nat} (hk : k < 32) (h : a < 2 ^ 32) : ((nI a).toUInt32 >>> ((nI k).toUInt32 &&& Int32.toUInt32 31)).toInt32 = nI (a >>> k) := by rw [pk_ushrN h _ k (s_u k hk), Nat.shiftRight_eq_div_pow]
def pcT (M5 M3 x : Nat) : Nat := ((x - ((x >>> 1) &&& M5)) &&& M3) + (((x - ((x >>> 1) &&& M5)) >>> 2) &&& M3)
def pcR (s : Nat) : Nat := (((s + (s >>> 4)) &&& 252645135) + (((s + (s >>> 4)) &&& 252645135) >>> 8) + ((((s + (s >>> 4)) &&& 252645135) + (((s + (s >>> 4)) &&& 252645135) >>> 8)) >>> 16)) &&& 63
theorem and16 (a b : Nat) : a &&& b = 16 * (a / 16 &&& b / 16) + (a % 16 &&& b % 16) := by
  have h := Nat.div_add_mod (a &&& b) (2 ^ 4)
  rw [Nat.and_div_two_pow, Nat.and_mod_two_pow] at h
  exact h.symm
theorem n5 : ∀ h, h < 2 → ∀ l, l < 16 → ((8 * h + l / 2) &&& 5 = (l >>> 1) &&& 5 ∧ (l >>> 1) &&& 5 ≤ l) := by decide +kernel
theorem n3 : ∀ h, h < 4 → ∀ l, l < 16 → (4 * h + l / 4) &&& 3 = (l >>> 2) &&& 3 := by decide +kernel
theorem pcT_16 {M5 M3 h l : Nat} (e5 : M5 % 16 = 5) (e3 : M3 % 16 = 3) (hl : l < 16) : pcT M5 M3 (16 * h + l) = 16 * pcT (M5 / 16) (M3 / 16) h + pcT 5 3 l := by
  have a1 : ((16 * h + l) >>> 1) &&& M5 = 16 * ((h >>> 1) &&& (M5 / 16)) + ((l >>> 1) &&& 5) := by
    rw [and16, e5]
    have q1 : ((16 * h + l) >>> 1) / 16 = h >>> 1 := by rw [Nat.shiftRight_eq_div_pow, Nat.shiftRight_eq_div_pow]; omega
    have q2 : ((16 * h + l) >>> 1) % 16 = 8 * (h % 2) + l / 2 := by rw [Nat.shiftRight_eq_div_pow]; omega
    rw [q1, q2, (n5 (h % 2) (by omega) l hl).1]
  have b1 : (h >>> 1) &&& (M5 / 16) ≤ h := Nat.le_trans Nat.and_le_left (by rw [Nat.shiftRight_eq_div_pow]; omega)
  have b2 := (n5 0 (by omega) l hl).2
  unfold pcT
  rw [a1]
  generalize hA : (h >>> 1) &&& (M5 / 16) = A at *
  generalize hB : (l >>> 1) &&& 5 = B at *
  have c1 : 16 * h + l - (16 * A + B) = 16 * (h - A) + (l - B) := by omega
  rw [c1]
  generalize h - A = h' at *
  have hl' : l - B < 16 := by omega
  generalize l - B = l' at *
  have d1 : (16 * h' + l') &&& M3 = 16 * (h' &&& (M3 / 16)) + (l' &&& 3) := by
    rw [and16, e3, show (16 * h' + l') / 16 = h' by omega, show (16 * h' + l') % 16 = l' by omega]
  have d2 : ((16 * h' + l') >>> 2) &&& M3 = 16 * ((h' >>> 2) &&& (M3 / 16)) + ((l' >>> 2) &&& 3) := by
    rw [and16, e3]
    have q1 : ((16 * h' + l') >>> 2) / 16 = h' >>> 2 := by rw [Nat.shiftRight_eq_div_pow, Nat.shiftRight_eq_div_pow]; omega
    have q2 : ((16 * h' + l') >>> 2) % 16 = 4 * (h' % 4) + l' / 4 := by rw [Nat.shiftRight_eq_div_pow]; omega
    rw [q1, q2, n3 (h' % 4) (by omega) l' hl']
  rw [d1, d2]
  omega
theorem pc4 : ∀ l, l < 16 → (pcT 5 3 l = fb_ct (fun k => l.testBit k) 4 ∧ pcT 21845 13107 l = pcT 5 3 l ∧ pcT 5 3 l < 5) := by decide +kernel
theorem pcR_ok : ∀ a, a < 5 → ∀ b, b < 5 → ∀ c, c < 5 → ∀ d, d < 5 → ∀ e, e < 5 → pcR (16 * (16 * (16 * (16 * e + d) + c) + b) + a) = a + (b + (c + (d + e))) := by decide +kernel
theorem ct_16 {h l n : Nat} (hl : l < 16) : fb_ct (fun k => (16 * h + l).testBit k) (4 + n) = fb_ct (fun k => l.testBit k) 4 + fb_ct (fun k => h.testBit k) n := by
  rw [fb_ct_split]
  have e : ∀ j, (16 * h + l).testBit j = if j < 4 then l.testBit j else h.testBit (j - 4) := fun j => Nat.testBit_two_pow_mul_add (i := 4) h hl j
  congr 1
  · exact fb_ct_cong (fun k hk => by rw [e, if_pos hk])
  · exact fb_ct_cong (fun k hk => by rw [e, if_neg (by omega), Nat.add_sub_cancel_left])
theorem pc_ok {x : Nat} (hx : x < 2 ^ 20) : pcR (pcT 1431655765 858993459 x) = bcN x := by
  obtain ⟨a, b, c, d, e, ha, hb, hc, hd, he, ex⟩ : ∃ a b c d e, a < 16 ∧ b < 16 ∧ c < 16 ∧ d < 16 ∧ e < 16 ∧ x = 16 * (16 * (16 * (16 * e + d) + c) + b) + a :=
    ⟨x % 16, x / 16 % 16, x / 256 % 16, x / 4096 % 16, x / 65536, by omega, by omega, by omega, by omega, by omega, by omega⟩
  subst ex
  rw [pcT_16 (by decide) (by decide) ha, show 1431655765 / 16 = 89478485 by decide, show 858993459 / 16 = 53687091 by decide,
    pcT_16 (by decide) (by decide) hb, show 89478485 / 16 = 5592405 by decide, show 53687091 / 16 = 3355443 by decide,
    pcT_16 (by decide) (by decide) hc, show 5592405 / 16 = 349525 by decide, show 3355443 / 16 = 209715 by decide,
    pcT_16 (by decide) (by decide) hd, show 349525 / 16 = 21845 by decide, show 209715 / 16 = 13107 by decide, (pc4 e he).2.1,
    pcR_ok _ (pc4 a ha).2.2 _ (pc4 b hb).2.2 _ (pc4 c hc).2.2 _ (pc4 d hd).2.2 _ (pc4 e he).2.2]
  unfold bcN
  rw [show (20 : Nat) = 4 + (4 + (4 + (4 + 4))) by decide, ct_16 ha, ct_16 hb, ct_16 hc, ct_16 hd, (pc4 a ha).1, (pc4 b hb).1, (pc4 c hc).1, (pc4 d hd).1, (pc4 e he).1]
