def inB (x lo hi : Int32) : Bool := decide (lo.toInt ≤ x.toInt ∧ x.toInt ≤ hi.toInt)
theorem sub_int {a b : Nat} (ha : a < 1000) (hb : b < 1000) : (nI a - nI b).toInt = (a : Int) - b := pk_sub_toInt (by omega) (by omega)
theorem inB_ix {x : Int32} {n b : Nat} (hn : n < 1000) (hb : b < 1000) : inB x (nI 0) (nI n - nI b) = ixB x (n + 1 - b) := by
  unfold inB ixB
  rw [sub_int hn hb, nI_toInt (show 0 < 2 ^ 31 by decide)]
  congr 1
  apply propext
  omega
theorem inB_ix0 {x : Int32} {n : Nat} (hn : n < 1000) : inB x (nI 0) (nI n) = ixB x (n + 1) := by
  unfold inB ixB
  rw [nI_toInt (show n < 2 ^ 31 by omega), nI_toInt (show 0 < 2 ^ 31 by decide)]
  congr 1
  apply propext
  omega
theorem inB_ln {x : Int32} : inB x (nI 1) (nI 20) = lnB x := rfl
theorem inB_sg {x : Int32} : inB x (nI 33) (nI 126) = sgB x := rfl
theorem inB_N {a lo hi : Nat} (h1 : a < 2 ^ 31) (h2 : lo < 2 ^ 31) (h3 : hi < 2 ^ 31) : inB (nI a) (nI lo) (nI hi) = decide (lo ≤ a ∧ a ≤ hi) := by
  unfold inB
  rw [nI_toInt h1, nI_toInt h2, nI_toInt h3]
  congr 1
  apply propext
  omega
theorem cp_0 (f g : Nat → Nat) (s B : Nat) : cpN f g s B 0 = g := by
  funext j; unfold cpN; rw [if_neg (by omega)]
theorem cp_s (f g : Nat → Nat) (s B k : Nat) : upN (cpN f g s B k) (B + k) (f (s + k)) = cpN f g s B (k + 1) := by
  funext j
  unfold upN
  by_cases e : j = B + k
  · rw [if_pos e]; unfold cpN; rw [if_pos (by omega), show s + (j - B) = s + k by omega]
  · rw [if_neg e]; unfold cpN
    by_cases h : B ≤ j ∧ j < B + k
    · rw [if_pos h, if_pos (by omega)]
    · rw [if_neg h, if_neg (by omega)]
theorem cp_out {f g : Nat → Nat} {s B k j : Nat} (h : j < B) : cpN f g s B k j = g j := by unfold cpN; rw [if_neg (by omega)]
/-- the model's two rows of names hold these -/
def pmM (be ba : Nat → Nat) (L : List (Nat × Nat)) : Prop :=
  (∀ c, c < 26 → ((be c = 0 ∧ ∀ q ∈ L, q.1 ≠ c + 97) ∨ ∃ q ∈ L, q.1 = c + 97 ∧ be c = q.2)) ∧ (∀ c, c < 26 → ((ba c = 0 ∧ ∀ q ∈ L, q.2 ≠ c + 97) ∨ ∃ q ∈ L, q.2 = c + 97 ∧ ba c = q.1)) ∧
  (∀ q ∈ L, (97 ≤ q.1 ∧ q.1 ≤ 122) ∧ (97 ≤ q.2 ∧ q.2 ≤ 122)) ∧ pcons L
theorem pmM_nil {be ba : Nat → Nat} (h1 : ∀ c, c < 26 → be c = 0) (h2 : ∀ c, c < 26 → ba c = 0) : pmM be ba [] :=
  ⟨fun c hc => Or.inl ⟨h1 c hc, fun q h => absurd h List.not_mem_nil⟩, fun c hc => Or.inl ⟨h2 c hc, fun q h => absurd h List.not_mem_nil⟩, fun q h => absurd h List.not_mem_nil, fun q h => absurd h List.not_mem_nil⟩
theorem pmM_ok {be ba : Nat → Nat} {L : List (Nat × Nat)} (h : pmM be ba L) {a b : Nat} (ha : 97 ≤ a ∧ a ≤ 122) (hb : 97 ≤ b ∧ b ≤ 122) : okp L a b = true ↔ ((be (a - 97) = 0 ∨ be (a - 97) = b) ∧ (ba (b - 97) = 0 ∨ ba (b - 97) = a)) := by
  have h1 := h.1 (a - 97) (by omega)
  have h2 := h.2.1 (b - 97) (by omega)
  rw [show a - 97 + 97 = a by omega] at h1
  rw [show b - 97 + 97 = b by omega] at h2
  rw [okp_iff]
  constructor
  · intro k
    refine ⟨?_, ?_⟩
    · rcases h1 with ⟨e, -⟩ | ⟨q, hq, e1, e2⟩
      · exact Or.inl e
      · exact Or.inr (by rw [e2]; exact (k q hq).mp e1)
    · rcases h2 with ⟨e, -⟩ | ⟨q, hq, e1, e2⟩
      · exact Or.inl e
      · exact Or.inr (by rw [e2]; exact (k q hq).mpr e1)
  · intro ⟨k1, k2⟩ q hq
    have hr := h.2.2.1 q hq
    constructor
    · intro e
      rcases h1 with ⟨-, n⟩ | ⟨r, hr2, e1, e2⟩
      · exact absurd e (n q hq)
      · have hrr := h.2.2.1 r hr2
        have : be (a - 97) = b := by rcases k1 with k | k; omega; exact k
        rw [← this, e2]
        exact (h.2.2.2 q hq r hr2).mp (by rw [e, e1])
    · intro e
      rcases h2 with ⟨-, n⟩ | ⟨r, hr2, e1, e2⟩
      · exact absurd e (n q hq)
      · have hrr := h.2.2.1 r hr2
        have : ba (b - 97) = a := by rcases k2 with k | k; omega; exact k
        rw [← this, e2]
        exact (h.2.2.2 q hq r hr2).mpr (by rw [e, e1])
theorem pmM_new {be ba : Nat → Nat} {L : List (Nat × Nat)} (h : pmM be ba L) {a b : Nat} (ha : 97 ≤ a ∧ a ≤ 122) (hb : 97 ≤ b ∧ b ≤ 122) (hk : okp L a b = true) : pmM (upN be (a - 97) b) (upN ba (b - 97) a) ((a, b) :: L) := by
  have k := okp_iff.mp hk
  refine ⟨fun c hc => ?_, fun c hc => ?_, fun q hq => ?_, fun q hq r hr => ?_⟩
  · by_cases e : c = a - 97
    · exact Or.inr ⟨(a, b), List.mem_cons_self, by show a = c + 97; omega, by rw [e, upN_s]⟩
    · rw [upN_ne e]
      rcases h.1 c hc with ⟨e0, n⟩ | ⟨q, hq, e1, e2⟩
      · refine Or.inl ⟨e0, fun q hq => ?_⟩
        rcases List.mem_cons.mp hq with m | m
        · subst m; show a ≠ c + 97; omega
        · exact n q m
      · exact Or.inr ⟨q, List.mem_cons_of_mem _ hq, e1, e2⟩
  · by_cases e : c = b - 97
    · exact Or.inr ⟨(a, b), List.mem_cons_self, by show b = c + 97; omega, by rw [e, upN_s]⟩
    · rw [upN_ne e]
      rcases h.2.1 c hc with ⟨e0, n⟩ | ⟨q, hq, e1, e2⟩
      · refine Or.inl ⟨e0, fun q hq => ?_⟩
        rcases List.mem_cons.mp hq with m | m
        · subst m; show b ≠ c + 97; omega
        · exact n q m
      · exact Or.inr ⟨q, List.mem_cons_of_mem _ hq, e1, e2⟩
  · rcases List.mem_cons.mp hq with m | m
    · subst m; exact ⟨ha, hb⟩
    · exact h.2.2.1 q m
  · rcases List.mem_cons.mp hq with m | m <;> rcases List.mem_cons.mp hr with m2 | m2
    · subst m; subst m2; exact ⟨fun _ => rfl, fun _ => rfl⟩
    · subst m; exact ⟨fun e => ((k r m2).mp e.symm).symm, fun e => ((k r m2).mpr e.symm).symm⟩
    · subst m2; exact k q m
    · exact h.2.2.2 q m r m2
/-- two rows as the model compares them: at one place of the second another sign -/
def rpN (z g : Nat → Nat) (sl : Nat) (k : Nat) (ol : Int32) (op os : Nat) : Nat → Nat := fun p => if nI k = ol ∧ p = op then os else sgN z g sl p
def rwM (way : Nat) (z g : Nat → Nat) (v one other : Nat) (ol : Int32) (op os : Nat) : Nat → Bool × List (Nat × Nat)
  | 0 => (true, [])
  | k + 1 => if (rwM way z g v one other ol op os k).1 then
      (if z (v * 20 + (one + k)) = z (v * 20 + (other + k)) then lnX way (sgN z g (v * 20 + (one + k))) (rpN z g (v * 20 + (other + k)) k ol op os) (fun _ => false) (rwM way z g v one other ol op os k).2 (z (v * 20 + (one + k))) else (false, (rwM way z g v one other ol op os k).2))
    else rwM way z g v one other ol op os k
theorem rwM_s {way : Nat} {z g : Nat → Nat} {v one other : Nat} {ol : Int32} {op os k : Nat} (h : (rwM way z g v one other ol op os k).1 = true) (h2 : z (v * 20 + (one + k)) = z (v * 20 + (other + k))) : rwM way z g v one other ol op os (k + 1) = lnX way (sgN z g (v * 20 + (one + k))) (rpN z g (v * 20 + (other + k)) k ol op os) (fun _ => false) (rwM way z g v one other ol op os k).2 (z (v * 20 + (one + k))) := by
  show (if _ then _ else _) = _
  rw [if_pos h, if_pos h2]
theorem rwM_z {way : Nat} {z g : Nat → Nat} {v one other : Nat} {ol : Int32} {op os k : Nat} (h : (rwM way z g v one other ol op os k).1 = true) (h2 : ¬ z (v * 20 + (one + k)) = z (v * 20 + (other + k))) : (rwM way z g v one other ol op os (k + 1)).1 = false := by
  show (if _ then _ else _ : Bool × List (Nat × Nat)).1 = _
  rw [if_pos h, if_neg h2]
theorem rwM_stop {way : Nat} {z g : Nat → Nat} {v one other : Nat} {ol : Int32} {op os k : Nat} (h : (rwM way z g v one other ol op os k).1 = false) : ∀ d, rwM way z g v one other ol op os (k + d) = rwM way z g v one other ol op os k
  | 0 => rfl
  | d + 1 => by
    have ih := rwM_stop h d
    show (if (rwM way z g v one other ol op os (k + d)).1 then _ else rwM way z g v one other ol op os (k + d)) = _
    rw [ih, if_neg (by rw [h]; decide)]
theorem rwM_fail {way : Nat} {z g : Nat → Nat} {v one other : Nat} {ol : Int32} {op os k n : Nat} (h : (rwM way z g v one other ol op os (k + 1)).1 = false) (hk : k < n) : (rwM way z g v one other ol op os n).1 = false := by
  have := rwM_stop h (n - (k + 1))
  rw [show k + 1 + (n - (k + 1)) = n by omega] at this
  rw [this]; exact h
def rmB (way : Nat) (z g : Nat → Nat) (v nl one other n : Nat) (ol : Int32) (op os : Nat) : Bool := decide (one + n ≤ nl) && decide (other + n ≤ nl) && (rwM way z g v one other ol op os n).1
theorem sg_g {z g : Nat → Nat} {sl k : Nat} (h : k < z sl) : sgN z g sl k = g (sl * 8 + k) := if_pos h
theorem nu_nm {a : Nat} (h : nuB a = true) : nmB a = false := by
  have := nuB_iff.mp h
  exact decide_eq_false (by omega)
theorem stX_eq {way a b : Nat} {L : List (Nat × Nat)} (h : a = b) (h1 : way = 0 ∨ nmB a = false) : stX way L a b = (true, L) := by
  subst h
  by_cases q : way = 2 ∧ nuB a = true
  · rw [stX_2 (nu_nm q.2) q.1 q.2, q.2]
  · rw [stX_0 h1 (by by_cases w : way = 2; exact Or.inr (by cases e : nuB a; rfl; exact absurd ⟨w, e⟩ q); exact Or.inl w), decide_eq_true rfl]
theorem stX_no {way a b : Nat} {L : List (Nat × Nat)} (h1 : a ≠ b ∨ (way ≠ 0 ∧ nmB a = true)) (h2 : way = 0 ∨ nmB a = false ∨ nmB b = false) (h3 : way ≠ 2 ∨ nuB a = false ∨ nuB b = false) : (stX way L a b).1 = false := by
  by_cases q : way ≠ 0 ∧ nmB a = true
  · rw [stX_1 q.1 q.2]
    rcases h2 with h | h | h
    · exact absurd h q.1
    · rw [q.2] at h; cases h
    · exact jnB_nm2 h
  · have hne : a ≠ b := by rcases h1 with h | h; exact h; exact absurd h q
    have hw : way = 0 ∨ nmB a = false := by
      by_cases w : way = 0
      · exact Or.inl w
      · cases e : nmB a with
        | false => exact Or.inr rfl
        | true => exact absurd ⟨w, e⟩ q
    by_cases q2 : way = 2 ∧ nuB a = true
    · rw [stX_2 (nu_nm q2.2) q2.1 q2.2]
      rcases h3 with h | h | h
      · exact absurd q2.1 h
      · rw [q2.2] at h; cases h
      · exact h
    · rw [stX_0 hw (by by_cases w : way = 2; exact Or.inr (by cases e : nuB a; rfl; exact absurd ⟨w, e⟩ q2); exact Or.inl w)]
      exact decide_eq_false hne
