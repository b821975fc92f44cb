def cN (x : Int32) : Nat := x.toNatClampNeg
theorem cN_nI {n : Nat} (h : n < 2 ^ 31) : cN (nI n) = n := nI_clamp h
theorem ixB_cN {x : Int32} {n : Nat} (hn : n < 2 ^ 31) (h : ixB x n = true) : x = nI (cN x) ∧ cN x < n := by
  obtain ⟨v, hv, e⟩ := ixB_of hn h
  rw [e, cN_nI (by omega)]
  exact ⟨rfl, hv⟩
def lnB (x : Int32) : Bool := decide (1 ≤ x.toInt ∧ x.toInt ≤ 20)
theorem lnB_cN {x : Int32} (h : lnB x = true) : x = nI (cN x) ∧ 1 ≤ cN x ∧ cN x ≤ 20 := by
  have h2 := of_decide_eq_true h
  obtain ⟨v, hv, e⟩ := ixB_of (x := x) (n := 21) (by decide) (decide_eq_true (by omega))
  rw [e, nI_toInt (by omega)] at h2
  rw [e, cN_nI (by omega)]
  exact ⟨rfl, by omega, by omega⟩
/-- signs that may be said -/
def sgB (x : Int32) : Bool := decide (33 ≤ x.toInt ∧ x.toInt ≤ 126)
theorem sgB_cN {x : Int32} (h : sgB x = true) : x = nI (cN x) ∧ 33 ≤ cN x ∧ cN x ≤ 126 := by
  have h2 := of_decide_eq_true h
  obtain ⟨v, hv, e⟩ := ixB_of (x := x) (n := 127) (by decide) (decide_eq_true (by omega))
  rw [e, nI_toInt (by omega)] at h2
  rw [e, cN_nI (by omega)]
  exact ⟨rfl, by omega, by omega⟩
/-- refused: no such version, another number is not as told; else X -/
def rfQ (nv : Nat) (v : Int32) (ins : Bool) (X : Int32) : Int32 := if ixB v nv then (if ins then X else -2) else -1
theorem rfQ_u {nv : Nat} {v : Int32} {ins : Bool} {X : Int32} (h : ixB v nv = false) : rfQ nv v ins X = -1 := if_neg (by rw [h]; decide)
theorem rfQ_o {nv : Nat} {v : Int32} {ins : Bool} {X : Int32} (h : ixB v nv = true) (h2 : ins = false) : rfQ nv v ins X = -2 := by unfold rfQ; rw [if_pos h, if_neg (by rw [h2]; decide)]
theorem rfQ_v {nv : Nat} {v : Int32} {ins : Bool} {X : Int32} (h : ixB v nv = true) (h2 : ins = true) : rfQ nv v ins X = X := by unfold rfQ; rw [if_pos h, if_pos h2]
theorem rfQ_0 {nv : Nat} {v : Int32} {ins : Bool} (h : rfQ nv v ins 0 = 0) : ixB v nv = true ∧ ins = true := by
  cases h1 : ixB v nv with
  | false => rw [rfQ_u h1] at h; exact absurd h (by decide)
  | true => cases h2 : ins with
    | false => rw [rfQ_o h1 h2] at h; exact absurd h (by decide)
    | true => exact ⟨rfl, rfl⟩
theorem rfQ_n {nv : Nat} {v : Int32} {ins ins2 : Bool} {X : Int32} (h : ¬ rfQ nv v ins 0 = 0) (e : ins = ins2) : rfQ nv v ins 0 = rfQ nv v ins2 X := by
  subst e
  cases h1 : ixB v nv with
  | false => rw [rfQ_u h1, rfQ_u h1]
  | true => cases h2 : ins with
    | false => subst h2; rw [rfQ_o h1 rfl, rfQ_o h1 rfl]
    | true => subst h2; rw [rfQ_v h1 rfl] at h; exact absurd rfl h
/-- two rows as they may be asked -/
def arB (one other n : Int32) : Bool := ixB one 20 && ixB other 20 && lnB n
theorem arB_iff {one other n : Int32} : arB one other n = true ↔ ixB one 20 = true ∧ ixB other 20 = true ∧ lnB n = true := by
  unfold arB
  rw [Bool.and_eq_true, Bool.and_eq_true]
  exact ⟨fun h => ⟨h.1.1, h.1.2, h.2⟩, fun h => ⟨⟨h.1, h.2.1⟩, h.2.2⟩⟩
theorem sgA_neg {z g : Nat → Nat} {sl : Nat} {x : Int32} (h : x < 0) : sgA z g sl x = 0 := if_pos h
theorem sgA_le {z g : Nat → Nat} (hg : ∀ j, g j ≤ 126) (sl : Nat) (x : Int32) : sgA z g sl x ≤ 126 := by
  unfold sgA; split
  · omega
  · exact sgN_le hg _ _
/-- the answers, and what a call makes of the code -/
def sayR (ps : Nat) (s : Int32) : Int32 := if sgB s then (if ps < 8 then nI (ps + 1) else -4) else -2
def sayS (ps : Nat) (pd : Nat → Nat) (s : Int32) : Nat × (Nat → Nat) := if sgB s = true ∧ ps < 8 then (ps + 1, upN pd ps (cN s)) else (ps, pd)
def lineR (nl ps : Nat) : Int32 := if nl < 20 then (if ps = 0 then -5 else nI nl) else -4
def lineS (nl nv : Nat) (z g : Nat → Nat) (ps : Nat) (pd : Nat → Nat) : Nat × (Nat → Nat) × (Nat → Nat) × Nat := if nl < 20 ∧ ps ≠ 0 then (nl + 1, wrZ z nl ps nv, wrG pd g nl ps nv, 0) else (nl, z, g, ps)
def chgR (nl ps : Nat) (x : Int32) : Int32 := if ixB x nl then (if ps = 0 then -5 else 1) else -1
def chgS (nl nv : Nat) (z g : Nat → Nat) (ps : Nat) (pd : Nat → Nat) (x : Int32) : (Nat → Nat) × (Nat → Nat) × Nat := if ixB x nl = true ∧ ps ≠ 0 then (upN z ((nv - 1) * 20 + cN x) ps, cpN pd g 0 (((nv - 1) * 20 + cN x) * 8) ps, 0) else (z, g, ps)
def verR (nv : Nat) : Int32 := if nv < 4 then nI nv else -4
def verS (nv : Nat) (z g : Nat → Nat) : Nat × (Nat → Nat) × (Nat → Nat) := if nv < 4 then (nv + 1, cpN z z ((nv - 1) * 20) (nv * 20) 20, cpN g g ((nv - 1) * 20 * 8) (nv * 20 * 8) 160) else (nv, z, g)
def sigR (nl nv : Nat) (z g : Nat → Nat) (v x i : Int32) : Int32 := if ixB v nv && ixB x nl then (if i = -1 then nI (z (cN v * 20 + cN x)) else if sgA z g (cN v * 20 + cN x) i = 0 then -6 else nI (sgA z g (cN v * 20 + cN x) i)) else -1
