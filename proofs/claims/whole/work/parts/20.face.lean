/-- the table of reaches itself -/
def rcC (way : Nat) (z g : Nat → Nat) (v nl : Nat) : Nat → Nat := fun q => if q / 20 < nl ∧ q % 20 < nl then rT way z g v nl (q / 20) (q % 20) else 0
theorem rcC_ok {way : Nat} {z g : Nat → Nat} {v nl : Nat} (h : nl ≤ 20) : rcOK way z g v nl (rcC way z g v nl) := by
  intro i j hi hj
  unfold rcC
  rw [show (i * 20 + j) / 20 = i by omega, show (i * 20 + j) % 20 = j by omega, if_pos ⟨hi, hj⟩]
theorem rcC_le {way : Nat} {z g : Nat → Nat} {v nl : Nat} (h : nl ≤ 20) : ∀ q, rcC way z g v nl q ≤ 20 := by
  intro q
  unfold rcC; split
  · exact Nat.le_trans (rT_le _ _ _ _ _ _ _) h
  · omega
theorem rcN_C {way : Nat} {z g : Nat → Nat} {v nl : Nat} {rc : Nat → Nat} (hnl : nl ≤ 20) (h : rcOK way z g v nl rc) (i j : Nat) : rcN rc nl i j = rcN (rcC way z g v nl) nl i j := by
  unfold rcN
  by_cases q : i < nl ∧ j < nl
  · rw [if_pos q, if_pos q, h i j q.1 q.2, rcC_ok hnl i j q.1 q.2]
  · rw [if_neg q, if_neg q]
theorem slN_C {way : Nat} {z g : Nat → Nat} {v nl : Nat} {rc : Nat → Nat} (hnl : nl ≤ 20) (h : rcOK way z g v nl rc) (s n : Nat) : slN rc nl s n = slN (rcC way z g v nl) nl s n := by
  unfold slN
  congr 1
  funext o
  rw [rcN_C hnl h]
theorem lgB_C {way : Nat} {z g : Nat → Nat} {v nl : Nat} {rc : Nat → Nat} (hnl : nl ≤ 20) (h : rcOK way z g v nl rc) (s n : Nat) : lgB rc nl s n = lgB (rcC way z g v nl) nl s n := by
  unfold lgB
  rw [slN_C hnl h]
theorem wlB_C {way : Nat} {z g : Nat → Nat} {v nl : Nat} {rc : Nat → Nat} (hnl : nl ≤ 20) (h : rcOK way z g v nl rc) (gr n : Nat) : wlB rc nl gr n = wlB (rcC way z g v nl) nl gr n := by
  unfold wlB
  rw [slN_C hnl h, slN_C hnl h]
theorem toN_C {way : Nat} {z g : Nat → Nat} {v nl : Nat} {rc : Nat → Nat} (hnl : nl ≤ 20) (h : rcOK way z g v nl rc) (s n : Nat) : toN z g v nl rc s n = toN z g v nl (rcC way z g v nl) s n := by
  unfold toN
  rw [slN_C hnl h]
theorem cvO_C {way : Nat} {z g : Nat → Nat} {v nl : Nat} {rc : Nat → Nat} (hnl : nl ≤ 20) (h : rcOK way z g v nl rc) : cvO z g v nl rc = cvO z g v nl (rcC way z g v nl) := by
  funext n s
  unfold cvO cvI cvL
  rw [lgB_C hnl h, slN_C hnl h, toN_C hnl h]
theorem lgI_C {way : Nat} {z g : Nat → Nat} {v nl : Nat} {rc : Nat → Nat} (hnl : nl ≤ 20) (h : rcOK way z g v nl rc) {i j ll lo lt : Nat} (hI : lgI rc nl i j ll lo lt) : lgI (rcC way z g v nl) nl i j ll lo lt := by
  have e : ∀ a b, lgV (rcC way z g v nl) nl a b = lgV rc nl a b := fun a b => by unfold lgV; rw [rcN_C hnl h]
  refine ⟨fun a b h1 h2 h3 => by rw [e]; exact hI.1 a b h1 h2 h3, fun h0 => ?_⟩
  obtain ⟨q1, q2, q3, q4⟩ := hI.2 h0
  exact ⟨q1, q2, by rw [e]; exact q3, fun a b h1 h2 h3 => by rw [e]; exact q4 a b h1 h2 h3⟩
/-- a start that is like another has its row there -/
theorem rT_end {way : Nat} {z g : Nat → Nat} {v nl i j : Nat} (hi : i < nl) (hj : j < nl) : j + rT way z g v nl i j ≤ nl ∧ i + rT way z g v nl i j ≤ nl := by
  unfold rT
  split
  · omega
  · split
    · have := rlN_le way z g v i j (nl - j); omega
    · have := rlN_le way z g v j i (nl - i); omega
theorem slN_end {way : Nat} {z g : Nat → Nat} {v nl : Nat} {rc : Nat → Nat} (h : rcOK way z g v nl rc) {s n t : Nat} (hn : 1 ≤ n) (ht : (slN rc nl s n).testBit t = true) : t + n ≤ nl ∧ s + n ≤ nl := by
  unfold slN at ht
  rw [mkN_bit, Bool.and_eq_true, decide_eq_true_iff, decide_eq_true_iff] at ht
  have h2 := ht.2
  unfold rcN at h2
  by_cases q : s < nl ∧ t < nl
  · rw [if_pos q, h s t q.1 q.2] at h2
    have := rT_end (way := way) (z := z) (g := g) (v := v) q.1 q.2
    omega
  · rw [if_neg q] at h2
    omega
/-- the i-th of those that have p; how many; none -/
def grF (p : Nat → Bool) (i : Int32) : Nat → Nat → Nat → Int32
  | 0, _, c => if i = -1 then nI c else -6
  | d + 1, s, c => if p s then (if nI c = i then nI s else grF p i d (s + 1) (c + 1)) else grF p i d (s + 1) c
theorem grF_t {p : Nat → Bool} {i : Int32} {d s c : Nat} (h : p s = true) (h2 : nI c = i) : grF p i (d + 1) s c = nI s := by
  unfold grF; rw [if_pos h, if_pos h2]
theorem grF_n {p : Nat → Bool} {i : Int32} {d s c : Nat} (h : p s = true) (h2 : ¬ nI c = i) : grF p i (d + 1) s c = grF p i d (s + 1) (c + 1) := by
  show (if _ then _ else _) = _
  rw [if_pos h, if_neg h2]
theorem grF_f {p : Nat → Bool} {i : Int32} {d s c : Nat} (h : p s = false) : grF p i (d + 1) s c = grF p i d (s + 1) c := by
  show (if _ then _ else _) = _
  rw [if_neg (by rw [h]; decide)]
/-- the first version in which they part -/
def ptF (A : Nat → Bool) : Nat → Nat → Bool → Int32
  | 0, _, _ => -6
  | d + 1, v, w => if w && !A v then nI v else ptF A d (v + 1) (A v)
theorem ptF_t {A : Nat → Bool} {d v : Nat} {w : Bool} (h : w = true) (h2 : A v = false) : ptF A (d + 1) v w = nI v := by
  unfold ptF; rw [if_pos (by rw [h, h2]; rfl)]
theorem ptF_f {A : Nat → Bool} {d v : Nat} {w : Bool} (h : w = false ∨ A v = true) : ptF A (d + 1) v w = ptF A d (v + 1) (A v) := by
  show (if _ then _ else _) = _
  rw [if_neg]
  rcases h with h | h <;> rw [h] <;> simp
def lgR (ll lo lt : Nat) (w : Int32) : Int32 := if ll = 0 then -6 else if w = 0 then nI ll else if w = 1 then nI lo else nI lt
def whR (rc : Nat → Nat) (nl s n : Nat) : Int32 := if bcN (slN rc nl s n) < 2 then -5 else if wlB rc nl (slN rc nl s n) n then 0 else 1
def plQ (nv : Nat) (v : Int32) (ins : Bool) (X : Int32) : Int32 := if ixB v nv then (if ins then X else -1002) else -1001
def plR (tc tk td : Nat) (sv w : Int32) : Int32 := if tc < 2 then -1005 else if w = 0 then nI tk else if w = 1 then nI td else sv
theorem plQ_n {nv : Nat} {v : Int32} {ins ins2 : Bool} {X : Int32} (h : ¬ rfQ nv v ins 0 = 0) (e : ins = ins2) : (-1000) + rfQ nv v ins 0 = plQ nv v ins2 X := by
  subst e
  unfold plQ
  cases h1 : ixB v nv with
  | false => rw [rfQ_u h1]; rfl
  | true => cases h2 : ins with
    | false => subst h2; rw [rfQ_o h1 rfl]; rfl
    | true => subst h2; rw [rfQ_v h1 rfl] at h; exact absurd rfl h
theorem plQ_v {nv : Nat} {v : Int32} {ins : Bool} {X : Int32} (h : ixB v nv = true) (h2 : ins = true) : plQ nv v ins X = X := by unfold plQ; rw [if_pos h, if_pos h2]
def beR (L : List (Nat × Nat × Nat × Nat)) (w : Int32) : Int32 := if (bsF L).1 = 0 then -6 else if w = 0 then nI (bsF L).1 else if w = 1 then nI (bsF L).2.1 else nI (bsF L).2.2
def laF (L : List (Nat × Nat × Nat × Nat)) (j : Nat) : Nat := (L.getD j (0, 0, 0, 0)).1
def lbF (L : List (Nat × Nat × Nat × Nat)) (j : Nat) : Nat := (L.getD j (0, 0, 0, 0)).2.1
def twN (L : List (Nat × Nat × Nat × Nat)) : Nat := max (bsF L).1 (mxI (fun i => mxI (fun j => if i < j then prF (laF L) (lbF L) i j else 0) L.length) L.length)
theorem mxI_cong {f g : Nat → Nat} : ∀ {n : Nat}, (∀ j, j < n → f j = g j) → mxI f n = mxI g n
  | 0, _ => rfl
  | n + 1, h => by
    show max _ _ = max _ _
    rw [mxI_cong (fun j hj => h j (by omega)), h n (by omega)]
theorem twN_of {L : List (Nat × Nat × Nat × Nat)} {ct : Nat} {sa li : Nat → Nat} {bs bt bl : Nat} (h : psOK L ct sa li bs bt bl) : max bs (mxI (fun i => mxI (fun j => if i < j then prF sa li i j else 0) ct) ct) = twN L := by
  have e : ∀ j, j < L.length → sa j = laF L j ∧ li j = lbF L j := by
    intro j hj
    have h1 := h.2.1 j L[j] (List.getElem?_eq_getElem hj)
    unfold laF lbF
    rw [List.getD_eq_getElem?_getD, List.getElem?_eq_getElem hj]
    exact h1
  unfold twN
  rw [h.2.2.1, h.1]
  congr 1
  refine mxI_cong (fun i hi => mxI_cong (fun j hj => ?_))
  unfold prF
  rw [(e i hi).1, (e i hi).2, (e j hj).1, (e j hj).2]
theorem beR_of {L : List (Nat × Nat × Nat × Nat)} {ct : Nat} {sa li : Nat → Nat} {bs bt bl : Nat} (h : psOK L ct sa li bs bt bl) (w : Int32) : (bs = 0 → beR L w = -6) ∧ (bs ≠ 0 → beR L w = if w = 0 then nI bs else if w = 1 then nI bt else nI bl) := by
  unfold beR
  refine ⟨fun q => ?_, fun q => ?_⟩
  · rw [if_pos (by rw [← h.2.2.1]; exact q)]
  · obtain ⟨e1, e2⟩ := h.2.2.2.1 (by omega)
    rw [if_neg (by rw [← h.2.2.1]; exact q), ← h.2.2.1, ← e1, ← e2]
def foR (p nm : Nat) (w : Int32) : Int32 := if nm = 0 then -6 else if w = 0 then nI p else nI nm
def okS (z g : Nat → Nat) (v nl one other n : Nat) : Prop := n ≤ adN one other ∧ max one other + n ≤ nl ∧ raB 1 z g v nl one other n = false
/-- mended in the first alone -/
def meB (z g : Nat → Nat) (v one other : Nat) : Bool := !(stB z g v one) && stB z g v other
def msN (z g : Nat → Nat) (v nl one other n : Nat) : Nat := if raB 1 z g v nl one other n then mkN (fun k => meB z g v (one + k) (other + k)) n else 0
def mdR (z g : Nat → Nat) (v nl one other n k : Nat) (i : Int32) : Int32 :=
  if raB 1 z g v nl one other n && meB z g v (one + k) (other + k) then
    (if i = -1 then nI (z ((v + 1) * 20 + (one + k))) else if sgA z g ((v + 1) * 20 + (one + k)) i = 0 then -6 else nI (rnN (rwX 1 z g v one other skn n).2 (sgA z g ((v + 1) * 20 + (one + k)) i))) else -5
def faN (z g : Nat → Nat) (v a b : Nat) : Nat := dsN (sgN z g (v * 20 + a)) (sgN z g (v * 20 + b)) (z (v * 20 + a)) (z (v * 20 + b))
theorem faN_le {z g : Nat → Nat} (hz : ∀ j, z j ≤ 8) (v a b : Nat) : faN z g v a b ≤ 32 := by
  have h1 := hz (v * 20 + a)
  have h2 := hz (v * 20 + b)
  have h3 := dsN_le (sgN z g (v * 20 + a)) (sgN z g (v * 20 + b)) (z (v * 20 + a)) (z (v * 20 + b))
  unfold faN
  omega
def farR (nl nv : Nat) (z g : Nat → Nat) (v a b : Int32) : Int32 := if ixB v nv && ixB a nl && ixB b nl then nI (faN z g (cN v) (cN a) (cN b)) else -1
def neaR (nl nv : Nat) (z g : Nat → Nat) (v a c : Int32) : Int32 := if ixB v nv && ixB a nl then (if ixB c 25 then nI (mkN (fun o => decide (faN z g (cN v) (cN a) o ≤ cN c)) nl) else -2) else -1
def tolR (ps nl nv : Nat) (w : Int32) : Int32 := if w = 0 then nI ps else if w = 1 then nI nl else if w = 2 then nI nv else -2
theorem sw3 (w : Int32) : w = nI 0 ∨ w = nI 1 ∨ w = nI 2 ∨ (w.toInt < 0 ∨ 2 < w.toInt) := by
  by_cases h : ixB w 3 = true
  · obtain ⟨v, hv, e⟩ := ixB_of (by decide) h
    rcases (show v = 0 ∨ v = 1 ∨ v = 2 by omega) with q | q | q
    · exact Or.inl (by rw [e, q])
    · exact Or.inr (Or.inl (by rw [e, q]))
    · exact Or.inr (Or.inr (Or.inl (by rw [e, q])))
  · refine Or.inr (Or.inr (Or.inr ?_))
    rw [ixB_iff] at h
    omega
theorem rfQ_x {nv : Nat} {v : Int32} {ins ins2 : Bool} (h : ¬ rfQ nv v ins 0 = 0) (e : ins = ins2) (h1 : ixB v nv = true) (h2 : ins2 = true) : False := h (by rw [e]; exact rfQ_v h1 h2)
def imS (c : Bool) (nl nv : Nat) (z g : Nat → Nat) (k nl2 nv2 : Nat) (z2 g2 : Nat → Nat) : Nat × Nat × Nat × (Nat → Nat) × (Nat → Nat) := if c then (1, nl, nv, cpN z z2 0 0 80, cpN g g2 0 0 640) else (k, nl2, nv2, z2, g2)
def resR (k0 k1 : Nat) (n : Int32) : Int32 := if ixB n 2 then (if (if cN n = 0 then k0 else k1) = 0 then -3 else 1) else -2
def reS (c : Bool) (nl nv : Nat) (z g : Nat → Nat) (nl2 nv2 : Nat) (z2 g2 : Nat → Nat) : Nat × Nat × (Nat → Nat) × (Nat → Nat) := if c then (nl2, nv2, cpN z2 z 0 0 80, cpN g2 g 0 0 640) else (nl, nv, z, g)
def resS (k0 k1 : Nat) (n : Int32) (nl nv : Nat) (z g : Nat → Nat) (nlz nvz : Nat) (zz gz : Nat → Nat) (nly nvy : Nat) (zy gy : Nat → Nat) : Nat × Nat × (Nat → Nat) × (Nat → Nat) :=
  if ixB n 2 then (if cN n = 0 then reS (decide (k0 ≠ 0)) nl nv z g nlz nvz zz gz else reS (decide (k1 ≠ 0)) nl nv z g nly nvy zy gy) else (nl, nv, z, g)
theorem reS_t {c : Bool} {nl nv : Nat} {z g : Nat → Nat} {nl2 nv2 : Nat} {z2 g2 : Nat → Nat} (h : c = true) : reS c nl nv z g nl2 nv2 z2 g2 = (nl2, nv2, cpN z2 z 0 0 80, cpN g2 g 0 0 640) := if_pos h
theorem reS_f {c : Bool} {nl nv : Nat} {z g : Nat → Nat} {nl2 nv2 : Nat} {z2 g2 : Nat → Nat} (h : c = false) : reS c nl nv z g nl2 nv2 z2 g2 = (nl, nv, z, g) := if_neg (by rw [h]; decide)
def paR (ins : Bool) (X : Int32) : Int32 := if ins then X else -2
theorem paR_t {ins : Bool} {X : Int32} (h : ins = true) : paR ins X = X := if_pos h
theorem paR_f {ins : Bool} {X : Int32} (h : ins = false) : paR ins X = -2 := if_neg (by rw [h]; decide)
