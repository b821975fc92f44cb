theorem pos_nI {x : Int32} (h : ¬ x ≤ 0) : x = nI x.toNatClampNeg := by
  obtain ⟨j, hj, e⟩ := nI_of (x := x) (fun q => h (by rw [fa_le]; have := (fa_lt x 0).mp q; omega))
  rw [e, nI_clamp hj]
theorem pos_cl {x : Int32} (h : ¬ x ≤ 0) : 0 < x.toNatClampNeg ∧ (x.toNatClampNeg : Int) = x.toInt := by
  obtain ⟨j, hj, e⟩ := nI_of (x := x) (fun q => h (by rw [fa_le]; have := (fa_lt x 0).mp q; omega))
  rw [fa_le, tI0] at h
  rw [e, nI_clamp hj, nI_toInt hj]
  rw [e, nI_toInt hj] at h
  omega
/-- the best of some savings: the first of the greatest -/
def bsF (L : List (Nat × Nat × Nat × Nat)) : Nat × Nat × Nat := L.foldl (fun b x => if b.1 < x.1 then (x.1, x.2.2.1, x.2.2.2) else b) (0, 0, 0)
theorem bsF_app (L : List (Nat × Nat × Nat × Nat)) (x : Nat × Nat × Nat × Nat) : bsF (L ++ [x]) = if (bsF L).1 < x.1 then (x.1, x.2.2.1, x.2.2.2) else bsF L := by
  unfold bsF
  rw [List.foldl_append]
  rfl
def psOK (L : List (Nat × Nat × Nat × Nat)) (ct : Nat) (sa li : Nat → Nat) (bs bt bl : Nat) : Prop :=
  ct = L.length ∧ (∀ j x, L[j]? = some x → sa j = x.1 ∧ li j = x.2.1) ∧ bs = (bsF L).1 ∧ (0 < bs → bt = (bsF L).2.1 ∧ bl = (bsF L).2.2) ∧ bs ≤ 1000 ∧ (∀ x ∈ L, 0 < x.1 ∧ x.1 ≤ 1000 ∧ x.2.1 < 2 ^ 20) ∧ (∀ j, sa j ≤ 1000) ∧ ∀ j, li j < 2 ^ 20
theorem psOK_nil {sa li : Nat → Nat} (h1 : ∀ j, sa j ≤ 1000) (h2 : ∀ j, li j < 2 ^ 20) (bt bl : Nat) : psOK [] 0 sa li 0 bt bl := ⟨rfl, fun j x h => by simp at h, rfl, fun h => by omega, by omega, fun x h => absurd h List.not_mem_nil, h1, h2⟩
theorem ps_app {L : List (Nat × Nat × Nat × Nat)} {ct : Nat} {sa li : Nat → Nat} {x : Nat × Nat × Nat × Nat} (hc : ct = L.length) (h : ∀ j x, L[j]? = some x → sa j = x.1 ∧ li j = x.2.1) : ∀ j y, (L ++ [x])[j]? = some y → upN sa ct x.1 j = y.1 ∧ upN li ct x.2.1 j = y.2.1 := by
  intro j y hj
  by_cases e : j = ct
  · subst e
    rw [hc, List.getElem?_append_right (Nat.le_refl _), Nat.sub_self] at hj
    cases hj
    rw [upN_s, upN_s]
    exact ⟨rfl, rfl⟩
  · have hl : j < L.length := by
      have := (List.getElem?_eq_some_iff.mp hj).1
      rw [List.length_append] at this
      simp at this
      omega
    rw [List.getElem?_append_left hl] at hj
    rw [upN_ne e, upN_ne e]
    exact h j y hj
theorem psOK_new {L : List (Nat × Nat × Nat × Nat)} {ct : Nat} {sa li : Nat → Nat} {bs bt bl w tn start n : Nat} (h : psOK L ct sa li bs bt bl) (hw0 : 0 < w) (hw : w ≤ 1000) (ht : tn < 2 ^ 20) :
    (bs < w → psOK (L ++ [(w, tn, start, n)]) (ct + 1) (upN sa ct w) (upN li ct tn) w start n) ∧ (w ≤ bs → psOK (L ++ [(w, tn, start, n)]) (ct + 1) (upN sa ct w) (upN li ct tn) bs bt bl) := by
  have hm : ∀ x ∈ L ++ [(w, tn, start, n)], 0 < x.1 ∧ x.1 ≤ 1000 ∧ x.2.1 < 2 ^ 20 := by
    intro x hx
    rcases List.mem_append.mp hx with q | q
    · exact h.2.2.2.2.2.1 x q
    · rw [List.mem_singleton.mp q]; exact ⟨hw0, hw, ht⟩
  have hl : ct + 1 = (L ++ [(w, tn, start, n)]).length := by rw [List.length_append, h.1]; rfl
  have ha : ∀ j, upN sa ct w j ≤ 1000 := upN_le h.2.2.2.2.2.2.1 hw
  have hi : ∀ j, upN li ct tn j < 2 ^ 20 := fun j => by unfold upN; split; exact ht; exact h.2.2.2.2.2.2.2 j
  refine ⟨fun q => ⟨hl, ps_app (x := (w, tn, start, n)) h.1 h.2.1, ?_, ?_, hw, hm, ha, hi⟩, fun q => ⟨hl, ps_app (x := (w, tn, start, n)) h.1 h.2.1, ?_, ?_, h.2.2.2.2.1, hm, ha, hi⟩⟩
  · rw [bsF_app, if_pos (by rw [← h.2.2.1]; exact q)]
  · intro _
    rw [bsF_app, if_pos (by rw [← h.2.2.1]; exact q)]
    exact ⟨rfl, rfl⟩
  · rw [bsF_app, if_neg (by rw [← h.2.2.1]; show ¬ bs < w; omega)]
    exact h.2.2.1
  · intro q0
    rw [bsF_app, if_neg (by rw [← h.2.2.1]; show ¬ bs < w; omega)]
    exact h.2.2.2.1 q0
def cdL (sv : Int32) (tn start n : Nat) : List (Nat × Nat × Nat × Nat) := if sv ≤ 0 then [] else [(sv.toNatClampNeg, tn, start, n)]
theorem cdL_f {sv : Int32} {tn start n : Nat} (h : ¬ sv ≤ 0) : cdL sv tn start n = [(sv.toNatClampNeg, tn, start, n)] := if_neg h
theorem cdL_t {sv : Int32} {tn start n : Nat} (h : sv ≤ 0) : cdL sv tn start n = [] := if_pos h
/-- what a group's procedure saves, its lines -/
def cvI (z g : Nat → Nat) (v nl : Nat) (rc : Nat → Nat) (s n : Nat) : Int32 := svI (tkF (slN rc nl s n) n 20).2.2.2 n (toN z g v nl rc s n)
def cvL (nl : Nat) (rc : Nat → Nat) (s n : Nat) : Nat := (tkF (slN rc nl s n) n 20).2.2.1
def cvO (z g : Nat → Nat) (v nl : Nat) (rc : Nat → Nat) (n s : Nat) : List (Nat × Nat × Nat × Nat) := if lgB rc nl s n then cdL (cvI z g v nl rc s n) (cvL nl rc s n) s n else []
def rowL (F : Nat → List (Nat × Nat × Nat × Nat)) : Nat → List (Nat × Nat × Nat × Nat)
  | 0 => []
  | s + 1 => rowL F s ++ F s
def allL (F : Nat → Nat → List (Nat × Nat × Nat × Nat)) (nl : Nat) : Nat → List (Nat × Nat × Nat × Nat)
  | 0 => []
  | n + 1 => allL F nl n ++ rowL (F (n + 1)) (nl - n)
/-- no more is taken than there is -/
theorem tk_room {gr n : Nat} (hg : ∀ t, gr.testBit t = true → t + n ≤ 20) : ∀ k, (tkF gr n k).2.2.2 * n ≤ (tkF gr n k).2.1 ∧ (tkF gr n k).2.1 ≤ 20
  | 0 => ⟨Nat.le_of_eq (Nat.zero_mul n), Nat.zero_le _⟩
  | k + 1 => by
    have ih := tk_room hg k
    by_cases q : gr.testBit k = true ∧ (tkF gr n k).2.1 ≤ k
    · rw [tkF_t q.1 q.2]
      refine ⟨?_, hg k q.1⟩
      show ((tkF gr n k).2.2.2 + 1) * n ≤ k + n
      rw [Nat.succ_mul]
      omega
    · rw [tkF_f q]; exact ih
theorem svI_int {ct n td : Nat} (h1 : ct ≤ 20) (h2 : n ≤ 20) (h3 : ct * n ≤ 400) (h4 : td ≤ 160) : (svI ct n td).toInt = (ct * n : Nat) - (n + 1 : Int) - ct - td := by
  unfold svI
  have e1 := nI_toInt (show ct * n < 2 ^ 31 by omega)
  have e2 := nI_toInt (show n + 1 < 2 ^ 31 by omega)
  have e3 := nI_toInt (show ct < 2 ^ 31 by omega)
  have e4 := nI_toInt (show td < 2 ^ 31 by omega)
  have f1 : (nI (ct * n) - nI (n + 1)).toInt = (nI (ct * n)).toInt - (nI (n + 1)).toInt := fb_subI (by omega) (by omega)
  have f2 : (nI (ct * n) - nI (n + 1) - nI ct).toInt = (nI (ct * n) - nI (n + 1)).toInt - (nI ct).toInt := fb_subI (by omega) (by omega)
  have f3 : (nI (ct * n) - nI (n + 1) - nI ct - nI td).toInt = (nI (ct * n) - nI (n + 1) - nI ct).toInt - (nI td).toInt := fb_subI (by omega) (by omega)
  rw [f3, f2, f1, e1, e2, e3, e4]
  omega
theorem cv_pos {z g : Nat → Nat} {v nl : Nat} {rc : Nat → Nat} {s n : Nat} (hg : ∀ t, (slN rc nl s n).testBit t = true → t + n ≤ 20) (hn : n ≤ 20) (h : ¬ cvI z g v nl rc s n ≤ 0) : n ≤ 10 ∧ (cvI z g v nl rc s n).toNatClampNeg ≤ 1000 ∧ 2 ≤ (tkF (slN rc nl s n) n 20).2.2.2 := by
  obtain ⟨p1, p2⟩ := pos_cl h
  obtain ⟨r1, r2⟩ := tk_room hg 20
  have r3 := (tkI_ok hg 20).2.2.1
  have t1 : toN z g v nl rc s n ≤ 160 := by have := tdN_le z g v (tkF (slN rc nl s n) n 20).1 n; unfold toN; omega
  have e := svI_int (ct := (tkF (slN rc nl s n) n 20).2.2.2) (n := n) (td := toN z g v nl rc s n) r3 hn (by omega) t1
  unfold cvI at p1 p2 ⊢
  generalize (tkF (slN rc nl s n) n 20).2.2.2 = ct at *
  generalize toN z g v nl rc s n = td at *
  have h2 : 2 ≤ ct := by
    apply Nat.not_lt.mp
    intro q
    rcases (show ct = 0 ∨ ct = 1 by omega) with q | q
    · subst q; omega
    · subst q; rw [Nat.one_mul] at *; omega
  have h3 : 2 * n ≤ ct * n := Nat.mul_le_mul_right n h2
  omega
/-- the greatest of the first n -/
def mxI (f : Nat → Nat) : Nat → Nat
  | 0 => 0
  | n + 1 => max (mxI f n) (f n)
def prF (sa li : Nat → Nat) (i j : Nat) : Nat := if li i &&& li j = 0 then sa i + sa j else 0
theorem mxI_le {f : Nat → Nat} {b : Nat} (h : ∀ j, f j ≤ b) : ∀ n, mxI f n ≤ b
  | 0 => Nat.zero_le b
  | n + 1 => Nat.max_le.mpr ⟨mxI_le h n, h n⟩
