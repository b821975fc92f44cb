/-- the first of d signs from 97 on that has p; 0: none -/
def fcN (p : Nat → Bool) : Nat → Nat
  | 0 => 0
  | d + 1 => if fcN p d = 0 then (if p (97 + d) then 97 + d else 0) else fcN p d
def fmQ (p : Nat → Bool) (a d : Nat) : Nat := if nmB a then fcN p d else 0
theorem fmQ_n {p : Nat → Bool} {a : Nat} (h : nmB a = false) (d : Nat) : fmQ p a d = 0 := if_neg (by rw [h]; decide)
theorem fmQ_0 (p : Nat → Bool) (a : Nat) : fmQ p a 0 = 0 := by unfold fmQ fcN; split <;> rfl
theorem fmQ_t {p : Nat → Bool} {a d : Nat} (h : nmB a = true) (h0 : fmQ p a d = 0) (hp : p (97 + d) = true) : fmQ p a (d + 1) = 97 + d := by
  unfold fmQ at *
  rw [if_pos h] at *
  show (if fcN p d = 0 then _ else _) = _
  rw [if_pos h0, if_pos hp]
theorem fmQ_f {p : Nat → Bool} {a d : Nat} (h0 : fmQ p a d = 0) (hp : p (97 + d) = false) : fmQ p a (d + 1) = 0 := by
  unfold fmQ at *
  split
  · rename_i h
    rw [if_pos h] at h0
    show (if fcN p d = 0 then _ else _) = _
    rw [if_pos h0, if_neg (by rw [hp]; decide)]
  · rfl
theorem fmQ_stay {p : Nat → Bool} {a d : Nat} (h : fmQ p a d ≠ 0) : ∀ e, fmQ p a (d + e) = fmQ p a d
  | 0 => rfl
  | e + 1 => by
    have ih := fmQ_stay h e
    by_cases hn : nmB a = true
    · have h2 : fmQ p a (d + e) ≠ 0 := by rw [ih]; exact h
      rw [← ih]
      unfold fmQ at *
      rw [if_pos hn] at *
      show (if fcN p (d + e) = 0 then _ else _) = _
      rw [if_neg h2, if_pos hn]
      rfl
    · exact absurd (if_neg hn) h
/-- the sign that the model finds for a place -/
def fmF (z g : Nat → Nat) (v nl one oth n k i : Nat) : Nat := fmQ (fun c => rmB 1 z g v nl one oth n (nI k) i c) (g ((v * 20 + (oth + k)) * 8 + i)) 26
theorem foR_nn {pl nm : Nat} {w : Int32} (h : 0 ≤ foR pl nm w) : nm ≠ 0 := by
  intro e
  subst e
  exact absurd h (show ¬ (0 : Int32) ≤ -6 by decide)
theorem foR_ng {pl nm : Nat} {w : Int32} (hp : pl ≤ 300) (hn : nm ≤ 126) (h : ¬ 0 ≤ foR pl nm w) : nm = 0 := by
  rcases Nat.eq_zero_or_pos nm with e | e
  · exact e
  · refine absurd ?_ h
    unfold foR
    rw [if_neg (by omega)]
    split
    · exact nI_pos' (by omega)
    · exact nI_pos' (by omega)
/-- where the model looks for a forgotten sign -/
def okM (z g : Nat → Nat) (v nl one oth n : Nat) (op os : Nat) : Prop := (one + n ≤ oth ∨ oth + n ≤ one) ∧ one + n ≤ nl ∧ oth + n ≤ nl ∧ rmB 1 z g v nl one oth n (-6) op os = false

theorem yd_X8_forgotten : yX8_forgotten.cls = RX8 ∧ yX8_forgotten.cls ≠ "java/lang/invoke/MethodHandle" ∧ yX8_forgotten.cls ≠ "java/lang/invoke/VarHandle" ∧ (parseMethodDescriptor yX8_forgotten.desc).map (fun d => d.parameters.length) = some 5 := by decide +kernel
set_option maxHeartbeats 4000000 in
set_option maxRecDepth 100000 in
theorem k_X8_forgotten (l : Launch) (D : va_G) (cI cZ : ClassId) (mo ps mpa nl nv msz mcd mbe mba op os svn ms1 ms2 ms3 ms4 mfa mim mik : Nat) (be ba z g : Nat → Nat) (ve one oth n wh : Int32) (hnl : nl ≤ 20) (hnv : nv ≤ 4) (hz : ∀ j, z j ≤ 8) (hg : ∀ j, g j ≤ 126) (hbe : ∀ j, be j ≤ 126) (hba : ∀ j, ba j ≤ 126) (hop : op ≤ 100) (hos : os ≤ 126) : Met l yX8_forgotten wsX8_forgotten ({ frames := 4, cells := 0, slots := 0, locals := 93 }) (mPc [.ref mo, .int ve, .int one, .int oth, .int n, .int wh] D cI cZ [(mo, .inr (8, [.int (nI ps), .ref mpa, .int (nI nl), .int (nI nv), .ref msz, .ref mcd, .ref mbe, .ref mba, .int (-6), .int (nI op), .int (nI os), .int (nI svn), .ref ms1, .ref ms2, .ref ms3, .ref ms4, .ref mfa, .ref mim, .ref mik])), (mbe, aN cI 26 be), (mba, aN cI 26 ba), (msz, aN cI 80 z), (mcd, aN cI 640 g)]) (mQi D (mA [(mo, .inr (8, [.int (nI ps), .ref mpa, .int (nI nl), .int (nI nv), .ref msz, .ref mcd, .ref mbe, .ref mba, .int (-6), .int (nI op), .int (nI os), .int (nI svn), .ref ms1, .ref ms2, .ref ms3, .ref ms4, .ref mfa, .ref mim, .ref mik])), (mbe, aN cI 26 be), (mba, aN cI 26 ba), (msz, aN cI 80 z), (mcd, aN cI 640 g)]) (fun (r : Int32) (u : (Nat → Nat) × (Nat → Nat) × Nat × Nat × Nat × Nat) => r = rfQ nv ve (arB one oth n && ixB wh 2) (foR u.2.2.2.2.1 u.2.2.2.2.2 wh) ∧ (∀ j, u.1 j ≤ 126) ∧ (∀ j, u.2.1 j ≤ 126) ∧ u.2.2.1 ≤ 100 ∧ u.2.2.2.1 ≤ 126 ∧ (ixB ve nv = true → (arB one oth n && ixB wh 2) = true → (¬ okM z g (cN ve) nl (cN one) (cN oth) (cN n) op os → u.2.2.2.2.2 = 0) ∧ (okM z g (cN ve) nl (cN one) (cN oth) (cN n) op os → fgI (fmF z g (cN ve) nl (cN one) (cN oth) (cN n)) (fun a => z (cN ve * 20 + (cN oth + a))) (cN n) 0 u.2.2.2.2.1 u.2.2.2.2.2))) (fun (u : (Nat → Nat) × (Nat → Nat) × Nat × Nat × Nat × Nat) => [(mo, .inr (8, [.int (nI ps), .ref mpa, .int (nI nl), .int (nI nv), .ref msz, .ref mcd, .ref mbe, .ref mba, .int (-6), .int (nI u.2.2.1), .int (nI u.2.2.2.1), .int (nI svn), .ref ms1, .ref ms2, .ref ms3, .ref ms4, .ref mfa, .ref mim, .ref mik])), (mbe, aN cI 26 u.1), (mba, aN cI 26 u.2.1), (msz, aN cI 80 z), (mcd, aN cI 640 g)])) 0 0 (mA [(mo, .inr (8, [.int (nI ps), .ref mpa, .int (nI nl), .int (nI nv), .ref msz, .ref mcd, .ref mbe, .ref mba, .int (-6), .int (nI op), .int (nI os), .int (nI svn), .ref ms1, .ref ms2, .ref ms3, .ref ms4, .ref mfa, .ref mim, .ref mik])), (mbe, aN cI 26 be), (mba, aN cI 26 ba), (msz, aN cI 80 z), (mcd, aN cI 640 g)]) := by
  refine Met.ofW (cc := cX8_forgotten) (maxL := 12) (ret := (some .int)) (by decide) rfl ?_
  intro p e s m args below meth c s₁ BB hml hv
  obtain ⟨hargs, hP, hD0, hK⟩ := hv
  have hx := BB.exec
  have hb := BB.bytes
  have hr := BB.returns
  have hts := atoms_spec (ws := wsX8_forgotten) BB.pre
  have hown : s.vm.findClass RX8 = some m.cls := findClass_of_methodNamed BB.named
  have hlocks := BB.notSynchronized
  have hcf : CallFix p m c cX8_forgotten 12 s args wsX8_forgotten RX8 := ⟨hx, hb, hml, hown, hts⟩
  obtain ⟨A, hAe⟩ : ∃ A, A = mA [(mo, .inr (8, [.int (nI ps), .ref mpa, .int (nI nl), .int (nI nv), .ref msz, .ref mcd, .ref mbe, .ref mba, .int (-6), .int (nI op), .int (nI os), .int (nI svn), .ref ms1, .ref ms2, .ref ms3, .ref ms4, .ref mfa, .ref mim, .ref mik])), (mbe, aN cI 26 be), (mba, aN cI 26 ba), (msz, aN cI 80 z), (mcd, aN cI 640 g)] := ⟨_, rfl⟩
  have hD : va_D A [(mo, .inr (8, [.int (nI ps), .ref mpa, .int (nI nl), .int (nI nv), .ref msz, .ref mcd, .ref mbe, .ref mba, .int (-6), .int (nI op), .int (nI os), .int (nI svn), .ref ms1, .ref ms2, .ref ms3, .ref ms4, .ref mfa, .ref mim, .ref mik])), (mbe, aN cI 26 be), (mba, aN cI 26 ba), (msz, aN cI 80 z), (mcd, aN cI 640 g)] := ⟨hD0.1, fun k q h => by rw [hAe]; exact ⟨k, q.2, h⟩⟩
  have hS : va_S A s.heap s.heap [] := va_S.rf
  rw [← hAe]
  rw [hargs, lg_entry_eq, ← hargs]
  have hl := lv_entry ([.ref mo, .int ve, .int one, .int oth, .int n, .int wh]) (n := 12) (Nat.le_of_ble_eq_true rfl)
  generalize (lg_sl ([.ref mo, .int ve, .int one, .int oth, .int n, .int wh]) ++ List.replicate (12 - (lg_sl ([.ref mo, .int ve, .int one, .int oth, .int n, .int wh])).length) Slot.unset).toArray = ls at hl ⊢
  have hl : lv_has ls 12 [(0, .ref mo), (1, .int ve), (2, .int one), (3, .int oth), (4, .int n), (5, .int wh)] := hl
  obtain ⟨Q, hQ⟩ : ∃ Q, Q = MQ below (mQi D A (fun (r : Int32) (u : (Nat → Nat) × (Nat → Nat) × Nat × Nat × Nat × Nat) => r = rfQ nv ve (arB one oth n && ixB wh 2) (foR u.2.2.2.2.1 u.2.2.2.2.2 wh) ∧ (∀ j, u.1 j ≤ 126) ∧ (∀ j, u.2.1 j ≤ 126) ∧ u.2.2.1 ≤ 100 ∧ u.2.2.2.1 ≤ 126 ∧ (ixB ve nv = true → (arB one oth n && ixB wh 2) = true → (¬ okM z g (cN ve) nl (cN one) (cN oth) (cN n) op os → u.2.2.2.2.2 = 0) ∧ (okM z g (cN ve) nl (cN one) (cN oth) (cN n) op os → fgI (fmF z g (cN ve) nl (cN one) (cN oth) (cN n)) (fun a => z (cN ve * 20 + (cN oth + a))) (cN n) 0 u.2.2.2.2.1 u.2.2.2.2.2))) (fun (u : (Nat → Nat) × (Nat → Nat) × Nat × Nat × Nat × Nat) => [(mo, .inr (8, [.int (nI ps), .ref mpa, .int (nI nl), .int (nI nv), .ref msz, .ref mcd, .ref mbe, .ref mba, .int (-6), .int (nI u.2.2.1), .int (nI u.2.2.2.1), .int (nI svn), .ref ms1, .ref ms2, .ref ms3, .ref ms4, .ref mfa, .ref mim, .ref mik])), (mbe, aN cI 26 u.1), (mba, aN cI 26 u.2.1), (msz, aN cI 80 z), (mcd, aN cI 640 g)])) args s 0 0 A := ⟨_, rfl⟩
  rw [← hQ]
  have i_X8 : ∀ w ∈ u_ws RX8 TX8 19, w ∈ wsX8_forgotten := by decide +kernel
  have f_25 := hts (.fieldLink RX8 25 "SameAgainModel" "otherLine" "I") (by decide +kernel)
  have f_96 := hts (.fieldLink RX8 96 "SameAgainModel" "otherPlace" "I") (by decide +kernel)
  have f_99 := hts (.fieldLink RX8 99 "SameAgainModel" "otherSign" "I") (by decide +kernel)
  refine lv_aload_n hx hb dX8_forgotten_0 rfl (lv_at hl 0 rfl) ?_
  refine lv_iload_n hx hb dX8_forgotten_1 rfl (lv_at hl 1 rfl) ?_
  refine m_rdV (As := [.int ve]) (rest := []) (wc := [(mo, .inr (8, [.int (nI ps), .ref mpa, .int (nI nl), .int (nI nv), .ref msz, .ref mcd, .ref mbe, .ref mba, .int (-6), .int (nI op), .int (nI os), .int (nI svn), .ref ms1, .ref ms2, .ref ms3, .ref ms4, .ref mfa, .ref mim, .ref mik]))]) hcf (k_X8_isVersion (l := l) (D := D) (cI := cI) (cZ := cZ) (x := ve) (mo := mo) (ps := ps) (mpa := mpa) (nl := nl) (nv := nv) (msz := msz) (mcd := mcd) (mbe := mbe) (mba := mba) (ol := -6) (op := op) (os := os) (svn := svn) (ms1 := ms1) (ms2 := ms2) (ms3 := ms3) (ms4 := ms4) (mfa := mfa) (mim := mim) (mik := mik) (hnl := hnl) (hnv := hnv)) (cwV 1 hts gX8_forgotten_X8_isVersion rfl rfl rfl yd_X8_isVersion ⟨Nat.le_of_ble_eq_true rfl, Nat.le_of_ble_eq_true rfl⟩) (m_preV hK hP hD [0] (by decide) rfl rfl rfl) rfl hl.1 rfl (Nat.le_of_ble_eq_true rfl) dX8_forgotten_2 ⟨Nat.zero_le _, Nat.zero_le _⟩ ?_
  refine m_ifB_ne (tgt := 10) hx hb dX8_forgotten_5 (by decide) (fun c_5 => ?_) (fun c_5 => ?_)
  · obtain ⟨e_v, i_v⟩ := ixB_cN (by omega) c_5
    refine lv_iconst (v := nI 0) hx hb dX8_forgotten_10 (by decide) ?_
    refine lv_iload_n hx hb dX8_forgotten_11 rfl (lv_at hl 2 rfl) ?_
    refine lv_iload_n hx hb dX8_forgotten_12 rfl (lv_at hl 3 rfl) ?_
    refine lv_iload hx hb dX8_forgotten_13 (lv_at hl 4 rfl) ?_
    refine m_rdS (As := [.int (nI 0), .int one, .int oth, .int n]) (rest := []) (wc := []) hcf (k_X8_areRows (l := l) (D := D) (cI := cI) (cZ := cZ) (way := nI 0) (one := one) (oth := oth) (n := n) ) (va_cwS 4 hts gX8_forgotten_X8_areRows rfl rfl rfl yd_X8_areRows.2 ⟨Nat.le_of_ble_eq_true rfl, Nat.le_of_ble_eq_true rfl⟩) (m_preS hK hP hD [] (by decide) rfl) rfl hl.1 rfl (Nat.le_of_ble_eq_true rfl) dX8_forgotten_15 ⟨Nat.zero_le _, Nat.zero_le _⟩ ?_
    refine m_ifB_eq (tgt := 31) hx hb dX8_forgotten_18 (by decide) (fun c_18 => ?_) (fun c_18 => ?_)
    · have K9 : arB one oth n = false := by
        have h9 := c_18
        rw [show ixB (nI 0) 3 = true from by decide, Bool.true_and] at h9
        exact h9
      refine lv_bipush (v := (-2)) hx hb dX8_forgotten_31 (by decide) ?_
      rw [hQ]
      have KI : (arB one oth n && ixB wh 2) = false := by first | (simp [K9]; done) | (simp [c_28]; done)
      exact m_iwr hx hb hr hlocks (be, ba, op, os, 0, 0) (⟨by rw [rfQ_o c_5 KI], hbe, hba, hop, hos, fun _ h => by (rw [KI] at h; cases h)⟩) hP hS dX8_forgotten_33
    · obtain ⟨K1, K2, K3⟩ := arB_iff.mp (Bool.and_eq_true_iff.mp c_18).2
      obtain ⟨e_1, i_1⟩ := ixB_cN (by decide) K1
      obtain ⟨e_2, i_2⟩ := ixB_cN (by decide) K2
      obtain ⟨e_n, i_n, j_n⟩ := lnB_cN K3
      have K9 := (Bool.and_eq_true_iff.mp c_18).2
      refine lv_iload hx hb dX8_forgotten_21 (lv_at hl 5 rfl) ?_
      refine lv_iconst (v := nI 0) hx hb dX8_forgotten_23 (by decide) ?_
      refine lv_iconst (v := nI 1) hx hb dX8_forgotten_24 (by decide) ?_
      refine m_rdS (As := [.int wh, .int (nI 0), .int (nI 1)]) (rest := []) (wc := []) hcf (k_X8_in (l := l) (D := D) (cI := cI) (cZ := cZ) (x := wh) (lo := nI 0) (hi := nI 1) ) (va_cwS 3 hts gX8_forgotten_X8_in rfl rfl rfl yd_X8_in.2 ⟨Nat.le_of_ble_eq_true rfl, Nat.le_of_ble_eq_true rfl⟩) (m_preS hK hP hD [] (by decide) rfl) rfl hl.1 rfl (Nat.le_of_ble_eq_true rfl) dX8_forgotten_25 ⟨Nat.zero_le _, Nat.zero_le _⟩ ?_
      refine m_top (y := bI (ixB wh 2)) (by rw [inB_ix0 (by decide)]) ?_
      refine m_ifB_ne (tgt := 34) hx hb dX8_forgotten_28 (by decide) (fun c_28 => ?_) (fun c_28 => ?_)
      · have KI : (arB one oth n && ixB wh 2) = true := by rw [K9, c_28]; rfl
        have hl : lv_has ls 12 [(0, .ref mo), (1, .int (nI (cN ve))), (2, .int (nI (cN one))), (3, .int (nI (cN oth))), (4, .int (nI (cN n))), (5, .int wh)] := by rw [← e_v, ← e_1, ← e_2, ← e_n]; exact hl
        refine lv_iload_n hx hb dX8_forgotten_34 rfl (lv_at hl 2 rfl) ?_
        refine lv_iload hx hb dX8_forgotten_35 (lv_at hl 4 rfl) ?_
        refine m_add hx hb dX8_forgotten_37 ?_
        refine lv_iload_n hx hb dX8_forgotten_38 rfl (lv_at hl 3 rfl) ?_
        refine m_cmp_le (tgt := 50) hx hb dX8_forgotten_39 (by decide) (by omega) (by omega) (fun c_39 => ?_) (fun c_39 => ?_)
        · refine lv_iconst (v := nI 1) hx hb dX8_forgotten_50 (by decide) ?_
          refine lv_goto (tgt := 55) hx hb dX8_forgotten_51 (by decide) ?_
          refine lv_istore (lv' := [(6, .int (nI 1)), (0, .ref mo), (1, .int (nI (cN ve))), (2, .int (nI (cN one))), (3, .int (nI (cN oth))), (4, .int (nI (cN n))), (5, .int wh)]) hx hb dX8_forgotten_55 hl (by decide) rfl (fun ls hl => ?_)
          refine lv_iload hx hb dX8_forgotten_57 (lv_at hl 0 rfl) ?_
          refine m_if_eq (tgt := 95) hx hb dX8_forgotten_59 (by decide) (by omega) (fun c_59 => ?_) (fun c_59 => ?_)
          · refine lv_bipush (v := (-6)) hx hb dX8_forgotten_95 (by decide) ?_
            rw [hQ]
            exact m_iwr hx hb hr hlocks (be, ba, op, os, 0, 0) (⟨by rw [rfQ_v c_5 KI]; rfl, hbe, hba, hop, hos, fun _ _ => ⟨fun _ => rfl, fun h => by obtain ⟨q1, q2, q3, q4⟩ := h; exfalso; first | omega | (rw [c_92] at q4; cases q4)⟩⟩) hP hS dX8_forgotten_97
          · refine lv_aload_n hx hb dX8_forgotten_62 rfl (lv_at hl 1 rfl) ?_
            refine lv_iload_n hx hb dX8_forgotten_63 rfl (lv_at hl 3 rfl) ?_
            refine lv_iload hx hb dX8_forgotten_64 (lv_at hl 5 rfl) ?_
            refine m_rdV (As := [.int (nI (cN one)), .int (nI (cN n))]) (rest := []) (wc := [(mo, .inr (8, [.int (nI ps), .ref mpa, .int (nI nl), .int (nI nv), .ref msz, .ref mcd, .ref mbe, .ref mba, .int (-6), .int (nI op), .int (nI os), .int (nI svn), .ref ms1, .ref ms2, .ref ms3, .ref ms4, .ref mfa, .ref mim, .ref mik]))]) hcf (k_X8_isThere (l := l) (D := D) (cI := cI) (cZ := cZ) (sta := cN one) (n := cN n) (mo := mo) (ps := ps) (mpa := mpa) (nl := nl) (nv := nv) (msz := msz) (mcd := mcd) (mbe := mbe) (mba := mba) (ol := -6) (op := op) (os := os) (svn := svn) (ms1 := ms1) (ms2 := ms2) (ms3 := ms3) (ms4 := ms4) (mfa := mfa) (mim := mim) (mik := mik) (hnl := hnl) (h1 := by omega) (hn := by omega)) (cwV 2 hts gX8_forgotten_X8_isThere rfl rfl rfl yd_X8_isThere ⟨Nat.le_of_ble_eq_true rfl, Nat.le_of_ble_eq_true rfl⟩) (m_preV hK hP hD [0] (by decide) rfl rfl rfl) rfl hl.1 rfl (Nat.le_of_ble_eq_true rfl) dX8_forgotten_66 ⟨Nat.zero_le _, Nat.zero_le _⟩ ?_
            refine m_ifB_eq (tgt := 95) hx hb dX8_forgotten_69 (by decide) (fun c_69 => ?_) (fun c_69 => ?_)
            · have i69 := of_decide_eq_false c_69
              refine lv_bipush (v := (-6)) hx hb dX8_forgotten_95 (by decide) ?_
              rw [hQ]
              exact m_iwr hx hb hr hlocks (be, ba, op, os, 0, 0) (⟨by rw [rfQ_v c_5 KI]; rfl, hbe, hba, hop, hos, fun _ _ => ⟨fun _ => rfl, fun h => by obtain ⟨q1, q2, q3, q4⟩ := h; exfalso; first | omega | (rw [c_92] at q4; cases q4)⟩⟩) hP hS dX8_forgotten_97
            · have i69 := of_decide_eq_true c_69
              refine lv_aload_n hx hb dX8_forgotten_72 rfl (lv_at hl 1 rfl) ?_
              refine lv_iload_n hx hb dX8_forgotten_73 rfl (lv_at hl 4 rfl) ?_
              refine lv_iload hx hb dX8_forgotten_74 (lv_at hl 5 rfl) ?_
              refine m_rdV (As := [.int (nI (cN oth)), .int (nI (cN n))]) (rest := []) (wc := [(mo, .inr (8, [.int (nI ps), .ref mpa, .int (nI nl), .int (nI nv), .ref msz, .ref mcd, .ref mbe, .ref mba, .int (-6), .int (nI op), .int (nI os), .int (nI svn), .ref ms1, .ref ms2, .ref ms3, .ref ms4, .ref mfa, .ref mim, .ref mik]))]) hcf (k_X8_isThere (l := l) (D := D) (cI := cI) (cZ := cZ) (sta := cN oth) (n := cN n) (mo := mo) (ps := ps) (mpa := mpa) (nl := nl) (nv := nv) (msz := msz) (mcd := mcd) (mbe := mbe) (mba := mba) (ol := -6) (op := op) (os := os) (svn := svn) (ms1 := ms1) (ms2 := ms2) (ms3 := ms3) (ms4 := ms4) (mfa := mfa) (mim := mim) (mik := mik) (hnl := hnl) (h1 := by omega) (hn := by omega)) (cwV 2 hts gX8_forgotten_X8_isThere rfl rfl rfl yd_X8_isThere ⟨Nat.le_of_ble_eq_true rfl, Nat.le_of_ble_eq_true rfl⟩) (m_preV hK hP hD [0] (by decide) rfl rfl rfl) rfl hl.1 rfl (Nat.le_of_ble_eq_true rfl) dX8_forgotten_76 ⟨Nat.zero_le _, Nat.zero_le _⟩ ?_
              refine m_ifB_eq (tgt := 95) hx hb dX8_forgotten_79 (by decide) (fun c_79 => ?_) (fun c_79 => ?_)
              · have i79 := of_decide_eq_false c_79
                refine lv_bipush (v := (-6)) hx hb dX8_forgotten_95 (by decide) ?_
                rw [hQ]
                exact m_iwr hx hb hr hlocks (be, ba, op, os, 0, 0) (⟨by rw [rfQ_v c_5 KI]; rfl, hbe, hba, hop, hos, fun _ _ => ⟨fun _ => rfl, fun h => by obtain ⟨q1, q2, q3, q4⟩ := h; exfalso; first | omega | (rw [c_92] at q4; cases q4)⟩⟩) hP hS dX8_forgotten_97
              · have i79 := of_decide_eq_true c_79
                refine lv_aload_n hx hb dX8_forgotten_82 rfl (lv_at hl 1 rfl) ?_
                refine lv_iload_n hx hb dX8_forgotten_83 rfl (lv_at hl 2 rfl) ?_
                refine lv_iconst (v := nI 1) hx hb dX8_forgotten_84 (by decide) ?_
                refine lv_iload_n hx hb dX8_forgotten_85 rfl (lv_at hl 3 rfl) ?_
                refine lv_iload_n hx hb dX8_forgotten_86 rfl (lv_at hl 4 rfl) ?_
                refine lv_iload hx hb dX8_forgotten_87 (lv_at hl 5 rfl) ?_
                refine m_wrV (As := [.int (nI (cN ve)), .int (nI 1), .int (nI (cN one)), .int (nI (cN oth)), .int (nI (cN n))]) (rest := []) (wc := [(mo, .inr (8, [.int (nI ps), .ref mpa, .int (nI nl), .int (nI nv), .ref msz, .ref mcd, .ref mbe, .ref mba, .int (-6), .int (nI op), .int (nI os), .int (nI svn), .ref ms1, .ref ms2, .ref ms3, .ref ms4, .ref mfa, .ref mim, .ref mik])), (mbe, aN cI 26 be), (mba, aN cI 26 ba), (msz, aN cI 80 z), (mcd, aN cI 640 g)]) hcf (k_X8_rowsAlike (l := l) (D := D) (cI := cI) (cZ := cZ) (v := cN ve) (way := 1) (one := cN one) (oth := cN oth) (n := cN n) (mo := mo) (ps := ps) (mpa := mpa) (nl := nl) (nv := nv) (msz := msz) (mcd := mcd) (mbe := mbe) (mba := mba) (ol := -6) (op := op) (os := os) (svn := svn) (ms1 := ms1) (ms2 := ms2) (ms3 := ms3) (ms4 := ms4) (mfa := mfa) (mim := mim) (mik := mik) (be := be) (ba := ba) (z := z) (g := g) (hnl := hnl) (hnv := hnv) (hz := hz) (hg := hg) (hbe := hbe) (hba := hba) (hw := by omega) (hv := by omega) (h1 := by omega) (h2 := by omega) (hn := by omega) (hop := hop) (hos := hos)) (cwV 5 hts gX8_forgotten_X8_rowsAlike rfl rfl rfl yd_X8_rowsAlike ⟨Nat.le_of_ble_eq_true rfl, Nat.le_of_ble_eq_true rfl⟩) hK hP hD hS [0, 1, 2, 3, 4] (by decide) rfl rfl rfl rfl hl.1 rfl (Nat.le_of_ble_eq_true rfl) dX8_forgotten_89 ⟨Nat.zero_le _, Nat.zero_le _⟩ (fun _ => rfl) (fun (u : (Nat → Nat) × (Nat → Nat)) => [(mo, .inr (8, [.int (nI ps), .ref mpa, .int (nI nl), .int (nI nv), .ref msz, .ref mcd, .ref mbe, .ref mba, .int (-6), .int (nI op), .int (nI os), .int (nI svn), .ref ms1, .ref ms2, .ref ms3, .ref ms4, .ref mfa, .ref mim, .ref mik])), (mbe, aN cI 26 u.1), (mba, aN cI 26 u.2), (msz, aN cI 80 z), (mcd, aN cI 640 g)]) (fun _ => rfl) (fun r u H locs hp_89 hP hD hS => ?_)
                obtain ⟨beu_89, bau_89⟩ := u
                have hP : va_P D vwCl [(mo, .inr (8, [.int (nI ps), .ref mpa, .int (nI nl), .int (nI nv), .ref msz, .ref mcd, .ref mbe, .ref mba, .int (-6), .int (nI op), .int (nI os), .int (nI svn), .ref ms1, .ref ms2, .ref ms3, .ref ms4, .ref mfa, .ref mim, .ref mik])), (mbe, aN cI 26 beu_89), (mba, aN cI 26 bau_89), (msz, aN cI 80 z), (mcd, aN cI 640 g)] H := hP
                have hD : va_D A [(mo, .inr (8, [.int (nI ps), .ref mpa, .int (nI nl), .int (nI nv), .ref msz, .ref mcd, .ref mbe, .ref mba, .int (-6), .int (nI op), .int (nI os), .int (nI svn), .ref ms1, .ref ms2, .ref ms3, .ref ms4, .ref mfa, .ref mim, .ref mik])), (mbe, aN cI 26 beu_89), (mba, aN cI 26 bau_89), (msz, aN cI 80 z), (mcd, aN cI 640 g)] := hD
                try dsimp only at hp_89
                obtain ⟨hr_hp_89, hp_89⟩ := hp_89
                rw [hr_hp_89]
                refine m_ifB_eq (tgt := 98) hx hb dX8_forgotten_92 (by decide) (fun c_92 => ?_) (fun c_92 => ?_)
                · refine lv_bipush (v := (-6)) hx hb dX8_forgotten_98 (by decide) ?_
                  refine lv_istore (lv' := [(7, .int (-6)), (6, .int (nI 1)), (0, .ref mo), (1, .int (nI (cN ve))), (2, .int (nI (cN one))), (3, .int (nI (cN oth))), (4, .int (nI (cN n))), (5, .int wh)]) hx hb dX8_forgotten_100 hl (by decide) rfl (fun ls hl => ?_)
                  refine lv_iconst (v := nI 0) hx hb dX8_forgotten_102 (by decide) ?_
                  refine lv_istore (lv' := [(8, .int (nI 0)), (7, .int (-6)), (6, .int (nI 1)), (0, .ref mo), (1, .int (nI (cN ve))), (2, .int (nI (cN one))), (3, .int (nI (cN oth))), (4, .int (nI (cN n))), (5, .int wh)]) hx hb dX8_forgotten_103 hl (by decide) rfl (fun ls hl => ?_)
                  have loop_105 : ∀ (fu : Nat) (k pl nm p1 s1 : Nat) (o1 : Int32) (b1 b2 : Nat → Nat) (hfu : cN n - k < fu)  (hk : k ≤ cN n) (hpl1 : pl ≤ 300) (hn1 : nm ≤ 126) (hp1 : p1 ≤ 100) (hs1 : s1 ≤ 126) (hb1 : ∀ j, b1 j ≤ 126) (hc1 : ∀ j, b2 j ≤ 126) (hI : fgI (fmF z g (cN ve) nl (cN one) (cN oth) (cN n)) (fun a => z (cN ve * 20 + (cN oth + a))) k 0 pl nm) (H : Heap) (locs : List Loc) (hP : va_P D vwCl [(mo, .inr (8, [.int (nI ps), .ref mpa, .int (nI nl), .int (nI nv), .ref msz, .ref mcd, .ref mbe, .ref mba, .int o1, .int (nI p1), .int (nI s1), .int (nI svn), .ref ms1, .ref ms2, .ref ms3, .ref ms4, .ref mfa, .ref mim, .ref mik])), (mbe, aN cI 26 b1), (mba, aN cI 26 b2), (msz, aN cI 80 z), (mcd, aN cI 640 g)] H) (hD : va_D A [(mo, .inr (8, [.int (nI ps), .ref mpa, .int (nI nl), .int (nI nv), .ref msz, .ref mcd, .ref mbe, .ref mba, .int o1, .int (nI p1), .int (nI s1), .int (nI svn), .ref ms1, .ref ms2, .ref ms3, .ref ms4, .ref mfa, .ref mim, .ref mik])), (mbe, aN cI 26 b1), (mba, aN cI 26 b2), (msz, aN cI 80 z), (mcd, aN cI 640 g)]) (hS : va_S A s.heap H locs) (ls : Array Slot) (hl : lv_has ls 12 [(0, .ref mo), (1, .int (nI (cN ve))), (2, .int (nI (cN one))), (3, .int (nI (cN oth))), (4, .int (nI (cN n))), (5, .int wh), (7, .int (foR pl nm wh)), (8, .int (nI k))]), W p l e (headSpec wsX8_forgotten { frames := 4, cells := 0, slots := 0, locals := 93 }).room s m args below meth c H locs 0 0 Q (F0 m 105 ls []) := by
                    intro fu
                    induction fu with
                    | zero => intro k pl nm p1 s1 o1 b1 b2 hfu; exact absurd hfu (Nat.not_lt_zero _)
                    | succ fu ih_105 =>
                      intro k pl nm p1 s1 o1 b1 b2 hfu hk hpl1 hn1 hp1 hs1 hb1 hc1 hI H locs hP hD hS ls hl
                      refine lv_iload hx hb dX8_forgotten_105 (lv_at hl 7 rfl) ?_
                      refine lv_iload hx hb dX8_forgotten_107 (lv_at hl 4 rfl) ?_
                      refine m_cmp_ge (tgt := 250) hx hb dX8_forgotten_109 (by decide) (by omega) (by omega) (fun c_109 => ?_) (fun c_109 => ?_)
                      · refine lv_aload_n hx hb dX8_forgotten_250 rfl (lv_at hl 0 rfl) ?_
                        refine lv_bipush (v := (-6)) hx hb dX8_forgotten_251 (by decide) ?_
                        refine va_put (D := D) (ci := 8) (v := .int (-6)) (ty := .int) (C := RX8) (T := TX8) (N := 19) hx hb hts i_X8 tyX8 tyX8_ok nmX8 hown hK.1 hP hD hS 0 rfl rfl 8 (by decide) f_25 (fun _ h9 => h9) rfl (by decide +kernel) rfl rfl (Nat.le_of_ble_eq_true rfl) dX8_forgotten_253 (fun H locs hP hD hS => ?_)
                        have hP : va_P D vwCl [(mo, .inr (8, [.int (nI ps), .ref mpa, .int (nI nl), .int (nI nv), .ref msz, .ref mcd, .ref mbe, .ref mba, .int (-6), .int (nI p1), .int (nI s1), .int (nI svn), .ref ms1, .ref ms2, .ref ms3, .ref ms4, .ref mfa, .ref mim, .ref mik])), (mbe, aN cI 26 b1), (mba, aN cI 26 b2), (msz, aN cI 80 z), (mcd, aN cI 640 g)] H := hP
                        have hD : va_D A [(mo, .inr (8, [.int (nI ps), .ref mpa, .int (nI nl), .int (nI nv), .ref msz, .ref mcd, .ref mbe, .ref mba, .int (-6), .int (nI p1), .int (nI s1), .int (nI svn), .ref ms1, .ref ms2, .ref ms3, .ref ms4, .ref mfa, .ref mim, .ref mik])), (mbe, aN cI 26 b1), (mba, aN cI 26 b2), (msz, aN cI 80 z), (mcd, aN cI 640 g)] := hD
                        refine lv_iload hx hb dX8_forgotten_256 (lv_at hl 6 rfl) ?_
                        rw [hQ]
                        exact m_iwr hx hb hr hlocks (b1, b2, p1, s1, pl, nm) (⟨by rw [rfQ_v c_5 KI], hb1, hc1, hp1, hs1, fun _ _ => ⟨fun h => absurd ⟨by omega, i69, i79, c_92⟩ h, fun _ => fgI_end hI hk (by first | exact Or.inl (by omega) | exact Or.inr n14)⟩⟩) hP hS dX8_forgotten_258
                      · refine lv_iload hx hb dX8_forgotten_112 (lv_at hl 6 rfl) ?_
                        refine lv_if_ge (tgt := 250) hx hb dX8_forgotten_114 (by decide) (fun c_114 => ?_) (fun c_114 => ?_)
                        · have n14 := foR_nn c_114
                          refine lv_aload_n hx hb dX8_forgotten_250 rfl (lv_at hl 0 rfl) ?_
                          refine lv_bipush (v := (-6)) hx hb dX8_forgotten_251 (by decide) ?_
                          refine va_put (D := D) (ci := 8) (v := .int (-6)) (ty := .int) (C := RX8) (T := TX8) (N := 19) hx hb hts i_X8 tyX8 tyX8_ok nmX8 hown hK.1 hP hD hS 0 rfl rfl 8 (by decide) f_25 (fun _ h9 => h9) rfl (by decide +kernel) rfl rfl (Nat.le_of_ble_eq_true rfl) dX8_forgotten_253 (fun H locs hP hD hS => ?_)
                          have hP : va_P D vwCl [(mo, .inr (8, [.int (nI ps), .ref mpa, .int (nI nl), .int (nI nv), .ref msz, .ref mcd, .ref mbe, .ref mba, .int (-6), .int (nI p1), .int (nI s1), .int (nI svn), .ref ms1, .ref ms2, .ref ms3, .ref ms4, .ref mfa, .ref mim, .ref mik])), (mbe, aN cI 26 b1), (mba, aN cI 26 b2), (msz, aN cI 80 z), (mcd, aN cI 640 g)] H := hP
                          have hD : va_D A [(mo, .inr (8, [.int (nI ps), .ref mpa, .int (nI nl), .int (nI nv), .ref msz, .ref mcd, .ref mbe, .ref mba, .int (-6), .int (nI p1), .int (nI s1), .int (nI svn), .ref ms1, .ref ms2, .ref ms3, .ref ms4, .ref mfa, .ref mim, .ref mik])), (mbe, aN cI 26 b1), (mba, aN cI 26 b2), (msz, aN cI 80 z), (mcd, aN cI 640 g)] := hD
                          refine lv_iload hx hb dX8_forgotten_256 (lv_at hl 6 rfl) ?_
                          rw [hQ]
                          exact m_iwr hx hb hr hlocks (b1, b2, p1, s1, pl, nm) (⟨by rw [rfQ_v c_5 KI], hb1, hc1, hp1, hs1, fun _ _ => ⟨fun h => absurd ⟨by omega, i69, i79, c_92⟩ h, fun _ => fgI_end hI hk (by first | exact Or.inl (by omega) | exact Or.inr n14)⟩⟩) hP hS dX8_forgotten_258
                        · have z14 := foR_ng hpl1 hn1 c_114
                          refine lv_iconst (v := nI 0) hx hb dX8_forgotten_117 (by decide) ?_
                          refine lv_istore (lv' := [(9, .int (nI 0)), (0, .ref mo), (1, .int (nI (cN ve))), (2, .int (nI (cN one))), (3, .int (nI (cN oth))), (4, .int (nI (cN n))), (5, .int wh), (7, .int (foR pl nm wh)), (8, .int (nI k))]) hx hb dX8_forgotten_118 hl (by decide) rfl (fun ls hl => ?_)
                          have loop_120 : ∀ (fu : Nat) (i pl2 nm2 p2 s2 : Nat) (o2 : Int32) (b3 b4 : Nat → Nat) (hfu : z (cN ve * 20 + (cN oth + k)) - i < fu)  (hi : i ≤ z (cN ve * 20 + (cN oth + k))) (hpl2 : pl2 ≤ 300) (hn2 : nm2 ≤ 126) (hp2 : p2 ≤ 100) (hs2 : s2 ≤ 126) (hb2 : ∀ j, b3 j ≤ 126) (hc2 : ∀ j, b4 j ≤ 126) (hJ : fgI (fmF z g (cN ve) nl (cN one) (cN oth) (cN n)) (fun a => z (cN ve * 20 + (cN oth + a))) k i pl2 nm2) (H : Heap) (locs : List Loc) (hP : va_P D vwCl [(mo, .inr (8, [.int (nI ps), .ref mpa, .int (nI nl), .int (nI nv), .ref msz, .ref mcd, .ref mbe, .ref mba, .int o2, .int (nI p2), .int (nI s2), .int (nI svn), .ref ms1, .ref ms2, .ref ms3, .ref ms4, .ref mfa, .ref mim, .ref mik])), (mbe, aN cI 26 b3), (mba, aN cI 26 b4), (msz, aN cI 80 z), (mcd, aN cI 640 g)] H) (hD : va_D A [(mo, .inr (8, [.int (nI ps), .ref mpa, .int (nI nl), .int (nI nv), .ref msz, .ref mcd, .ref mbe, .ref mba, .int o2, .int (nI p2), .int (nI s2), .int (nI svn), .ref ms1, .ref ms2, .ref ms3, .ref ms4, .ref mfa, .ref mim, .ref mik])), (mbe, aN cI 26 b3), (mba, aN cI 26 b4), (msz, aN cI 80 z), (mcd, aN cI 640 g)]) (hS : va_S A s.heap H locs) (ls : Array Slot) (hl : lv_has ls 12 [(0, .ref mo), (1, .int (nI (cN ve))), (2, .int (nI (cN one))), (3, .int (nI (cN oth))), (4, .int (nI (cN n))), (5, .int wh), (7, .int (foR pl2 nm2 wh)), (8, .int (nI k)), (9, .int (nI i))]), W p l e (headSpec wsX8_forgotten { frames := 4, cells := 0, slots := 0, locals := 93 }).room s m args below meth c H locs 0 0 Q (F0 m 120 ls []) := by
                            intro fu
                            induction fu with
                            | zero => intro i pl2 nm2 p2 s2 o2 b3 b4 hfu; exact absurd hfu (Nat.not_lt_zero _)
                            | succ fu ih_120 =>
                              intro i pl2 nm2 p2 s2 o2 b3 b4 hfu hi hpl2 hn2 hp2 hs2 hb2 hc2 hJ H locs hP hD hS ls hl
                              refine lv_iload hx hb dX8_forgotten_120 (lv_at hl 8 rfl) ?_
                              refine lv_aload_n hx hb dX8_forgotten_122 rfl (lv_at hl 0 rfl) ?_
                              refine lv_iload_n hx hb dX8_forgotten_123 rfl (lv_at hl 1 rfl) ?_
                              refine lv_iload_n hx hb dX8_forgotten_124 rfl (lv_at hl 3 rfl) ?_
                              refine lv_iload hx hb dX8_forgotten_125 (lv_at hl 7 rfl) ?_
                              refine m_add hx hb dX8_forgotten_127 ?_
                              refine m_rdV (As := [.int (nI (cN ve)), .int (nI ((cN oth) + k))]) (rest := [.int (nI i)]) (wc := [(mo, .inr (8, [.int (nI ps), .ref mpa, .int (nI nl), .int (nI nv), .ref msz, .ref mcd, .ref mbe, .ref mba, .int o2, .int (nI p2), .int (nI s2), .int (nI svn), .ref ms1, .ref ms2, .ref ms3, .ref ms4, .ref mfa, .ref mim, .ref mik])), (msz, aN cI 80 z)]) hcf (k_X8_size (l := l) (D := D) (cI := cI) (cZ := cZ) (v := cN ve) (ln := (cN oth) + k) (mo := mo) (ps := ps) (mpa := mpa) (nl := nl) (nv := nv) (msz := msz) (mcd := mcd) (mbe := mbe) (mba := mba) (ol := o2) (op := p2) (os := s2) (svn := svn) (ms1 := ms1) (ms2 := ms2) (ms3 := ms3) (ms4 := ms4) (mfa := mfa) (mim := mim) (mik := mik) (z := z) (hv := by omega) (hln := by omega)) (cwV 2 hts gX8_forgotten_X8_size rfl rfl rfl yd_X8_size ⟨Nat.le_of_ble_eq_true rfl, Nat.le_of_ble_eq_true rfl⟩) (m_preV hK hP hD [0, 3] (by decide) rfl rfl rfl) rfl hl.1 rfl (Nat.le_of_ble_eq_true rfl) dX8_forgotten_128 ⟨Nat.zero_le _, Nat.zero_le _⟩ ?_
                              have hz9 := hz (cN ve * 20 + (cN oth + k))
                              refine m_cmp_ge (tgt := 244) hx hb dX8_forgotten_131 (by decide) (by omega) (by omega) (fun c_131 => ?_) (fun c_131 => ?_)
                              · refine lv_iinc (v := nI (k + 1)) (lv' := [(8, .int (nI (k + 1))), (0, .ref mo), (1, .int (nI (cN ve))), (2, .int (nI (cN one))), (3, .int (nI (cN oth))), (4, .int (nI (cN n))), (5, .int wh), (7, .int (foR pl2 nm2 wh)), (9, .int (nI i))]) hx hb dX8_forgotten_244 hl (k := 7) rfl ((nI_succ _).symm) (by decide) rfl (fun ls hl => ?_)
                                refine lv_goto (tgt := 105) hx hb dX8_forgotten_247 (by decide) ?_
                                exact ih_105 (k + 1) pl2 nm2 _ _ _ _ _ (by omega) (by omega) hpl2 hn2 hp2 hs2 hb2 hc2 (fgI_row hJ (by first | exact Or.inl (by omega) | exact Or.inr n36)) _ _ hP hD hS ls (lv_sub hl [1, 2, 3, 4, 5, 6, 7, 0] rfl)
                              · refine lv_iload hx hb dX8_forgotten_134 (lv_at hl 6 rfl) ?_
                                refine lv_if_ge (tgt := 244) hx hb dX8_forgotten_136 (by decide) (fun c_136 => ?_) (fun c_136 => ?_)
                                · have n36 := foR_nn c_136
                                  refine lv_iinc (v := nI (k + 1)) (lv' := [(8, .int (nI (k + 1))), (0, .ref mo), (1, .int (nI (cN ve))), (2, .int (nI (cN one))), (3, .int (nI (cN oth))), (4, .int (nI (cN n))), (5, .int wh), (7, .int (foR pl2 nm2 wh)), (9, .int (nI i))]) hx hb dX8_forgotten_244 hl (k := 7) rfl ((nI_succ _).symm) (by decide) rfl (fun ls hl => ?_)
                                  refine lv_goto (tgt := 105) hx hb dX8_forgotten_247 (by decide) ?_
                                  exact ih_105 (k + 1) pl2 nm2 _ _ _ _ _ (by omega) (by omega) hpl2 hn2 hp2 hs2 hb2 hc2 (fgI_row hJ (by first | exact Or.inl (by omega) | exact Or.inr n36)) _ _ hP hD hS ls (lv_sub hl [1, 2, 3, 4, 5, 6, 7, 0] rfl)
                                · have z36 := foR_ng hpl2 hn2 c_136
                                  have hJ2 := hJ
                                  rw [z36] at hJ2
                                  have e_f : foR pl2 nm2 wh = foR (k * 10 + i) 0 wh := by rw [z36]; rfl
                                  have hl : lv_has ls 12 [(0, .ref mo), (1, .int (nI (cN ve))), (2, .int (nI (cN one))), (3, .int (nI (cN oth))), (4, .int (nI (cN n))), (5, .int wh), (7, .int (foR (k * 10 + i) 0 wh)), (8, .int (nI k)), (9, .int (nI i))] := by rw [← e_f]; exact hl
                                  refine lv_bipush (v := nI 97) hx hb dX8_forgotten_139 (by decide) ?_
                                  refine lv_istore (lv' := [(10, .int (nI 97)), (0, .ref mo), (1, .int (nI (cN ve))), (2, .int (nI (cN one))), (3, .int (nI (cN oth))), (4, .int (nI (cN n))), (5, .int wh), (7, .int (foR (k * 10 + i) 0 wh)), (8, .int (nI k)), (9, .int (nI i))]) hx hb dX8_forgotten_141 hl (by decide) rfl (fun ls hl => ?_)
                                  have loop_143 : ∀ (fu : Nat) (cc nm3 p3 s3 : Nat) (o3 : Int32) (b5 b6 : Nat → Nat) (hfu : 123 - cc < fu)  (hcc1 : 97 ≤ cc) (hcc2 : cc ≤ 123) (hn3 : nm3 ≤ 126) (hp3 : p3 ≤ 100) (hs3 : s3 ≤ 126) (hb3 : ∀ j, b5 j ≤ 126) (hc3 : ∀ j, b6 j ≤ 126) (hC : nm3 = fmQ (fun c => rmB 1 z g (cN ve) nl (cN one) (cN oth) (cN n) (nI k) i c) (g ((cN ve * 20 + (cN oth + k)) * 8 + i)) (cc - 97)) (H : Heap) (locs : List Loc) (hP : va_P D vwCl [(mo, .inr (8, [.int (nI ps), .ref mpa, .int (nI nl), .int (nI nv), .ref msz, .ref mcd, .ref mbe, .ref mba, .int o3, .int (nI p3), .int (nI s3), .int (nI svn), .ref ms1, .ref ms2, .ref ms3, .ref ms4, .ref mfa, .ref mim, .ref mik])), (mbe, aN cI 26 b5), (mba, aN cI 26 b6), (msz, aN cI 80 z), (mcd, aN cI 640 g)] H) (hD : va_D A [(mo, .inr (8, [.int (nI ps), .ref mpa, .int (nI nl), .int (nI nv), .ref msz, .ref mcd, .ref mbe, .ref mba, .int o3, .int (nI p3), .int (nI s3), .int (nI svn), .ref ms1, .ref ms2, .ref ms3, .ref ms4, .ref mfa, .ref mim, .ref mik])), (mbe, aN cI 26 b5), (mba, aN cI 26 b6), (msz, aN cI 80 z), (mcd, aN cI 640 g)]) (hS : va_S A s.heap H locs) (ls : Array Slot) (hl : lv_has ls 12 [(0, .ref mo), (1, .int (nI (cN ve))), (2, .int (nI (cN one))), (3, .int (nI (cN oth))), (4, .int (nI (cN n))), (5, .int wh), (7, .int (foR (k * 10 + i) nm3 wh)), (8, .int (nI k)), (9, .int (nI i)), (10, .int (nI cc))]), W p l e (headSpec wsX8_forgotten { frames := 4, cells := 0, slots := 0, locals := 93 }).room s m args below meth c H locs 0 0 Q (F0 m 143 ls []) := by
                                    intro fu
                                    induction fu with
                                    | zero => intro cc nm3 p3 s3 o3 b5 b6 hfu; exact absurd hfu (Nat.not_lt_zero _)
                                    | succ fu ih_143 =>
                                      intro cc nm3 p3 s3 o3 b5 b6 hfu hcc1 hcc2 hn3 hp3 hs3 hb3 hc3 hC H locs hP hD hS ls hl
                                      refine lv_iload hx hb dX8_forgotten_143 (lv_at hl 9 rfl) ?_
                                      refine lv_bipush (v := nI 122) hx hb dX8_forgotten_145 (by decide) ?_
                                      refine m_cmp_gt (tgt := 238) hx hb dX8_forgotten_147 (by decide) (by omega) (by omega) (fun c_147 => ?_) (fun c_147 => ?_)
                                      · refine lv_iinc (v := nI (i + 1)) (lv' := [(9, .int (nI (i + 1))), (0, .ref mo), (1, .int (nI (cN ve))), (2, .int (nI (cN one))), (3, .int (nI (cN oth))), (4, .int (nI (cN n))), (5, .int wh), (7, .int (foR (k * 10 + i) nm3 wh)), (8, .int (nI k)), (10, .int (nI cc))]) hx hb dX8_forgotten_238 hl (k := 8) rfl ((nI_succ _).symm) (by decide) rfl (fun ls hl => ?_)
                                        refine lv_goto (tgt := 120) hx hb dX8_forgotten_241 (by decide) ?_
                                        have E8 : nm3 = fmF z g (cN ve) nl (cN one) (cN oth) (cN n) k i := by
                                          unfold fmF
                                          first
                                          | (have e7 : cc - 97 = 26 := by omega
                                             rw [hC, e7]; done)
                                          | (have e6 := fmQ_stay (by rw [← hC]; exact n52) (26 - (cc - 97))
                                             rw [show cc - 97 + (26 - (cc - 97)) = 26 by omega] at e6
                                             rw [hC, e6]; done)
                                          | (rw [hC, fmQ_n c_169, fmQ_n c_169]; done)
                                        have E9 := fgI_s hJ2 c_131
                                        rw [← E8] at E9
                                        exact ih_120 (i + 1) (k * 10 + i) nm3 _ _ _ _ _ (by omega) (by omega) (by omega) hn3 hp3 hs3 hb3 hc3 E9 _ _ hP hD hS ls (lv_sub hl [1, 2, 3, 4, 5, 6, 7, 8, 0] rfl)
                                      · refine lv_iload hx hb dX8_forgotten_150 (lv_at hl 6 rfl) ?_
                                        refine lv_if_ge (tgt := 238) hx hb dX8_forgotten_152 (by decide) (fun c_152 => ?_) (fun c_152 => ?_)
                                        · have n52 := foR_nn c_152
                                          refine lv_iinc (v := nI (i + 1)) (lv' := [(9, .int (nI (i + 1))), (0, .ref mo), (1, .int (nI (cN ve))), (2, .int (nI (cN one))), (3, .int (nI (cN oth))), (4, .int (nI (cN n))), (5, .int wh), (7, .int (foR (k * 10 + i) nm3 wh)), (8, .int (nI k)), (10, .int (nI cc))]) hx hb dX8_forgotten_238 hl (k := 8) rfl ((nI_succ _).symm) (by decide) rfl (fun ls hl => ?_)
                                          refine lv_goto (tgt := 120) hx hb dX8_forgotten_241 (by decide) ?_
                                          have E8 : nm3 = fmF z g (cN ve) nl (cN one) (cN oth) (cN n) k i := by
                                            unfold fmF
                                            first
                                            | (have e7 : cc - 97 = 26 := by omega
                                               rw [hC, e7]; done)
                                            | (have e6 := fmQ_stay (by rw [← hC]; exact n52) (26 - (cc - 97))
                                               rw [show cc - 97 + (26 - (cc - 97)) = 26 by omega] at e6
                                               rw [hC, e6]; done)
                                            | (rw [hC, fmQ_n c_169, fmQ_n c_169]; done)
                                          have E9 := fgI_s hJ2 c_131
                                          rw [← E8] at E9
                                          exact ih_120 (i + 1) (k * 10 + i) nm3 _ _ _ _ _ (by omega) (by omega) (by omega) hn3 hp3 hs3 hb3 hc3 E9 _ _ hP hD hS ls (lv_sub hl [1, 2, 3, 4, 5, 6, 7, 8, 0] rfl)
                                        · have z52 := foR_ng (by omega) hn3 c_152
                                          refine lv_aload_n hx hb dX8_forgotten_155 rfl (lv_at hl 0 rfl) ?_
                                          refine lv_iload_n hx hb dX8_forgotten_156 rfl (lv_at hl 1 rfl) ?_
                                          refine lv_iload_n hx hb dX8_forgotten_157 rfl (lv_at hl 3 rfl) ?_
                                          refine lv_iload hx hb dX8_forgotten_158 (lv_at hl 7 rfl) ?_
                                          refine m_add hx hb dX8_forgotten_160 ?_
                                          refine lv_iload hx hb dX8_forgotten_161 (lv_at hl 8 rfl) ?_
                                          refine m_rdV (As := [.int (nI (cN ve)), .int (nI ((cN oth) + k)), .int (nI i)]) (rest := []) (wc := [(mo, .inr (8, [.int (nI ps), .ref mpa, .int (nI nl), .int (nI nv), .ref msz, .ref mcd, .ref mbe, .ref mba, .int o3, .int (nI p3), .int (nI s3), .int (nI svn), .ref ms1, .ref ms2, .ref ms3, .ref ms4, .ref mfa, .ref mim, .ref mik])), (mcd, aN cI 640 g)]) hcf (k_X8_signAt (l := l) (D := D) (cI := cI) (cZ := cZ) (v := cN ve) (ln := (cN oth) + k) (k := i) (mo := mo) (ps := ps) (mpa := mpa) (nl := nl) (nv := nv) (msz := msz) (mcd := mcd) (mbe := mbe) (mba := mba) (ol := o3) (op := p3) (os := s3) (svn := svn) (ms1 := ms1) (ms2 := ms2) (ms3 := ms3) (ms4 := ms4) (mfa := mfa) (mim := mim) (mik := mik) (g := g) (hv := by omega) (hln := by omega) (hk := by have := hz (cN ve * 20 + (cN oth + k)); omega)) (cwV 3 hts gX8_forgotten_X8_signAt rfl rfl rfl yd_X8_signAt ⟨Nat.le_of_ble_eq_true rfl, Nat.le_of_ble_eq_true rfl⟩) (m_preV hK hP hD [0, 4] (by decide) rfl rfl rfl) rfl hl.1 rfl (Nat.le_of_ble_eq_true rfl) dX8_forgotten_163 ⟨Nat.zero_le _, Nat.zero_le _⟩ ?_
                                          refine m_rdS (As := [.int (nI (g (((cN ve) * 20 + ((cN oth) + k)) * 8 + i)))]) (rest := []) (wc := []) hcf (k_X8_isName (l := l) (D := D) (cI := cI) (cZ := cZ) (a := g (((cN ve) * 20 + ((cN oth) + k)) * 8 + i)) (ha := Nat.lt_of_le_of_lt (hg _) (by decide))) (va_cwS 1 hts gX8_forgotten_X8_isName rfl rfl rfl yd_X8_isName.2 ⟨Nat.le_of_ble_eq_true rfl, Nat.le_of_ble_eq_true rfl⟩) (m_preS hK hP hD [] (by decide) rfl) rfl hl.1 rfl (Nat.le_of_ble_eq_true rfl) dX8_forgotten_166 ⟨Nat.zero_le _, Nat.zero_le _⟩ ?_
                                          refine m_ifB_eq (tgt := 238) hx hb dX8_forgotten_169 (by decide) (fun c_169 => ?_) (fun c_169 => ?_)
                                          · refine lv_iinc (v := nI (i + 1)) (lv' := [(9, .int (nI (i + 1))), (0, .ref mo), (1, .int (nI (cN ve))), (2, .int (nI (cN one))), (3, .int (nI (cN oth))), (4, .int (nI (cN n))), (5, .int wh), (7, .int (foR (k * 10 + i) nm3 wh)), (8, .int (nI k)), (10, .int (nI cc))]) hx hb dX8_forgotten_238 hl (k := 8) rfl ((nI_succ _).symm) (by decide) rfl (fun ls hl => ?_)
                                            refine lv_goto (tgt := 120) hx hb dX8_forgotten_241 (by decide) ?_
                                            have E8 : nm3 = fmF z g (cN ve) nl (cN one) (cN oth) (cN n) k i := by
                                              unfold fmF
                                              first
                                              | (have e7 : cc - 97 = 26 := by omega
                                                 rw [hC, e7]; done)
                                              | (have e6 := fmQ_stay (by rw [← hC]; exact n52) (26 - (cc - 97))
                                                 rw [show cc - 97 + (26 - (cc - 97)) = 26 by omega] at e6
                                                 rw [hC, e6]; done)
                                              | (rw [hC, fmQ_n c_169, fmQ_n c_169]; done)
                                            have E9 := fgI_s hJ2 c_131
                                            rw [← E8] at E9
                                            exact ih_120 (i + 1) (k * 10 + i) nm3 _ _ _ _ _ (by omega) (by omega) (by omega) hn3 hp3 hs3 hb3 hc3 E9 _ _ hP hD hS ls (lv_sub hl [1, 2, 3, 4, 5, 6, 7, 8, 0] rfl)
                                          · refine lv_aload_n hx hb dX8_forgotten_172 rfl (lv_at hl 0 rfl) ?_
                                            refine lv_iload hx hb dX8_forgotten_173 (lv_at hl 7 rfl) ?_
                                            refine va_put (D := D) (ci := 8) (v := .int (nI k)) (ty := .int) (C := RX8) (T := TX8) (N := 19) hx hb hts i_X8 tyX8 tyX8_ok nmX8 hown hK.1 hP hD hS 0 rfl rfl 8 (by decide) f_25 (fun _ h9 => h9) rfl (by decide +kernel) rfl rfl (Nat.le_of_ble_eq_true rfl) dX8_forgotten_175 (fun H locs hP hD hS => ?_)
                                            have hP : va_P D vwCl [(mo, .inr (8, [.int (nI ps), .ref mpa, .int (nI nl), .int (nI nv), .ref msz, .ref mcd, .ref mbe, .ref mba, .int (nI k), .int (nI p3), .int (nI s3), .int (nI svn), .ref ms1, .ref ms2, .ref ms3, .ref ms4, .ref mfa, .ref mim, .ref mik])), (mbe, aN cI 26 b5), (mba, aN cI 26 b6), (msz, aN cI 80 z), (mcd, aN cI 640 g)] H := hP
                                            have hD : va_D A [(mo, .inr (8, [.int (nI ps), .ref mpa, .int (nI nl), .int (nI nv), .ref msz, .ref mcd, .ref mbe, .ref mba, .int (nI k), .int (nI p3), .int (nI s3), .int (nI svn), .ref ms1, .ref ms2, .ref ms3, .ref ms4, .ref mfa, .ref mim, .ref mik])), (mbe, aN cI 26 b5), (mba, aN cI 26 b6), (msz, aN cI 80 z), (mcd, aN cI 640 g)] := hD
                                            refine lv_aload_n hx hb dX8_forgotten_178 rfl (lv_at hl 0 rfl) ?_
                                            refine lv_iload hx hb dX8_forgotten_179 (lv_at hl 8 rfl) ?_
                                            refine va_put (D := D) (ci := 8) (v := .int (nI i)) (ty := .int) (C := RX8) (T := TX8) (N := 19) hx hb hts i_X8 tyX8 tyX8_ok nmX8 hown hK.1 hP hD hS 0 rfl rfl 9 (by decide) f_96 (fun _ h9 => h9) rfl (by decide +kernel) rfl rfl (Nat.le_of_ble_eq_true rfl) dX8_forgotten_181 (fun H locs hP hD hS => ?_)
                                            have hP : va_P D vwCl [(mo, .inr (8, [.int (nI ps), .ref mpa, .int (nI nl), .int (nI nv), .ref msz, .ref mcd, .ref mbe, .ref mba, .int (nI k), .int (nI i), .int (nI s3), .int (nI svn), .ref ms1, .ref ms2, .ref ms3, .ref ms4, .ref mfa, .ref mim, .ref mik])), (mbe, aN cI 26 b5), (mba, aN cI 26 b6), (msz, aN cI 80 z), (mcd, aN cI 640 g)] H := hP
                                            have hD : va_D A [(mo, .inr (8, [.int (nI ps), .ref mpa, .int (nI nl), .int (nI nv), .ref msz, .ref mcd, .ref mbe, .ref mba, .int (nI k), .int (nI i), .int (nI s3), .int (nI svn), .ref ms1, .ref ms2, .ref ms3, .ref ms4, .ref mfa, .ref mim, .ref mik])), (mbe, aN cI 26 b5), (mba, aN cI 26 b6), (msz, aN cI 80 z), (mcd, aN cI 640 g)] := hD
                                            refine lv_aload_n hx hb dX8_forgotten_184 rfl (lv_at hl 0 rfl) ?_
                                            refine lv_iload hx hb dX8_forgotten_185 (lv_at hl 9 rfl) ?_
                                            refine va_put (D := D) (ci := 8) (v := .int (nI cc)) (ty := .int) (C := RX8) (T := TX8) (N := 19) hx hb hts i_X8 tyX8 tyX8_ok nmX8 hown hK.1 hP hD hS 0 rfl rfl 10 (by decide) f_99 (fun _ h9 => h9) rfl (by decide +kernel) rfl rfl (Nat.le_of_ble_eq_true rfl) dX8_forgotten_187 (fun H locs hP hD hS => ?_)
                                            have hP : va_P D vwCl [(mo, .inr (8, [.int (nI ps), .ref mpa, .int (nI nl), .int (nI nv), .ref msz, .ref mcd, .ref mbe, .ref mba, .int (nI k), .int (nI i), .int (nI cc), .int (nI svn), .ref ms1, .ref ms2, .ref ms3, .ref ms4, .ref mfa, .ref mim, .ref mik])), (mbe, aN cI 26 b5), (mba, aN cI 26 b6), (msz, aN cI 80 z), (mcd, aN cI 640 g)] H := hP
                                            have hD : va_D A [(mo, .inr (8, [.int (nI ps), .ref mpa, .int (nI nl), .int (nI nv), .ref msz, .ref mcd, .ref mbe, .ref mba, .int (nI k), .int (nI i), .int (nI cc), .int (nI svn), .ref ms1, .ref ms2, .ref ms3, .ref ms4, .ref mfa, .ref mim, .ref mik])), (mbe, aN cI 26 b5), (mba, aN cI 26 b6), (msz, aN cI 80 z), (mcd, aN cI 640 g)] := hD
                                            refine lv_aload_n hx hb dX8_forgotten_190 rfl (lv_at hl 0 rfl) ?_
                                            refine lv_iload_n hx hb dX8_forgotten_191 rfl (lv_at hl 1 rfl) ?_
                                            refine lv_iconst (v := nI 1) hx hb dX8_forgotten_192 (by decide) ?_
                                            refine lv_iload_n hx hb dX8_forgotten_193 rfl (lv_at hl 2 rfl) ?_
                                            refine lv_iload_n hx hb dX8_forgotten_194 rfl (lv_at hl 3 rfl) ?_
                                            refine lv_iload hx hb dX8_forgotten_195 (lv_at hl 4 rfl) ?_
                                            refine m_wrV (As := [.int (nI (cN ve)), .int (nI 1), .int (nI (cN one)), .int (nI (cN oth)), .int (nI (cN n))]) (rest := []) (wc := [(mo, .inr (8, [.int (nI ps), .ref mpa, .int (nI nl), .int (nI nv), .ref msz, .ref mcd, .ref mbe, .ref mba, .int (nI k), .int (nI i), .int (nI cc), .int (nI svn), .ref ms1, .ref ms2, .ref ms3, .ref ms4, .ref mfa, .ref mim, .ref mik])), (mbe, aN cI 26 b5), (mba, aN cI 26 b6), (msz, aN cI 80 z), (mcd, aN cI 640 g)]) hcf (k_X8_rowsAlike (l := l) (D := D) (cI := cI) (cZ := cZ) (v := cN ve) (way := 1) (one := cN one) (oth := cN oth) (n := cN n) (mo := mo) (ps := ps) (mpa := mpa) (nl := nl) (nv := nv) (msz := msz) (mcd := mcd) (mbe := mbe) (mba := mba) (ol := nI k) (op := i) (os := cc) (svn := svn) (ms1 := ms1) (ms2 := ms2) (ms3 := ms3) (ms4 := ms4) (mfa := mfa) (mim := mim) (mik := mik) (be := b5) (ba := b6) (z := z) (g := g) (hnl := hnl) (hnv := hnv) (hz := hz) (hg := hg) (hbe := hb3) (hba := hc3) (hw := by omega) (hv := by omega) (h1 := by omega) (h2 := by omega) (hn := by omega) (hop := by omega) (hos := by omega)) (cwV 5 hts gX8_forgotten_X8_rowsAlike rfl rfl rfl yd_X8_rowsAlike ⟨Nat.le_of_ble_eq_true rfl, Nat.le_of_ble_eq_true rfl⟩) hK hP hD hS [0, 1, 2, 3, 4] (by decide) rfl rfl rfl rfl hl.1 rfl (Nat.le_of_ble_eq_true rfl) dX8_forgotten_197 ⟨Nat.zero_le _, Nat.zero_le _⟩ (fun _ => rfl) (fun (u : (Nat → Nat) × (Nat → Nat)) => [(mo, .inr (8, [.int (nI ps), .ref mpa, .int (nI nl), .int (nI nv), .ref msz, .ref mcd, .ref mbe, .ref mba, .int (nI k), .int (nI i), .int (nI cc), .int (nI svn), .ref ms1, .ref ms2, .ref ms3, .ref ms4, .ref mfa, .ref mim, .ref mik])), (mbe, aN cI 26 u.1), (mba, aN cI 26 u.2), (msz, aN cI 80 z), (mcd, aN cI 640 g)]) (fun _ => rfl) (fun r u H locs hp_197 hP hD hS => ?_)
                                            obtain ⟨beu_197, bau_197⟩ := u
                                            have hP : va_P D vwCl [(mo, .inr (8, [.int (nI ps), .ref mpa, .int (nI nl), .int (nI nv), .ref msz, .ref mcd, .ref mbe, .ref mba, .int (nI k), .int (nI i), .int (nI cc), .int (nI svn), .ref ms1, .ref ms2, .ref ms3, .ref ms4, .ref mfa, .ref mim, .ref mik])), (mbe, aN cI 26 beu_197), (mba, aN cI 26 bau_197), (msz, aN cI 80 z), (mcd, aN cI 640 g)] H := hP
                                            have hD : va_D A [(mo, .inr (8, [.int (nI ps), .ref mpa, .int (nI nl), .int (nI nv), .ref msz, .ref mcd, .ref mbe, .ref mba, .int (nI k), .int (nI i), .int (nI cc), .int (nI svn), .ref ms1, .ref ms2, .ref ms3, .ref ms4, .ref mfa, .ref mim, .ref mik])), (mbe, aN cI 26 beu_197), (mba, aN cI 26 bau_197), (msz, aN cI 80 z), (mcd, aN cI 640 g)] := hD
                                            try dsimp only at hp_197
                                            obtain ⟨hr_hp_197, hp_197⟩ := hp_197
                                            rw [hr_hp_197]
                                            refine lv_istore (lv' := [(11, .int (bI (rmB 1 z g (cN ve) nl (cN one) (cN oth) (cN n) (nI k) i cc))), (0, .ref mo), (1, .int (nI (cN ve))), (2, .int (nI (cN one))), (3, .int (nI (cN oth))), (4, .int (nI (cN n))), (5, .int wh), (7, .int (foR (k * 10 + i) nm3 wh)), (8, .int (nI k)), (9, .int (nI i)), (10, .int (nI cc))]) hx hb dX8_forgotten_200 hl (by decide) rfl (fun ls hl => ?_)
                                            refine lv_iload hx hb dX8_forgotten_202 (lv_at hl 0 rfl) ?_
                                            refine m_ifB_eq (tgt := 228) hx hb dX8_forgotten_204 (by decide) (fun c_204 => ?_) (fun c_204 => ?_)
                                            · refine lv_bipush (v := (-6)) hx hb dX8_forgotten_228 (by decide) ?_
                                              refine m_top (y := foR (k * 10 + i) 0 wh) rfl ?_
                                              refine lv_istore (lv' := [(7, .int (foR (k * 10 + i) 0 wh)), (11, .int (bI (rmB 1 z g (cN ve) nl (cN one) (cN oth) (cN n) (nI k) i cc))), (0, .ref mo), (1, .int (nI (cN ve))), (2, .int (nI (cN one))), (3, .int (nI (cN oth))), (4, .int (nI (cN n))), (5, .int wh), (8, .int (nI k)), (9, .int (nI i)), (10, .int (nI cc))]) hx hb dX8_forgotten_230 hl (by decide) rfl (fun ls hl => ?_)
                                              refine lv_iinc (v := nI (cc + 1)) (lv' := [(10, .int (nI (cc + 1))), (7, .int (foR (k * 10 + i) 0 wh)), (11, .int (bI (rmB 1 z g (cN ve) nl (cN one) (cN oth) (cN n) (nI k) i cc))), (0, .ref mo), (1, .int (nI (cN ve))), (2, .int (nI (cN one))), (3, .int (nI (cN oth))), (4, .int (nI (cN n))), (5, .int wh), (8, .int (nI k)), (9, .int (nI i))]) hx hb dX8_forgotten_232 hl (k := 10) rfl ((nI_succ _).symm) (by decide) rfl (fun ls hl => ?_)
                                              refine lv_goto (tgt := 143) hx hb dX8_forgotten_235 (by decide) ?_
                                              have E7 : cc + 1 - 97 = cc - 97 + 1 := by omega
                                              have E6 : 97 + (cc - 97) = cc := by omega
                                              have E5 : fmQ (fun c => rmB 1 z g (cN ve) nl (cN one) (cN oth) (cN n) (nI k) i c) (g ((cN ve * 20 + (cN oth + k)) * 8 + i)) (cc - 97) = 0 := by rw [← hC, z52]
                                              exact ih_143 (cc + 1) 0 _ _ _ _ _ (by omega) (by omega) (by omega) (by omega) (by omega) (by omega) hp_197.2.1 hp_197.2.2 (by rw [E7, fmQ_f E5 (by rw [E6]; exact c_204)]) _ _ hP hD hS ls (lv_sub hl [3, 4, 5, 6, 7, 8, 1, 9, 10, 0] rfl)
                                            · refine lv_iload hx hb dX8_forgotten_207 (lv_at hl 6 rfl) ?_
                                              refine lv_if_ne (tgt := 223) hx hb dX8_forgotten_209 (by decide) (fun c_209 => ?_) (fun c_209 => ?_)
                                              · refine lv_iload hx hb dX8_forgotten_223 (lv_at hl 10 rfl) ?_
                                                refine m_top (y := foR (k * 10 + i) cc wh) (by unfold foR; rw [if_neg (by omega), if_neg c_209]) ?_
                                                refine lv_goto (tgt := 230) hx hb dX8_forgotten_225 (by decide) ?_
                                                refine lv_istore (lv' := [(7, .int (foR (k * 10 + i) cc wh)), (11, .int (bI (rmB 1 z g (cN ve) nl (cN one) (cN oth) (cN n) (nI k) i cc))), (0, .ref mo), (1, .int (nI (cN ve))), (2, .int (nI (cN one))), (3, .int (nI (cN oth))), (4, .int (nI (cN n))), (5, .int wh), (8, .int (nI k)), (9, .int (nI i)), (10, .int (nI cc))]) hx hb dX8_forgotten_230 hl (by decide) rfl (fun ls hl => ?_)
                                                refine lv_iinc (v := nI (cc + 1)) (lv' := [(10, .int (nI (cc + 1))), (7, .int (foR (k * 10 + i) cc wh)), (11, .int (bI (rmB 1 z g (cN ve) nl (cN one) (cN oth) (cN n) (nI k) i cc))), (0, .ref mo), (1, .int (nI (cN ve))), (2, .int (nI (cN one))), (3, .int (nI (cN oth))), (4, .int (nI (cN n))), (5, .int wh), (8, .int (nI k)), (9, .int (nI i))]) hx hb dX8_forgotten_232 hl (k := 10) rfl ((nI_succ _).symm) (by decide) rfl (fun ls hl => ?_)
                                                refine lv_goto (tgt := 143) hx hb dX8_forgotten_235 (by decide) ?_
                                                have E7 : cc + 1 - 97 = cc - 97 + 1 := by omega
                                                have E6 : 97 + (cc - 97) = cc := by omega
                                                have E5 : fmQ (fun c => rmB 1 z g (cN ve) nl (cN one) (cN oth) (cN n) (nI k) i c) (g ((cN ve * 20 + (cN oth + k)) * 8 + i)) (cc - 97) = 0 := by rw [← hC, z52]
                                                exact ih_143 (cc + 1) cc _ _ _ _ _ (by omega) (by omega) (by omega) (by omega) (by omega) (by omega) hp_197.2.1 hp_197.2.2 (by rw [E7, fmQ_t c_169 E5 (by rw [E6]; exact c_204), E6]) _ _ hP hD hS ls (lv_sub hl [3, 4, 5, 6, 7, 8, 1, 9, 10, 0] rfl)
                                              · refine lv_bipush (v := nI 10) hx hb dX8_forgotten_212 (by decide) ?_
                                                refine lv_iload hx hb dX8_forgotten_214 (lv_at hl 8 rfl) ?_
                                                refine m_mul hx hb dX8_forgotten_216 ?_
                                                refine lv_iload hx hb dX8_forgotten_217 (lv_at hl 9 rfl) ?_
                                                refine m_add hx hb dX8_forgotten_219 ?_
                                                refine m_top (y := foR (k * 10 + i) cc wh) (by unfold foR; rw [if_neg (by omega), if_pos c_209, Nat.mul_comm]) ?_
                                                refine lv_goto (tgt := 230) hx hb dX8_forgotten_220 (by decide) ?_
                                                refine lv_istore (lv' := [(7, .int (foR (k * 10 + i) cc wh)), (11, .int (bI (rmB 1 z g (cN ve) nl (cN one) (cN oth) (cN n) (nI k) i cc))), (0, .ref mo), (1, .int (nI (cN ve))), (2, .int (nI (cN one))), (3, .int (nI (cN oth))), (4, .int (nI (cN n))), (5, .int wh), (8, .int (nI k)), (9, .int (nI i)), (10, .int (nI cc))]) hx hb dX8_forgotten_230 hl (by decide) rfl (fun ls hl => ?_)
                                                refine lv_iinc (v := nI (cc + 1)) (lv' := [(10, .int (nI (cc + 1))), (7, .int (foR (k * 10 + i) cc wh)), (11, .int (bI (rmB 1 z g (cN ve) nl (cN one) (cN oth) (cN n) (nI k) i cc))), (0, .ref mo), (1, .int (nI (cN ve))), (2, .int (nI (cN one))), (3, .int (nI (cN oth))), (4, .int (nI (cN n))), (5, .int wh), (8, .int (nI k)), (9, .int (nI i))]) hx hb dX8_forgotten_232 hl (k := 10) rfl ((nI_succ _).symm) (by decide) rfl (fun ls hl => ?_)
                                                refine lv_goto (tgt := 143) hx hb dX8_forgotten_235 (by decide) ?_
                                                have E7 : cc + 1 - 97 = cc - 97 + 1 := by omega
                                                have E6 : 97 + (cc - 97) = cc := by omega
                                                have E5 : fmQ (fun c => rmB 1 z g (cN ve) nl (cN one) (cN oth) (cN n) (nI k) i c) (g ((cN ve * 20 + (cN oth + k)) * 8 + i)) (cc - 97) = 0 := by rw [← hC, z52]
                                                exact ih_143 (cc + 1) cc _ _ _ _ _ (by omega) (by omega) (by omega) (by omega) (by omega) (by omega) hp_197.2.1 hp_197.2.2 (by rw [E7, fmQ_t c_169 E5 (by rw [E6]; exact c_204), E6]) _ _ hP hD hS ls (lv_sub hl [3, 4, 5, 6, 7, 8, 1, 9, 10, 0] rfl)
                                  exact loop_143 124 97 0 _ _ _ _ _ (by omega) (by omega) (by omega) (by omega) hp2 hs2 hb2 hc2 (fmQ_0 _ _).symm _ _ hP hD hS ls (lv_sub hl [1, 2, 3, 4, 5, 6, 7, 8, 9, 0] rfl)
                          exact loop_120 (z (cN ve * 20 + (cN oth + k)) + 1) 0 pl nm _ _ _ _ _ (by omega) (by omega) hpl1 hn1 hp1 hs1 hb1 hc1 hI _ _ hP hD hS ls (lv_sub hl [1, 2, 3, 4, 5, 6, 7, 8, 0] rfl)
                  exact loop_105 (cN n + 1) 0 0 0 _ _ _ _ _ (by omega) (by omega) (by omega) (by omega) hop hos hp_89.2.1 hp_89.2.2 (fgI_0 _ _ _) _ _ hP hD hS ls (lv_sub hl [3, 4, 5, 6, 7, 8, 1, 0] rfl)
                · refine lv_bipush (v := (-6)) hx hb dX8_forgotten_95 (by decide) ?_
                  rw [hQ]
                  exact m_iwr hx hb hr hlocks (beu_89, bau_89, op, os, 0, 0) (⟨by rw [rfQ_v c_5 KI]; rfl, hp_89.2.1, hp_89.2.2, hop, hos, fun _ _ => ⟨fun _ => rfl, fun h => by obtain ⟨q1, q2, q3, q4⟩ := h; exfalso; first | omega | (rw [c_92] at q4; cases q4)⟩⟩) hP hS dX8_forgotten_97
        · refine lv_iload_n hx hb dX8_forgotten_42 rfl (lv_at hl 3 rfl) ?_
          refine lv_iload hx hb dX8_forgotten_43 (lv_at hl 4 rfl) ?_
          refine m_add hx hb dX8_forgotten_45 ?_
          refine lv_iload_n hx hb dX8_forgotten_46 rfl (lv_at hl 2 rfl) ?_
          refine m_cmp_gt (tgt := 54) hx hb dX8_forgotten_47 (by decide) (by omega) (by omega) (fun c_47 => ?_) (fun c_47 => ?_)
          · refine lv_iconst (v := nI 0) hx hb dX8_forgotten_54 (by decide) ?_
            refine lv_istore (lv' := [(6, .int (nI 0)), (0, .ref mo), (1, .int (nI (cN ve))), (2, .int (nI (cN one))), (3, .int (nI (cN oth))), (4, .int (nI (cN n))), (5, .int wh)]) hx hb dX8_forgotten_55 hl (by decide) rfl (fun ls hl => ?_)
            refine lv_iload hx hb dX8_forgotten_57 (lv_at hl 0 rfl) ?_
            refine m_if_eq (tgt := 95) hx hb dX8_forgotten_59 (by decide) (by omega) (fun c_59 => ?_) (fun c_59 => ?_)
            · refine lv_bipush (v := (-6)) hx hb dX8_forgotten_95 (by decide) ?_
              rw [hQ]
              exact m_iwr hx hb hr hlocks (be, ba, op, os, 0, 0) (⟨by rw [rfQ_v c_5 KI]; rfl, hbe, hba, hop, hos, fun _ _ => ⟨fun _ => rfl, fun h => by obtain ⟨q1, q2, q3, q4⟩ := h; exfalso; first | omega | (rw [c_92] at q4; cases q4)⟩⟩) hP hS dX8_forgotten_97
            · refine lv_aload_n hx hb dX8_forgotten_62 rfl (lv_at hl 1 rfl) ?_
              refine lv_iload_n hx hb dX8_forgotten_63 rfl (lv_at hl 3 rfl) ?_
              refine lv_iload hx hb dX8_forgotten_64 (lv_at hl 5 rfl) ?_
              refine m_rdV (As := [.int (nI (cN one)), .int (nI (cN n))]) (rest := []) (wc := [(mo, .inr (8, [.int (nI ps), .ref mpa, .int (nI nl), .int (nI nv), .ref msz, .ref mcd, .ref mbe, .ref mba, .int (-6), .int (nI op), .int (nI os), .int (nI svn), .ref ms1, .ref ms2, .ref ms3, .ref ms4, .ref mfa, .ref mim, .ref mik]))]) hcf (k_X8_isThere (l := l) (D := D) (cI := cI) (cZ := cZ) (sta := cN one) (n := cN n) (mo := mo) (ps := ps) (mpa := mpa) (nl := nl) (nv := nv) (msz := msz) (mcd := mcd) (mbe := mbe) (mba := mba) (ol := -6) (op := op) (os := os) (svn := svn) (ms1 := ms1) (ms2 := ms2) (ms3 := ms3) (ms4 := ms4) (mfa := mfa) (mim := mim) (mik := mik) (hnl := hnl) (h1 := by omega) (hn := by omega)) (cwV 2 hts gX8_forgotten_X8_isThere rfl rfl rfl yd_X8_isThere ⟨Nat.le_of_ble_eq_true rfl, Nat.le_of_ble_eq_true rfl⟩) (m_preV hK hP hD [0] (by decide) rfl rfl rfl) rfl hl.1 rfl (Nat.le_of_ble_eq_true rfl) dX8_forgotten_66 ⟨Nat.zero_le _, Nat.zero_le _⟩ ?_
              refine m_ifB_eq (tgt := 95) hx hb dX8_forgotten_69 (by decide) (fun c_69 => ?_) (fun c_69 => ?_)
              · have i69 := of_decide_eq_false c_69
                refine lv_bipush (v := (-6)) hx hb dX8_forgotten_95 (by decide) ?_
                rw [hQ]
                exact m_iwr hx hb hr hlocks (be, ba, op, os, 0, 0) (⟨by rw [rfQ_v c_5 KI]; rfl, hbe, hba, hop, hos, fun _ _ => ⟨fun _ => rfl, fun h => by obtain ⟨q1, q2, q3, q4⟩ := h; exfalso; first | omega | (rw [c_92] at q4; cases q4)⟩⟩) hP hS dX8_forgotten_97
              · have i69 := of_decide_eq_true c_69
                refine lv_aload_n hx hb dX8_forgotten_72 rfl (lv_at hl 1 rfl) ?_
                refine lv_iload_n hx hb dX8_forgotten_73 rfl (lv_at hl 4 rfl) ?_
                refine lv_iload hx hb dX8_forgotten_74 (lv_at hl 5 rfl) ?_
                refine m_rdV (As := [.int (nI (cN oth)), .int (nI (cN n))]) (rest := []) (wc := [(mo, .inr (8, [.int (nI ps), .ref mpa, .int (nI nl), .int (nI nv), .ref msz, .ref mcd, .ref mbe, .ref mba, .int (-6), .int (nI op), .int (nI os), .int (nI svn), .ref ms1, .ref ms2, .ref ms3, .ref ms4, .ref mfa, .ref mim, .ref mik]))]) hcf (k_X8_isThere (l := l) (D := D) (cI := cI) (cZ := cZ) (sta := cN oth) (n := cN n) (mo := mo) (ps := ps) (mpa := mpa) (nl := nl) (nv := nv) (msz := msz) (mcd := mcd) (mbe := mbe) (mba := mba) (ol := -6) (op := op) (os := os) (svn := svn) (ms1 := ms1) (ms2 := ms2) (ms3 := ms3) (ms4 := ms4) (mfa := mfa) (mim := mim) (mik := mik) (hnl := hnl) (h1 := by omega) (hn := by omega)) (cwV 2 hts gX8_forgotten_X8_isThere rfl rfl rfl yd_X8_isThere ⟨Nat.le_of_ble_eq_true rfl, Nat.le_of_ble_eq_true rfl⟩) (m_preV hK hP hD [0] (by decide) rfl rfl rfl) rfl hl.1 rfl (Nat.le_of_ble_eq_true rfl) dX8_forgotten_76 ⟨Nat.zero_le _, Nat.zero_le _⟩ ?_
                refine m_ifB_eq (tgt := 95) hx hb dX8_forgotten_79 (by decide) (fun c_79 => ?_) (fun c_79 => ?_)
                · have i79 := of_decide_eq_false c_79
                  refine lv_bipush (v := (-6)) hx hb dX8_forgotten_95 (by decide) ?_
                  rw [hQ]
                  exact m_iwr hx hb hr hlocks (be, ba, op, os, 0, 0) (⟨by rw [rfQ_v c_5 KI]; rfl, hbe, hba, hop, hos, fun _ _ => ⟨fun _ => rfl, fun h => by obtain ⟨q1, q2, q3, q4⟩ := h; exfalso; first | omega | (rw [c_92] at q4; cases q4)⟩⟩) hP hS dX8_forgotten_97
                · have i79 := of_decide_eq_true c_79
                  refine lv_aload_n hx hb dX8_forgotten_82 rfl (lv_at hl 1 rfl) ?_
                  refine lv_iload_n hx hb dX8_forgotten_83 rfl (lv_at hl 2 rfl) ?_
                  refine lv_iconst (v := nI 1) hx hb dX8_forgotten_84 (by decide) ?_
                  refine lv_iload_n hx hb dX8_forgotten_85 rfl (lv_at hl 3 rfl) ?_
                  refine lv_iload_n hx hb dX8_forgotten_86 rfl (lv_at hl 4 rfl) ?_
                  refine lv_iload hx hb dX8_forgotten_87 (lv_at hl 5 rfl) ?_
                  refine m_wrV (As := [.int (nI (cN ve)), .int (nI 1), .int (nI (cN one)), .int (nI (cN oth)), .int (nI (cN n))]) (rest := []) (wc := [(mo, .inr (8, [.int (nI ps), .ref mpa, .int (nI nl), .int (nI nv), .ref msz, .ref mcd, .ref mbe, .ref mba, .int (-6), .int (nI op), .int (nI os), .int (nI svn), .ref ms1, .ref ms2, .ref ms3, .ref ms4, .ref mfa, .ref mim, .ref mik])), (mbe, aN cI 26 be), (mba, aN cI 26 ba), (msz, aN cI 80 z), (mcd, aN cI 640 g)]) hcf (k_X8_rowsAlike (l := l) (D := D) (cI := cI) (cZ := cZ) (v := cN ve) (way := 1) (one := cN one) (oth := cN oth) (n := cN n) (mo := mo) (ps := ps) (mpa := mpa) (nl := nl) (nv := nv) (msz := msz) (mcd := mcd) (mbe := mbe) (mba := mba) (ol := -6) (op := op) (os := os) (svn := svn) (ms1 := ms1) (ms2 := ms2) (ms3 := ms3) (ms4 := ms4) (mfa := mfa) (mim := mim) (mik := mik) (be := be) (ba := ba) (z := z) (g := g) (hnl := hnl) (hnv := hnv) (hz := hz) (hg := hg) (hbe := hbe) (hba := hba) (hw := by omega) (hv := by omega) (h1 := by omega) (h2 := by omega) (hn := by omega) (hop := hop) (hos := hos)) (cwV 5 hts gX8_forgotten_X8_rowsAlike rfl rfl rfl yd_X8_rowsAlike ⟨Nat.le_of_ble_eq_true rfl, Nat.le_of_ble_eq_true rfl⟩) hK hP hD hS [0, 1, 2, 3, 4] (by decide) rfl rfl rfl rfl hl.1 rfl (Nat.le_of_ble_eq_true rfl) dX8_forgotten_89 ⟨Nat.zero_le _, Nat.zero_le _⟩ (fun _ => rfl) (fun (u : (Nat → Nat) × (Nat → Nat)) => [(mo, .inr (8, [.int (nI ps), .ref mpa, .int (nI nl), .int (nI nv), .ref msz, .ref mcd, .ref mbe, .ref mba, .int (-6), .int (nI op), .int (nI os), .int (nI svn), .ref ms1, .ref ms2, .ref ms3, .ref ms4, .ref mfa, .ref mim, .ref mik])), (mbe, aN cI 26 u.1), (mba, aN cI 26 u.2), (msz, aN cI 80 z), (mcd, aN cI 640 g)]) (fun _ => rfl) (fun r u H locs hp_89 hP hD hS => ?_)
                  obtain ⟨beu_89, bau_89⟩ := u
                  have hP : va_P D vwCl [(mo, .inr (8, [.int (nI ps), .ref mpa, .int (nI nl), .int (nI nv), .ref msz, .ref mcd, .ref mbe, .ref mba, .int (-6), .int (nI op), .int (nI os), .int (nI svn), .ref ms1, .ref ms2, .ref ms3, .ref ms4, .ref mfa, .ref mim, .ref mik])), (mbe, aN cI 26 beu_89), (mba, aN cI 26 bau_89), (msz, aN cI 80 z), (mcd, aN cI 640 g)] H := hP
                  have hD : va_D A [(mo, .inr (8, [.int (nI ps), .ref mpa, .int (nI nl), .int (nI nv), .ref msz, .ref mcd, .ref mbe, .ref mba, .int (-6), .int (nI op), .int (nI os), .int (nI svn), .ref ms1, .ref ms2, .ref ms3, .ref ms4, .ref mfa, .ref mim, .ref mik])), (mbe, aN cI 26 beu_89), (mba, aN cI 26 bau_89), (msz, aN cI 80 z), (mcd, aN cI 640 g)] := hD
                  try dsimp only at hp_89
                  obtain ⟨hr_hp_89, hp_89⟩ := hp_89
                  rw [hr_hp_89]
                  refine m_ifB_eq (tgt := 98) hx hb dX8_forgotten_92 (by decide) (fun c_92 => ?_) (fun c_92 => ?_)
                  · refine lv_bipush (v := (-6)) hx hb dX8_forgotten_98 (by decide) ?_
                    refine lv_istore (lv' := [(7, .int (-6)), (6, .int (nI 0)), (0, .ref mo), (1, .int (nI (cN ve))), (2, .int (nI (cN one))), (3, .int (nI (cN oth))), (4, .int (nI (cN n))), (5, .int wh)]) hx hb dX8_forgotten_100 hl (by decide) rfl (fun ls hl => ?_)
                    refine lv_iconst (v := nI 0) hx hb dX8_forgotten_102 (by decide) ?_
                    refine lv_istore (lv' := [(8, .int (nI 0)), (7, .int (-6)), (6, .int (nI 0)), (0, .ref mo), (1, .int (nI (cN ve))), (2, .int (nI (cN one))), (3, .int (nI (cN oth))), (4, .int (nI (cN n))), (5, .int wh)]) hx hb dX8_forgotten_103 hl (by decide) rfl (fun ls hl => ?_)
                    have loop_105 : ∀ (fu : Nat) (k pl nm p1 s1 : Nat) (o1 : Int32) (b1 b2 : Nat → Nat) (hfu : cN n - k < fu)  (hk : k ≤ cN n) (hpl1 : pl ≤ 300) (hn1 : nm ≤ 126) (hp1 : p1 ≤ 100) (hs1 : s1 ≤ 126) (hb1 : ∀ j, b1 j ≤ 126) (hc1 : ∀ j, b2 j ≤ 126) (hI : fgI (fmF z g (cN ve) nl (cN one) (cN oth) (cN n)) (fun a => z (cN ve * 20 + (cN oth + a))) k 0 pl nm) (H : Heap) (locs : List Loc) (hP : va_P D vwCl [(mo, .inr (8, [.int (nI ps), .ref mpa, .int (nI nl), .int (nI nv), .ref msz, .ref mcd, .ref mbe, .ref mba, .int o1, .int (nI p1), .int (nI s1), .int (nI svn), .ref ms1, .ref ms2, .ref ms3, .ref ms4, .ref mfa, .ref mim, .ref mik])), (mbe, aN cI 26 b1), (mba, aN cI 26 b2), (msz, aN cI 80 z), (mcd, aN cI 640 g)] H) (hD : va_D A [(mo, .inr (8, [.int (nI ps), .ref mpa, .int (nI nl), .int (nI nv), .ref msz, .ref mcd, .ref mbe, .ref mba, .int o1, .int (nI p1), .int (nI s1), .int (nI svn), .ref ms1, .ref ms2, .ref ms3, .ref ms4, .ref mfa, .ref mim, .ref mik])), (mbe, aN cI 26 b1), (mba, aN cI 26 b2), (msz, aN cI 80 z), (mcd, aN cI 640 g)]) (hS : va_S A s.heap H locs) (ls : Array Slot) (hl : lv_has ls 12 [(0, .ref mo), (1, .int (nI (cN ve))), (2, .int (nI (cN one))), (3, .int (nI (cN oth))), (4, .int (nI (cN n))), (5, .int wh), (7, .int (foR pl nm wh)), (8, .int (nI k))]), W p l e (headSpec wsX8_forgotten { frames := 4, cells := 0, slots := 0, locals := 93 }).room s m args below meth c H locs 0 0 Q (F0 m 105 ls []) := by
                      intro fu
                      induction fu with
                      | zero => intro k pl nm p1 s1 o1 b1 b2 hfu; exact absurd hfu (Nat.not_lt_zero _)
                      | succ fu ih_105 =>
                        intro k pl nm p1 s1 o1 b1 b2 hfu hk hpl1 hn1 hp1 hs1 hb1 hc1 hI H locs hP hD hS ls hl
                        refine lv_iload hx hb dX8_forgotten_105 (lv_at hl 7 rfl) ?_
                        refine lv_iload hx hb dX8_forgotten_107 (lv_at hl 4 rfl) ?_
                        refine m_cmp_ge (tgt := 250) hx hb dX8_forgotten_109 (by decide) (by omega) (by omega) (fun c_109 => ?_) (fun c_109 => ?_)
                        · refine lv_aload_n hx hb dX8_forgotten_250 rfl (lv_at hl 0 rfl) ?_
                          refine lv_bipush (v := (-6)) hx hb dX8_forgotten_251 (by decide) ?_
                          refine va_put (D := D) (ci := 8) (v := .int (-6)) (ty := .int) (C := RX8) (T := TX8) (N := 19) hx hb hts i_X8 tyX8 tyX8_ok nmX8 hown hK.1 hP hD hS 0 rfl rfl 8 (by decide) f_25 (fun _ h9 => h9) rfl (by decide +kernel) rfl rfl (Nat.le_of_ble_eq_true rfl) dX8_forgotten_253 (fun H locs hP hD hS => ?_)
                          have hP : va_P D vwCl [(mo, .inr (8, [.int (nI ps), .ref mpa, .int (nI nl), .int (nI nv), .ref msz, .ref mcd, .ref mbe, .ref mba, .int (-6), .int (nI p1), .int (nI s1), .int (nI svn), .ref ms1, .ref ms2, .ref ms3, .ref ms4, .ref mfa, .ref mim, .ref mik])), (mbe, aN cI 26 b1), (mba, aN cI 26 b2), (msz, aN cI 80 z), (mcd, aN cI 640 g)] H := hP
                          have hD : va_D A [(mo, .inr (8, [.int (nI ps), .ref mpa, .int (nI nl), .int (nI nv), .ref msz, .ref mcd, .ref mbe, .ref mba, .int (-6), .int (nI p1), .int (nI s1), .int (nI svn), .ref ms1, .ref ms2, .ref ms3, .ref ms4, .ref mfa, .ref mim, .ref mik])), (mbe, aN cI 26 b1), (mba, aN cI 26 b2), (msz, aN cI 80 z), (mcd, aN cI 640 g)] := hD
                          refine lv_iload hx hb dX8_forgotten_256 (lv_at hl 6 rfl) ?_
                          rw [hQ]
                          exact m_iwr hx hb hr hlocks (b1, b2, p1, s1, pl, nm) (⟨by rw [rfQ_v c_5 KI], hb1, hc1, hp1, hs1, fun _ _ => ⟨fun h => absurd ⟨by omega, i69, i79, c_92⟩ h, fun _ => fgI_end hI hk (by first | exact Or.inl (by omega) | exact Or.inr n14)⟩⟩) hP hS dX8_forgotten_258
                        · refine lv_iload hx hb dX8_forgotten_112 (lv_at hl 6 rfl) ?_
                          refine lv_if_ge (tgt := 250) hx hb dX8_forgotten_114 (by decide) (fun c_114 => ?_) (fun c_114 => ?_)
                          · have n14 := foR_nn c_114
                            refine lv_aload_n hx hb dX8_forgotten_250 rfl (lv_at hl 0 rfl) ?_
                            refine lv_bipush (v := (-6)) hx hb dX8_forgotten_251 (by decide) ?_
                            refine va_put (D := D) (ci := 8) (v := .int (-6)) (ty := .int) (C := RX8) (T := TX8) (N := 19) hx hb hts i_X8 tyX8 tyX8_ok nmX8 hown hK.1 hP hD hS 0 rfl rfl 8 (by decide) f_25 (fun _ h9 => h9) rfl (by decide +kernel) rfl rfl (Nat.le_of_ble_eq_true rfl) dX8_forgotten_253 (fun H locs hP hD hS => ?_)
                            have hP : va_P D vwCl [(mo, .inr (8, [.int (nI ps), .ref mpa, .int (nI nl), .int (nI nv), .ref msz, .ref mcd, .ref mbe, .ref mba, .int (-6), .int (nI p1), .int (nI s1), .int (nI svn), .ref ms1, .ref ms2, .ref ms3, .ref ms4, .ref mfa, .ref mim, .ref mik])), (mbe, aN cI 26 b1), (mba, aN cI 26 b2), (msz, aN cI 80 z), (mcd, aN cI 640 g)] H := hP
                            have hD : va_D A [(mo, .inr (8, [.int (nI ps), .ref mpa, .int (nI nl), .int (nI nv), .ref msz, .ref mcd, .ref mbe, .ref mba, .int (-6), .int (nI p1), .int (nI s1), .int (nI svn), .ref ms1, .ref ms2, .ref ms3, .ref ms4, .ref mfa, .ref mim, .ref mik])), (mbe, aN cI 26 b1), (mba, aN cI 26 b2), (msz, aN cI 80 z), (mcd, aN cI 640 g)] := hD
                            refine lv_iload hx hb dX8_forgotten_256 (lv_at hl 6 rfl) ?_
                            rw [hQ]
                            exact m_iwr hx hb hr hlocks (b1, b2, p1, s1, pl, nm) (⟨by rw [rfQ_v c_5 KI], hb1, hc1, hp1, hs1, fun _ _ => ⟨fun h => absurd ⟨by omega, i69, i79, c_92⟩ h, fun _ => fgI_end hI hk (by first | exact Or.inl (by omega) | exact Or.inr n14)⟩⟩) hP hS dX8_forgotten_258
                          · have z14 := foR_ng hpl1 hn1 c_114
                            refine lv_iconst (v := nI 0) hx hb dX8_forgotten_117 (by decide) ?_
                            refine lv_istore (lv' := [(9, .int (nI 0)), (0, .ref mo), (1, .int (nI (cN ve))), (2, .int (nI (cN one))), (3, .int (nI (cN oth))), (4, .int (nI (cN n))), (5, .int wh), (7, .int (foR pl nm wh)), (8, .int (nI k))]) hx hb dX8_forgotten_118 hl (by decide) rfl (fun ls hl => ?_)
                            have loop_120 : ∀ (fu : Nat) (i pl2 nm2 p2 s2 : Nat) (o2 : Int32) (b3 b4 : Nat → Nat) (hfu : z (cN ve * 20 + (cN oth + k)) - i < fu)  (hi : i ≤ z (cN ve * 20 + (cN oth + k))) (hpl2 : pl2 ≤ 300) (hn2 : nm2 ≤ 126) (hp2 : p2 ≤ 100) (hs2 : s2 ≤ 126) (hb2 : ∀ j, b3 j ≤ 126) (hc2 : ∀ j, b4 j ≤ 126) (hJ : fgI (fmF z g (cN ve) nl (cN one) (cN oth) (cN n)) (fun a => z (cN ve * 20 + (cN oth + a))) k i pl2 nm2) (H : Heap) (locs : List Loc) (hP : va_P D vwCl [(mo, .inr (8, [.int (nI ps), .ref mpa, .int (nI nl), .int (nI nv), .ref msz, .ref mcd, .ref mbe, .ref mba, .int o2, .int (nI p2), .int (nI s2), .int (nI svn), .ref ms1, .ref ms2, .ref ms3, .ref ms4, .ref mfa, .ref mim, .ref mik])), (mbe, aN cI 26 b3), (mba, aN cI 26 b4), (msz, aN cI 80 z), (mcd, aN cI 640 g)] H) (hD : va_D A [(mo, .inr (8, [.int (nI ps), .ref mpa, .int (nI nl), .int (nI nv), .ref msz, .ref mcd, .ref mbe, .ref mba, .int o2, .int (nI p2), .int (nI s2), .int (nI svn), .ref ms1, .ref ms2, .ref ms3, .ref ms4, .ref mfa, .ref mim, .ref mik])), (mbe, aN cI 26 b3), (mba, aN cI 26 b4), (msz, aN cI 80 z), (mcd, aN cI 640 g)]) (hS : va_S A s.heap H locs) (ls : Array Slot) (hl : lv_has ls 12 [(0, .ref mo), (1, .int (nI (cN ve))), (2, .int (nI (cN one))), (3, .int (nI (cN oth))), (4, .int (nI (cN n))), (5, .int wh), (7, .int (foR pl2 nm2 wh)), (8, .int (nI k)), (9, .int (nI i))]), W p l e (headSpec wsX8_forgotten { frames := 4, cells := 0, slots := 0, locals := 93 }).room s m args below meth c H locs 0 0 Q (F0 m 120 ls []) := by
                              intro fu
                              induction fu with
                              | zero => intro i pl2 nm2 p2 s2 o2 b3 b4 hfu; exact absurd hfu (Nat.not_lt_zero _)
                              | succ fu ih_120 =>
                                intro i pl2 nm2 p2 s2 o2 b3 b4 hfu hi hpl2 hn2 hp2 hs2 hb2 hc2 hJ H locs hP hD hS ls hl
                                refine lv_iload hx hb dX8_forgotten_120 (lv_at hl 8 rfl) ?_
                                refine lv_aload_n hx hb dX8_forgotten_122 rfl (lv_at hl 0 rfl) ?_
                                refine lv_iload_n hx hb dX8_forgotten_123 rfl (lv_at hl 1 rfl) ?_
                                refine lv_iload_n hx hb dX8_forgotten_124 rfl (lv_at hl 3 rfl) ?_
                                refine lv_iload hx hb dX8_forgotten_125 (lv_at hl 7 rfl) ?_
                                refine m_add hx hb dX8_forgotten_127 ?_
                                refine m_rdV (As := [.int (nI (cN ve)), .int (nI ((cN oth) + k))]) (rest := [.int (nI i)]) (wc := [(mo, .inr (8, [.int (nI ps), .ref mpa, .int (nI nl), .int (nI nv), .ref msz, .ref mcd, .ref mbe, .ref mba, .int o2, .int (nI p2), .int (nI s2), .int (nI svn), .ref ms1, .ref ms2, .ref ms3, .ref ms4, .ref mfa, .ref mim, .ref mik])), (msz, aN cI 80 z)]) hcf (k_X8_size (l := l) (D := D) (cI := cI) (cZ := cZ) (v := cN ve) (ln := (cN oth) + k) (mo := mo) (ps := ps) (mpa := mpa) (nl := nl) (nv := nv) (msz := msz) (mcd := mcd) (mbe := mbe) (mba := mba) (ol := o2) (op := p2) (os := s2) (svn := svn) (ms1 := ms1) (ms2 := ms2) (ms3 := ms3) (ms4 := ms4) (mfa := mfa) (mim := mim) (mik := mik) (z := z) (hv := by omega) (hln := by omega)) (cwV 2 hts gX8_forgotten_X8_size rfl rfl rfl yd_X8_size ⟨Nat.le_of_ble_eq_true rfl, Nat.le_of_ble_eq_true rfl⟩) (m_preV hK hP hD [0, 3] (by decide) rfl rfl rfl) rfl hl.1 rfl (Nat.le_of_ble_eq_true rfl) dX8_forgotten_128 ⟨Nat.zero_le _, Nat.zero_le _⟩ ?_
                                have hz9 := hz (cN ve * 20 + (cN oth + k))
                                refine m_cmp_ge (tgt := 244) hx hb dX8_forgotten_131 (by decide) (by omega) (by omega) (fun c_131 => ?_) (fun c_131 => ?_)
                                · refine lv_iinc (v := nI (k + 1)) (lv' := [(8, .int (nI (k + 1))), (0, .ref mo), (1, .int (nI (cN ve))), (2, .int (nI (cN one))), (3, .int (nI (cN oth))), (4, .int (nI (cN n))), (5, .int wh), (7, .int (foR pl2 nm2 wh)), (9, .int (nI i))]) hx hb dX8_forgotten_244 hl (k := 7) rfl ((nI_succ _).symm) (by decide) rfl (fun ls hl => ?_)
                                  refine lv_goto (tgt := 105) hx hb dX8_forgotten_247 (by decide) ?_
                                  exact ih_105 (k + 1) pl2 nm2 _ _ _ _ _ (by omega) (by omega) hpl2 hn2 hp2 hs2 hb2 hc2 (fgI_row hJ (by first | exact Or.inl (by omega) | exact Or.inr n36)) _ _ hP hD hS ls (lv_sub hl [1, 2, 3, 4, 5, 6, 7, 0] rfl)
                                · refine lv_iload hx hb dX8_forgotten_134 (lv_at hl 6 rfl) ?_
                                  refine lv_if_ge (tgt := 244) hx hb dX8_forgotten_136 (by decide) (fun c_136 => ?_) (fun c_136 => ?_)
                                  · have n36 := foR_nn c_136
                                    refine lv_iinc (v := nI (k + 1)) (lv' := [(8, .int (nI (k + 1))), (0, .ref mo), (1, .int (nI (cN ve))), (2, .int (nI (cN one))), (3, .int (nI (cN oth))), (4, .int (nI (cN n))), (5, .int wh), (7, .int (foR pl2 nm2 wh)), (9, .int (nI i))]) hx hb dX8_forgotten_244 hl (k := 7) rfl ((nI_succ _).symm) (by decide) rfl (fun ls hl => ?_)
                                    refine lv_goto (tgt := 105) hx hb dX8_forgotten_247 (by decide) ?_
                                    exact ih_105 (k + 1) pl2 nm2 _ _ _ _ _ (by omega) (by omega) hpl2 hn2 hp2 hs2 hb2 hc2 (fgI_row hJ (by first | exact Or.inl (by omega) | exact Or.inr n36)) _ _ hP hD hS ls (lv_sub hl [1, 2, 3, 4, 5, 6, 7, 0] rfl)
                                  · have z36 := foR_ng hpl2 hn2 c_136
                                    have hJ2 := hJ
                                    rw [z36] at hJ2
                                    have e_f : foR pl2 nm2 wh = foR (k * 10 + i) 0 wh := by rw [z36]; rfl
                                    have hl : lv_has ls 12 [(0, .ref mo), (1, .int (nI (cN ve))), (2, .int (nI (cN one))), (3, .int (nI (cN oth))), (4, .int (nI (cN n))), (5, .int wh), (7, .int (foR (k * 10 + i) 0 wh)), (8, .int (nI k)), (9, .int (nI i))] := by rw [← e_f]; exact hl
                                    refine lv_bipush (v := nI 97) hx hb dX8_forgotten_139 (by decide) ?_
                                    refine lv_istore (lv' := [(10, .int (nI 97)), (0, .ref mo), (1, .int (nI (cN ve))), (2, .int (nI (cN one))), (3, .int (nI (cN oth))), (4, .int (nI (cN n))), (5, .int wh), (7, .int (foR (k * 10 + i) 0 wh)), (8, .int (nI k)), (9, .int (nI i))]) hx hb dX8_forgotten_141 hl (by decide) rfl (fun ls hl => ?_)
                                    have loop_143 : ∀ (fu : Nat) (cc nm3 p3 s3 : Nat) (o3 : Int32) (b5 b6 : Nat → Nat) (hfu : 123 - cc < fu)  (hcc1 : 97 ≤ cc) (hcc2 : cc ≤ 123) (hn3 : nm3 ≤ 126) (hp3 : p3 ≤ 100) (hs3 : s3 ≤ 126) (hb3 : ∀ j, b5 j ≤ 126) (hc3 : ∀ j, b6 j ≤ 126) (hC : nm3 = fmQ (fun c => rmB 1 z g (cN ve) nl (cN one) (cN oth) (cN n) (nI k) i c) (g ((cN ve * 20 + (cN oth + k)) * 8 + i)) (cc - 97)) (H : Heap) (locs : List Loc) (hP : va_P D vwCl [(mo, .inr (8, [.int (nI ps), .ref mpa, .int (nI nl), .int (nI nv), .ref msz, .ref mcd, .ref mbe, .ref mba, .int o3, .int (nI p3), .int (nI s3), .int (nI svn), .ref ms1, .ref ms2, .ref ms3, .ref ms4, .ref mfa, .ref mim, .ref mik])), (mbe, aN cI 26 b5), (mba, aN cI 26 b6), (msz, aN cI 80 z), (mcd, aN cI 640 g)] H) (hD : va_D A [(mo, .inr (8, [.int (nI ps), .ref mpa, .int (nI nl), .int (nI nv), .ref msz, .ref mcd, .ref mbe, .ref mba, .int o3, .int (nI p3), .int (nI s3), .int (nI svn), .ref ms1, .ref ms2, .ref ms3, .ref ms4, .ref mfa, .ref mim, .ref mik])), (mbe, aN cI 26 b5), (mba, aN cI 26 b6), (msz, aN cI 80 z), (mcd, aN cI 640 g)]) (hS : va_S A s.heap H locs) (ls : Array Slot) (hl : lv_has ls 12 [(0, .ref mo), (1, .int (nI (cN ve))), (2, .int (nI (cN one))), (3, .int (nI (cN oth))), (4, .int (nI (cN n))), (5, .int wh), (7, .int (foR (k * 10 + i) nm3 wh)), (8, .int (nI k)), (9, .int (nI i)), (10, .int (nI cc))]), W p l e (headSpec wsX8_forgotten { frames := 4, cells := 0, slots := 0, locals := 93 }).room s m args below meth c H locs 0 0 Q (F0 m 143 ls []) := by
                                      intro fu
                                      induction fu with
                                      | zero => intro cc nm3 p3 s3 o3 b5 b6 hfu; exact absurd hfu (Nat.not_lt_zero _)
                                      | succ fu ih_143 =>
                                        intro cc nm3 p3 s3 o3 b5 b6 hfu hcc1 hcc2 hn3 hp3 hs3 hb3 hc3 hC H locs hP hD hS ls hl
                                        refine lv_iload hx hb dX8_forgotten_143 (lv_at hl 9 rfl) ?_
                                        refine lv_bipush (v := nI 122) hx hb dX8_forgotten_145 (by decide) ?_
                                        refine m_cmp_gt (tgt := 238) hx hb dX8_forgotten_147 (by decide) (by omega) (by omega) (fun c_147 => ?_) (fun c_147 => ?_)
                                        · refine lv_iinc (v := nI (i + 1)) (lv' := [(9, .int (nI (i + 1))), (0, .ref mo), (1, .int (nI (cN ve))), (2, .int (nI (cN one))), (3, .int (nI (cN oth))), (4, .int (nI (cN n))), (5, .int wh), (7, .int (foR (k * 10 + i) nm3 wh)), (8, .int (nI k)), (10, .int (nI cc))]) hx hb dX8_forgotten_238 hl (k := 8) rfl ((nI_succ _).symm) (by decide) rfl (fun ls hl => ?_)
                                          refine lv_goto (tgt := 120) hx hb dX8_forgotten_241 (by decide) ?_
                                          have E8 : nm3 = fmF z g (cN ve) nl (cN one) (cN oth) (cN n) k i := by
                                            unfold fmF
                                            first
                                            | (have e7 : cc - 97 = 26 := by omega
                                               rw [hC, e7]; done)
                                            | (have e6 := fmQ_stay (by rw [← hC]; exact n52) (26 - (cc - 97))
                                               rw [show cc - 97 + (26 - (cc - 97)) = 26 by omega] at e6
                                               rw [hC, e6]; done)
                                            | (rw [hC, fmQ_n c_169, fmQ_n c_169]; done)
                                          have E9 := fgI_s hJ2 c_131
                                          rw [← E8] at E9
                                          exact ih_120 (i + 1) (k * 10 + i) nm3 _ _ _ _ _ (by omega) (by omega) (by omega) hn3 hp3 hs3 hb3 hc3 E9 _ _ hP hD hS ls (lv_sub hl [1, 2, 3, 4, 5, 6, 7, 8, 0] rfl)
                                        · refine lv_iload hx hb dX8_forgotten_150 (lv_at hl 6 rfl) ?_
                                          refine lv_if_ge (tgt := 238) hx hb dX8_forgotten_152 (by decide) (fun c_152 => ?_) (fun c_152 => ?_)
                                          · have n52 := foR_nn c_152
                                            refine lv_iinc (v := nI (i + 1)) (lv' := [(9, .int (nI (i + 1))), (0, .ref mo), (1, .int (nI (cN ve))), (2, .int (nI (cN one))), (3, .int (nI (cN oth))), (4, .int (nI (cN n))), (5, .int wh), (7, .int (foR (k * 10 + i) nm3 wh)), (8, .int (nI k)), (10, .int (nI cc))]) hx hb dX8_forgotten_238 hl (k := 8) rfl ((nI_succ _).symm) (by decide) rfl (fun ls hl => ?_)
                                            refine lv_goto (tgt := 120) hx hb dX8_forgotten_241 (by decide) ?_
                                            have E8 : nm3 = fmF z g (cN ve) nl (cN one) (cN oth) (cN n) k i := by
                                              unfold fmF
                                              first
                                              | (have e7 : cc - 97 = 26 := by omega
                                                 rw [hC, e7]; done)
                                              | (have e6 := fmQ_stay (by rw [← hC]; exact n52) (26 - (cc - 97))
                                                 rw [show cc - 97 + (26 - (cc - 97)) = 26 by omega] at e6
                                                 rw [hC, e6]; done)
                                              | (rw [hC, fmQ_n c_169, fmQ_n c_169]; done)
                                            have E9 := fgI_s hJ2 c_131
                                            rw [← E8] at E9
                                            exact ih_120 (i + 1) (k * 10 + i) nm3 _ _ _ _ _ (by omega) (by omega) (by omega) hn3 hp3 hs3 hb3 hc3 E9 _ _ hP hD hS ls (lv_sub hl [1, 2, 3, 4, 5, 6, 7, 8, 0] rfl)
                                          · have z52 := foR_ng (by omega) hn3 c_152
                                            refine lv_aload_n hx hb dX8_forgotten_155 rfl (lv_at hl 0 rfl) ?_
                                            refine lv_iload_n hx hb dX8_forgotten_156 rfl (lv_at hl 1 rfl) ?_
                                            refine lv_iload_n hx hb dX8_forgotten_157 rfl (lv_at hl 3 rfl) ?_
                                            refine lv_iload hx hb dX8_forgotten_158 (lv_at hl 7 rfl) ?_
                                            refine m_add hx hb dX8_forgotten_160 ?_
                                            refine lv_iload hx hb dX8_forgotten_161 (lv_at hl 8 rfl) ?_
                                            refine m_rdV (As := [.int (nI (cN ve)), .int (nI ((cN oth) + k)), .int (nI i)]) (rest := []) (wc := [(mo, .inr (8, [.int (nI ps), .ref mpa, .int (nI nl), .int (nI nv), .ref msz, .ref mcd, .ref mbe, .ref mba, .int o3, .int (nI p3), .int (nI s3), .int (nI svn), .ref ms1, .ref ms2, .ref ms3, .ref ms4, .ref mfa, .ref mim, .ref mik])), (mcd, aN cI 640 g)]) hcf (k_X8_signAt (l := l) (D := D) (cI := cI) (cZ := cZ) (v := cN ve) (ln := (cN oth) + k) (k := i) (mo := mo) (ps := ps) (mpa := mpa) (nl := nl) (nv := nv) (msz := msz) (mcd := mcd) (mbe := mbe) (mba := mba) (ol := o3) (op := p3) (os := s3) (svn := svn) (ms1 := ms1) (ms2 := ms2) (ms3 := ms3) (ms4 := ms4) (mfa := mfa) (mim := mim) (mik := mik) (g := g) (hv := by omega) (hln := by omega) (hk := by have := hz (cN ve * 20 + (cN oth + k)); omega)) (cwV 3 hts gX8_forgotten_X8_signAt rfl rfl rfl yd_X8_signAt ⟨Nat.le_of_ble_eq_true rfl, Nat.le_of_ble_eq_true rfl⟩) (m_preV hK hP hD [0, 4] (by decide) rfl rfl rfl) rfl hl.1 rfl (Nat.le_of_ble_eq_true rfl) dX8_forgotten_163 ⟨Nat.zero_le _, Nat.zero_le _⟩ ?_
                                            refine m_rdS (As := [.int (nI (g (((cN ve) * 20 + ((cN oth) + k)) * 8 + i)))]) (rest := []) (wc := []) hcf (k_X8_isName (l := l) (D := D) (cI := cI) (cZ := cZ) (a := g (((cN ve) * 20 + ((cN oth) + k)) * 8 + i)) (ha := Nat.lt_of_le_of_lt (hg _) (by decide))) (va_cwS 1 hts gX8_forgotten_X8_isName rfl rfl rfl yd_X8_isName.2 ⟨Nat.le_of_ble_eq_true rfl, Nat.le_of_ble_eq_true rfl⟩) (m_preS hK hP hD [] (by decide) rfl) rfl hl.1 rfl (Nat.le_of_ble_eq_true rfl) dX8_forgotten_166 ⟨Nat.zero_le _, Nat.zero_le _⟩ ?_
                                            refine m_ifB_eq (tgt := 238) hx hb dX8_forgotten_169 (by decide) (fun c_169 => ?_) (fun c_169 => ?_)
                                            · refine lv_iinc (v := nI (i + 1)) (lv' := [(9, .int (nI (i + 1))), (0, .ref mo), (1, .int (nI (cN ve))), (2, .int (nI (cN one))), (3, .int (nI (cN oth))), (4, .int (nI (cN n))), (5, .int wh), (7, .int (foR (k * 10 + i) nm3 wh)), (8, .int (nI k)), (10, .int (nI cc))]) hx hb dX8_forgotten_238 hl (k := 8) rfl ((nI_succ _).symm) (by decide) rfl (fun ls hl => ?_)
                                              refine lv_goto (tgt := 120) hx hb dX8_forgotten_241 (by decide) ?_
                                              have E8 : nm3 = fmF z g (cN ve) nl (cN one) (cN oth) (cN n) k i := by
                                                unfold fmF
                                                first
                                                | (have e7 : cc - 97 = 26 := by omega
                                                   rw [hC, e7]; done)
                                                | (have e6 := fmQ_stay (by rw [← hC]; exact n52) (26 - (cc - 97))
                                                   rw [show cc - 97 + (26 - (cc - 97)) = 26 by omega] at e6
                                                   rw [hC, e6]; done)
                                                | (rw [hC, fmQ_n c_169, fmQ_n c_169]; done)
                                              have E9 := fgI_s hJ2 c_131
                                              rw [← E8] at E9
                                              exact ih_120 (i + 1) (k * 10 + i) nm3 _ _ _ _ _ (by omega) (by omega) (by omega) hn3 hp3 hs3 hb3 hc3 E9 _ _ hP hD hS ls (lv_sub hl [1, 2, 3, 4, 5, 6, 7, 8, 0] rfl)
                                            · refine lv_aload_n hx hb dX8_forgotten_172 rfl (lv_at hl 0 rfl) ?_
                                              refine lv_iload hx hb dX8_forgotten_173 (lv_at hl 7 rfl) ?_
                                              refine va_put (D := D) (ci := 8) (v := .int (nI k)) (ty := .int) (C := RX8) (T := TX8) (N := 19) hx hb hts i_X8 tyX8 tyX8_ok nmX8 hown hK.1 hP hD hS 0 rfl rfl 8 (by decide) f_25 (fun _ h9 => h9) rfl (by decide +kernel) rfl rfl (Nat.le_of_ble_eq_true rfl) dX8_forgotten_175 (fun H locs hP hD hS => ?_)
                                              have hP : va_P D vwCl [(mo, .inr (8, [.int (nI ps), .ref mpa, .int (nI nl), .int (nI nv), .ref msz, .ref mcd, .ref mbe, .ref mba, .int (nI k), .int (nI p3), .int (nI s3), .int (nI svn), .ref ms1, .ref ms2, .ref ms3, .ref ms4, .ref mfa, .ref mim, .ref mik])), (mbe, aN cI 26 b5), (mba, aN cI 26 b6), (msz, aN cI 80 z), (mcd, aN cI 640 g)] H := hP
                                              have hD : va_D A [(mo, .inr (8, [.int (nI ps), .ref mpa, .int (nI nl), .int (nI nv), .ref msz, .ref mcd, .ref mbe, .ref mba, .int (nI k), .int (nI p3), .int (nI s3), .int (nI svn), .ref ms1, .ref ms2, .ref ms3, .ref ms4, .ref mfa, .ref mim, .ref mik])), (mbe, aN cI 26 b5), (mba, aN cI 26 b6), (msz, aN cI 80 z), (mcd, aN cI 640 g)] := hD
                                              refine lv_aload_n hx hb dX8_forgotten_178 rfl (lv_at hl 0 rfl) ?_
                                              refine lv_iload hx hb dX8_forgotten_179 (lv_at hl 8 rfl) ?_
                                              refine va_put (D := D) (ci := 8) (v := .int (nI i)) (ty := .int) (C := RX8) (T := TX8) (N := 19) hx hb hts i_X8 tyX8 tyX8_ok nmX8 hown hK.1 hP hD hS 0 rfl rfl 9 (by decide) f_96 (fun _ h9 => h9) rfl (by decide +kernel) rfl rfl (Nat.le_of_ble_eq_true rfl) dX8_forgotten_181 (fun H locs hP hD hS => ?_)
                                              have hP : va_P D vwCl [(mo, .inr (8, [.int (nI ps), .ref mpa, .int (nI nl), .int (nI nv), .ref msz, .ref mcd, .ref mbe, .ref mba, .int (nI k), .int (nI i), .int (nI s3), .int (nI svn), .ref ms1, .ref ms2, .ref ms3, .ref ms4, .ref mfa, .ref mim, .ref mik])), (mbe, aN cI 26 b5), (mba, aN cI 26 b6), (msz, aN cI 80 z), (mcd, aN cI 640 g)] H := hP
                                              have hD : va_D A [(mo, .inr (8, [.int (nI ps), .ref mpa, .int (nI nl), .int (nI nv), .ref msz, .ref mcd, .ref mbe, .ref mba, .int (nI k), .int (nI i), .int (nI s3), .int (nI svn), .ref ms1, .ref ms2, .ref ms3, .ref ms4, .ref mfa, .ref mim, .ref mik])), (mbe, aN cI 26 b5), (mba, aN cI 26 b6), (msz, aN cI 80 z), (mcd, aN cI 640 g)] := hD
                                              refine lv_aload_n hx hb dX8_forgotten_184 rfl (lv_at hl 0 rfl) ?_
                                              refine lv_iload hx hb dX8_forgotten_185 (lv_at hl 9 rfl) ?_
                                              refine va_put (D := D) (ci := 8) (v := .int (nI cc)) (ty := .int) (C := RX8) (T := TX8) (N := 19) hx hb hts i_X8 tyX8 tyX8_ok nmX8 hown hK.1 hP hD hS 0 rfl rfl 10 (by decide) f_99 (fun _ h9 => h9) rfl (by decide +kernel) rfl rfl (Nat.le_of_ble_eq_true rfl) dX8_forgotten_187 (fun H locs hP hD hS => ?_)
                                              have hP : va_P D vwCl [(mo, .inr (8, [.int (nI ps), .ref mpa, .int (nI nl), .int (nI nv), .ref msz, .ref mcd, .ref mbe, .ref mba, .int (nI k), .int (nI i), .int (nI cc), .int (nI svn), .ref ms1, .ref ms2, .ref ms3, .ref ms4, .ref mfa, .ref mim, .ref mik])), (mbe, aN cI 26 b5), (mba, aN cI 26 b6), (msz, aN cI 80 z), (mcd, aN cI 640 g)] H := hP
                                              have hD : va_D A [(mo, .inr (8, [.int (nI ps), .ref mpa, .int (nI nl), .int (nI nv), .ref msz, .ref mcd, .ref mbe, .ref mba, .int (nI k), .int (nI i), .int (nI cc), .int (nI svn), .ref ms1, .ref ms2, .ref ms3, .ref ms4, .ref mfa, .ref mim, .ref mik])), (mbe, aN cI 26 b5), (mba, aN cI 26 b6), (msz, aN cI 80 z), (mcd, aN cI 640 g)] := hD
                                              refine lv_aload_n hx hb dX8_forgotten_190 rfl (lv_at hl 0 rfl) ?_
                                              refine lv_iload_n hx hb dX8_forgotten_191 rfl (lv_at hl 1 rfl) ?_
                                              refine lv_iconst (v := nI 1) hx hb dX8_forgotten_192 (by decide) ?_
                                              refine lv_iload_n hx hb dX8_forgotten_193 rfl (lv_at hl 2 rfl) ?_
                                              refine lv_iload_n hx hb dX8_forgotten_194 rfl (lv_at hl 3 rfl) ?_
                                              refine lv_iload hx hb dX8_forgotten_195 (lv_at hl 4 rfl) ?_
                                              refine m_wrV (As := [.int (nI (cN ve)), .int (nI 1), .int (nI (cN one)), .int (nI (cN oth)), .int (nI (cN n))]) (rest := []) (wc := [(mo, .inr (8, [.int (nI ps), .ref mpa, .int (nI nl), .int (nI nv), .ref msz, .ref mcd, .ref mbe, .ref mba, .int (nI k), .int (nI i), .int (nI cc), .int (nI svn), .ref ms1, .ref ms2, .ref ms3, .ref ms4, .ref mfa, .ref mim, .ref mik])), (mbe, aN cI 26 b5), (mba, aN cI 26 b6), (msz, aN cI 80 z), (mcd, aN cI 640 g)]) hcf (k_X8_rowsAlike (l := l) (D := D) (cI := cI) (cZ := cZ) (v := cN ve) (way := 1) (one := cN one) (oth := cN oth) (n := cN n) (mo := mo) (ps := ps) (mpa := mpa) (nl := nl) (nv := nv) (msz := msz) (mcd := mcd) (mbe := mbe) (mba := mba) (ol := nI k) (op := i) (os := cc) (svn := svn) (ms1 := ms1) (ms2 := ms2) (ms3 := ms3) (ms4 := ms4) (mfa := mfa) (mim := mim) (mik := mik) (be := b5) (ba := b6) (z := z) (g := g) (hnl := hnl) (hnv := hnv) (hz := hz) (hg := hg) (hbe := hb3) (hba := hc3) (hw := by omega) (hv := by omega) (h1 := by omega) (h2 := by omega) (hn := by omega) (hop := by omega) (hos := by omega)) (cwV 5 hts gX8_forgotten_X8_rowsAlike rfl rfl rfl yd_X8_rowsAlike ⟨Nat.le_of_ble_eq_true rfl, Nat.le_of_ble_eq_true rfl⟩) hK hP hD hS [0, 1, 2, 3, 4] (by decide) rfl rfl rfl rfl hl.1 rfl (Nat.le_of_ble_eq_true rfl) dX8_forgotten_197 ⟨Nat.zero_le _, Nat.zero_le _⟩ (fun _ => rfl) (fun (u : (Nat → Nat) × (Nat → Nat)) => [(mo, .inr (8, [.int (nI ps), .ref mpa, .int (nI nl), .int (nI nv), .ref msz, .ref mcd, .ref mbe, .ref mba, .int (nI k), .int (nI i), .int (nI cc), .int (nI svn), .ref ms1, .ref ms2, .ref ms3, .ref ms4, .ref mfa, .ref mim, .ref mik])), (mbe, aN cI 26 u.1), (mba, aN cI 26 u.2), (msz, aN cI 80 z), (mcd, aN cI 640 g)]) (fun _ => rfl) (fun r u H locs hp_197 hP hD hS => ?_)
                                              obtain ⟨beu_197, bau_197⟩ := u
                                              have hP : va_P D vwCl [(mo, .inr (8, [.int (nI ps), .ref mpa, .int (nI nl), .int (nI nv), .ref msz, .ref mcd, .ref mbe, .ref mba, .int (nI k), .int (nI i), .int (nI cc), .int (nI svn), .ref ms1, .ref ms2, .ref ms3, .ref ms4, .ref mfa, .ref mim, .ref mik])), (mbe, aN cI 26 beu_197), (mba, aN cI 26 bau_197), (msz, aN cI 80 z), (mcd, aN cI 640 g)] H := hP
                                              have hD : va_D A [(mo, .inr (8, [.int (nI ps), .ref mpa, .int (nI nl), .int (nI nv), .ref msz, .ref mcd, .ref mbe, .ref mba, .int (nI k), .int (nI i), .int (nI cc), .int (nI svn), .ref ms1, .ref ms2, .ref ms3, .ref ms4, .ref mfa, .ref mim, .ref mik])), (mbe, aN cI 26 beu_197), (mba, aN cI 26 bau_197), (msz, aN cI 80 z), (mcd, aN cI 640 g)] := hD
                                              try dsimp only at hp_197
                                              obtain ⟨hr_hp_197, hp_197⟩ := hp_197
                                              rw [hr_hp_197]
                                              refine lv_istore (lv' := [(11, .int (bI (rmB 1 z g (cN ve) nl (cN one) (cN oth) (cN n) (nI k) i cc))), (0, .ref mo), (1, .int (nI (cN ve))), (2, .int (nI (cN one))), (3, .int (nI (cN oth))), (4, .int (nI (cN n))), (5, .int wh), (7, .int (foR (k * 10 + i) nm3 wh)), (8, .int (nI k)), (9, .int (nI i)), (10, .int (nI cc))]) hx hb dX8_forgotten_200 hl (by decide) rfl (fun ls hl => ?_)
                                              refine lv_iload hx hb dX8_forgotten_202 (lv_at hl 0 rfl) ?_
                                              refine m_ifB_eq (tgt := 228) hx hb dX8_forgotten_204 (by decide) (fun c_204 => ?_) (fun c_204 => ?_)
                                              · refine lv_bipush (v := (-6)) hx hb dX8_forgotten_228 (by decide) ?_
                                                refine m_top (y := foR (k * 10 + i) 0 wh) rfl ?_
                                                refine lv_istore (lv' := [(7, .int (foR (k * 10 + i) 0 wh)), (11, .int (bI (rmB 1 z g (cN ve) nl (cN one) (cN oth) (cN n) (nI k) i cc))), (0, .ref mo), (1, .int (nI (cN ve))), (2, .int (nI (cN one))), (3, .int (nI (cN oth))), (4, .int (nI (cN n))), (5, .int wh), (8, .int (nI k)), (9, .int (nI i)), (10, .int (nI cc))]) hx hb dX8_forgotten_230 hl (by decide) rfl (fun ls hl => ?_)
                                                refine lv_iinc (v := nI (cc + 1)) (lv' := [(10, .int (nI (cc + 1))), (7, .int (foR (k * 10 + i) 0 wh)), (11, .int (bI (rmB 1 z g (cN ve) nl (cN one) (cN oth) (cN n) (nI k) i cc))), (0, .ref mo), (1, .int (nI (cN ve))), (2, .int (nI (cN one))), (3, .int (nI (cN oth))), (4, .int (nI (cN n))), (5, .int wh), (8, .int (nI k)), (9, .int (nI i))]) hx hb dX8_forgotten_232 hl (k := 10) rfl ((nI_succ _).symm) (by decide) rfl (fun ls hl => ?_)
                                                refine lv_goto (tgt := 143) hx hb dX8_forgotten_235 (by decide) ?_
                                                have E7 : cc + 1 - 97 = cc - 97 + 1 := by omega
                                                have E6 : 97 + (cc - 97) = cc := by omega
                                                have E5 : fmQ (fun c => rmB 1 z g (cN ve) nl (cN one) (cN oth) (cN n) (nI k) i c) (g ((cN ve * 20 + (cN oth + k)) * 8 + i)) (cc - 97) = 0 := by rw [← hC, z52]
                                                exact ih_143 (cc + 1) 0 _ _ _ _ _ (by omega) (by omega) (by omega) (by omega) (by omega) (by omega) hp_197.2.1 hp_197.2.2 (by rw [E7, fmQ_f E5 (by rw [E6]; exact c_204)]) _ _ hP hD hS ls (lv_sub hl [3, 4, 5, 6, 7, 8, 1, 9, 10, 0] rfl)
                                              · refine lv_iload hx hb dX8_forgotten_207 (lv_at hl 6 rfl) ?_
                                                refine lv_if_ne (tgt := 223) hx hb dX8_forgotten_209 (by decide) (fun c_209 => ?_) (fun c_209 => ?_)
                                                · refine lv_iload hx hb dX8_forgotten_223 (lv_at hl 10 rfl) ?_
                                                  refine m_top (y := foR (k * 10 + i) cc wh) (by unfold foR; rw [if_neg (by omega), if_neg c_209]) ?_
                                                  refine lv_goto (tgt := 230) hx hb dX8_forgotten_225 (by decide) ?_
                                                  refine lv_istore (lv' := [(7, .int (foR (k * 10 + i) cc wh)), (11, .int (bI (rmB 1 z g (cN ve) nl (cN one) (cN oth) (cN n) (nI k) i cc))), (0, .ref mo), (1, .int (nI (cN ve))), (2, .int (nI (cN one))), (3, .int (nI (cN oth))), (4, .int (nI (cN n))), (5, .int wh), (8, .int (nI k)), (9, .int (nI i)), (10, .int (nI cc))]) hx hb dX8_forgotten_230 hl (by decide) rfl (fun ls hl => ?_)
                                                  refine lv_iinc (v := nI (cc + 1)) (lv' := [(10, .int (nI (cc + 1))), (7, .int (foR (k * 10 + i) cc wh)), (11, .int (bI (rmB 1 z g (cN ve) nl (cN one) (cN oth) (cN n) (nI k) i cc))), (0, .ref mo), (1, .int (nI (cN ve))), (2, .int (nI (cN one))), (3, .int (nI (cN oth))), (4, .int (nI (cN n))), (5, .int wh), (8, .int (nI k)), (9, .int (nI i))]) hx hb dX8_forgotten_232 hl (k := 10) rfl ((nI_succ _).symm) (by decide) rfl (fun ls hl => ?_)
                                                  refine lv_goto (tgt := 143) hx hb dX8_forgotten_235 (by decide) ?_
                                                  have E7 : cc + 1 - 97 = cc - 97 + 1 := by omega
                                                  have E6 : 97 + (cc - 97) = cc := by omega
                                                  have E5 : fmQ (fun c => rmB 1 z g (cN ve) nl (cN one) (cN oth) (cN n) (nI k) i c) (g ((cN ve * 20 + (cN oth + k)) * 8 + i)) (cc - 97) = 0 := by rw [← hC, z52]
                                                  exact ih_143 (cc + 1) cc _ _ _ _ _ (by omega) (by omega) (by omega) (by omega) (by omega) (by omega) hp_197.2.1 hp_197.2.2 (by rw [E7, fmQ_t c_169 E5 (by rw [E6]; exact c_204), E6]) _ _ hP hD hS ls (lv_sub hl [3, 4, 5, 6, 7, 8, 1, 9, 10, 0] rfl)
                                                · refine lv_bipush (v := nI 10) hx hb dX8_forgotten_212 (by decide) ?_
                                                  refine lv_iload hx hb dX8_forgotten_214 (lv_at hl 8 rfl) ?_
                                                  refine m_mul hx hb dX8_forgotten_216 ?_
                                                  refine lv_iload hx hb dX8_forgotten_217 (lv_at hl 9 rfl) ?_
                                                  refine m_add hx hb dX8_forgotten_219 ?_
                                                  refine m_top (y := foR (k * 10 + i) cc wh) (by unfold foR; rw [if_neg (by omega), if_pos c_209, Nat.mul_comm]) ?_
                                                  refine lv_goto (tgt := 230) hx hb dX8_forgotten_220 (by decide) ?_
                                                  refine lv_istore (lv' := [(7, .int (foR (k * 10 + i) cc wh)), (11, .int (bI (rmB 1 z g (cN ve) nl (cN one) (cN oth) (cN n) (nI k) i cc))), (0, .ref mo), (1, .int (nI (cN ve))), (2, .int (nI (cN one))), (3, .int (nI (cN oth))), (4, .int (nI (cN n))), (5, .int wh), (8, .int (nI k)), (9, .int (nI i)), (10, .int (nI cc))]) hx hb dX8_forgotten_230 hl (by decide) rfl (fun ls hl => ?_)
                                                  refine lv_iinc (v := nI (cc + 1)) (lv' := [(10, .int (nI (cc + 1))), (7, .int (foR (k * 10 + i) cc wh)), (11, .int (bI (rmB 1 z g (cN ve) nl (cN one) (cN oth) (cN n) (nI k) i cc))), (0, .ref mo), (1, .int (nI (cN ve))), (2, .int (nI (cN one))), (3, .int (nI (cN oth))), (4, .int (nI (cN n))), (5, .int wh), (8, .int (nI k)), (9, .int (nI i))]) hx hb dX8_forgotten_232 hl (k := 10) rfl ((nI_succ _).symm) (by decide) rfl (fun ls hl => ?_)
                                                  refine lv_goto (tgt := 143) hx hb dX8_forgotten_235 (by decide) ?_
                                                  have E7 : cc + 1 - 97 = cc - 97 + 1 := by omega
                                                  have E6 : 97 + (cc - 97) = cc := by omega
                                                  have E5 : fmQ (fun c => rmB 1 z g (cN ve) nl (cN one) (cN oth) (cN n) (nI k) i c) (g ((cN ve * 20 + (cN oth + k)) * 8 + i)) (cc - 97) = 0 := by rw [← hC, z52]
                                                  exact ih_143 (cc + 1) cc _ _ _ _ _ (by omega) (by omega) (by omega) (by omega) (by omega) (by omega) hp_197.2.1 hp_197.2.2 (by rw [E7, fmQ_t c_169 E5 (by rw [E6]; exact c_204), E6]) _ _ hP hD hS ls (lv_sub hl [3, 4, 5, 6, 7, 8, 1, 9, 10, 0] rfl)
                                    exact loop_143 124 97 0 _ _ _ _ _ (by omega) (by omega) (by omega) (by omega) hp2 hs2 hb2 hc2 (fmQ_0 _ _).symm _ _ hP hD hS ls (lv_sub hl [1, 2, 3, 4, 5, 6, 7, 8, 9, 0] rfl)
                            exact loop_120 (z (cN ve * 20 + (cN oth + k)) + 1) 0 pl nm _ _ _ _ _ (by omega) (by omega) hpl1 hn1 hp1 hs1 hb1 hc1 hI _ _ hP hD hS ls (lv_sub hl [1, 2, 3, 4, 5, 6, 7, 8, 0] rfl)
                    exact loop_105 (cN n + 1) 0 0 0 _ _ _ _ _ (by omega) (by omega) (by omega) (by omega) hop hos hp_89.2.1 hp_89.2.2 (fgI_0 _ _ _) _ _ hP hD hS ls (lv_sub hl [3, 4, 5, 6, 7, 8, 1, 0] rfl)
                  · refine lv_bipush (v := (-6)) hx hb dX8_forgotten_95 (by decide) ?_
                    rw [hQ]
                    exact m_iwr hx hb hr hlocks (beu_89, bau_89, op, os, 0, 0) (⟨by rw [rfQ_v c_5 KI]; rfl, hp_89.2.1, hp_89.2.2, hop, hos, fun _ _ => ⟨fun _ => rfl, fun h => by obtain ⟨q1, q2, q3, q4⟩ := h; exfalso; first | omega | (rw [c_92] at q4; cases q4)⟩⟩) hP hS dX8_forgotten_97
          · refine lv_iconst (v := nI 1) hx hb dX8_forgotten_50 (by decide) ?_
            refine lv_goto (tgt := 55) hx hb dX8_forgotten_51 (by decide) ?_
            refine lv_istore (lv' := [(6, .int (nI 1)), (0, .ref mo), (1, .int (nI (cN ve))), (2, .int (nI (cN one))), (3, .int (nI (cN oth))), (4, .int (nI (cN n))), (5, .int wh)]) hx hb dX8_forgotten_55 hl (by decide) rfl (fun ls hl => ?_)
            refine lv_iload hx hb dX8_forgotten_57 (lv_at hl 0 rfl) ?_
            refine m_if_eq (tgt := 95) hx hb dX8_forgotten_59 (by decide) (by omega) (fun c_59 => ?_) (fun c_59 => ?_)
            · refine lv_bipush (v := (-6)) hx hb dX8_forgotten_95 (by decide) ?_
              rw [hQ]
              exact m_iwr hx hb hr hlocks (be, ba, op, os, 0, 0) (⟨by rw [rfQ_v c_5 KI]; rfl, hbe, hba, hop, hos, fun _ _ => ⟨fun _ => rfl, fun h => by obtain ⟨q1, q2, q3, q4⟩ := h; exfalso; first | omega | (rw [c_92] at q4; cases q4)⟩⟩) hP hS dX8_forgotten_97
            · refine lv_aload_n hx hb dX8_forgotten_62 rfl (lv_at hl 1 rfl) ?_
              refine lv_iload_n hx hb dX8_forgotten_63 rfl (lv_at hl 3 rfl) ?_
              refine lv_iload hx hb dX8_forgotten_64 (lv_at hl 5 rfl) ?_
              refine m_rdV (As := [.int (nI (cN one)), .int (nI (cN n))]) (rest := []) (wc := [(mo, .inr (8, [.int (nI ps), .ref mpa, .int (nI nl), .int (nI nv), .ref msz, .ref mcd, .ref mbe, .ref mba, .int (-6), .int (nI op), .int (nI os), .int (nI svn), .ref ms1, .ref ms2, .ref ms3, .ref ms4, .ref mfa, .ref mim, .ref mik]))]) hcf (k_X8_isThere (l := l) (D := D) (cI := cI) (cZ := cZ) (sta := cN one) (n := cN n) (mo := mo) (ps := ps) (mpa := mpa) (nl := nl) (nv := nv) (msz := msz) (mcd := mcd) (mbe := mbe) (mba := mba) (ol := -6) (op := op) (os := os) (svn := svn) (ms1 := ms1) (ms2 := ms2) (ms3 := ms3) (ms4 := ms4) (mfa := mfa) (mim := mim) (mik := mik) (hnl := hnl) (h1 := by omega) (hn := by omega)) (cwV 2 hts gX8_forgotten_X8_isThere rfl rfl rfl yd_X8_isThere ⟨Nat.le_of_ble_eq_true rfl, Nat.le_of_ble_eq_true rfl⟩) (m_preV hK hP hD [0] (by decide) rfl rfl rfl) rfl hl.1 rfl (Nat.le_of_ble_eq_true rfl) dX8_forgotten_66 ⟨Nat.zero_le _, Nat.zero_le _⟩ ?_
              refine m_ifB_eq (tgt := 95) hx hb dX8_forgotten_69 (by decide) (fun c_69 => ?_) (fun c_69 => ?_)
              · have i69 := of_decide_eq_false c_69
                refine lv_bipush (v := (-6)) hx hb dX8_forgotten_95 (by decide) ?_
                rw [hQ]
                exact m_iwr hx hb hr hlocks (be, ba, op, os, 0, 0) (⟨by rw [rfQ_v c_5 KI]; rfl, hbe, hba, hop, hos, fun _ _ => ⟨fun _ => rfl, fun h => by obtain ⟨q1, q2, q3, q4⟩ := h; exfalso; first | omega | (rw [c_92] at q4; cases q4)⟩⟩) hP hS dX8_forgotten_97
              · have i69 := of_decide_eq_true c_69
                refine lv_aload_n hx hb dX8_forgotten_72 rfl (lv_at hl 1 rfl) ?_
                refine lv_iload_n hx hb dX8_forgotten_73 rfl (lv_at hl 4 rfl) ?_
                refine lv_iload hx hb dX8_forgotten_74 (lv_at hl 5 rfl) ?_
                refine m_rdV (As := [.int (nI (cN oth)), .int (nI (cN n))]) (rest := []) (wc := [(mo, .inr (8, [.int (nI ps), .ref mpa, .int (nI nl), .int (nI nv), .ref msz, .ref mcd, .ref mbe, .ref mba, .int (-6), .int (nI op), .int (nI os), .int (nI svn), .ref ms1, .ref ms2, .ref ms3, .ref ms4, .ref mfa, .ref mim, .ref mik]))]) hcf (k_X8_isThere (l := l) (D := D) (cI := cI) (cZ := cZ) (sta := cN oth) (n := cN n) (mo := mo) (ps := ps) (mpa := mpa) (nl := nl) (nv := nv) (msz := msz) (mcd := mcd) (mbe := mbe) (mba := mba) (ol := -6) (op := op) (os := os) (svn := svn) (ms1 := ms1) (ms2 := ms2) (ms3 := ms3) (ms4 := ms4) (mfa := mfa) (mim := mim) (mik := mik) (hnl := hnl) (h1 := by omega) (hn := by omega)) (cwV 2 hts gX8_forgotten_X8_isThere rfl rfl rfl yd_X8_isThere ⟨Nat.le_of_ble_eq_true rfl, Nat.le_of_ble_eq_true rfl⟩) (m_preV hK hP hD [0] (by decide) rfl rfl rfl) rfl hl.1 rfl (Nat.le_of_ble_eq_true rfl) dX8_forgotten_76 ⟨Nat.zero_le _, Nat.zero_le _⟩ ?_
                refine m_ifB_eq (tgt := 95) hx hb dX8_forgotten_79 (by decide) (fun c_79 => ?_) (fun c_79 => ?_)
                · have i79 := of_decide_eq_false c_79
                  refine lv_bipush (v := (-6)) hx hb dX8_forgotten_95 (by decide) ?_
                  rw [hQ]
                  exact m_iwr hx hb hr hlocks (be, ba, op, os, 0, 0) (⟨by rw [rfQ_v c_5 KI]; rfl, hbe, hba, hop, hos, fun _ _ => ⟨fun _ => rfl, fun h => by obtain ⟨q1, q2, q3, q4⟩ := h; exfalso; first | omega | (rw [c_92] at q4; cases q4)⟩⟩) hP hS dX8_forgotten_97
                · have i79 := of_decide_eq_true c_79
                  refine lv_aload_n hx hb dX8_forgotten_82 rfl (lv_at hl 1 rfl) ?_
                  refine lv_iload_n hx hb dX8_forgotten_83 rfl (lv_at hl 2 rfl) ?_
                  refine lv_iconst (v := nI 1) hx hb dX8_forgotten_84 (by decide) ?_
                  refine lv_iload_n hx hb dX8_forgotten_85 rfl (lv_at hl 3 rfl) ?_
                  refine lv_iload_n hx hb dX8_forgotten_86 rfl (lv_at hl 4 rfl) ?_
                  refine lv_iload hx hb dX8_forgotten_87 (lv_at hl 5 rfl) ?_
                  refine m_wrV (As := [.int (nI (cN ve)), .int (nI 1), .int (nI (cN one)), .int (nI (cN oth)), .int (nI (cN n))]) (rest := []) (wc := [(mo, .inr (8, [.int (nI ps), .ref mpa, .int (nI nl), .int (nI nv), .ref msz, .ref mcd, .ref mbe, .ref mba, .int (-6), .int (nI op), .int (nI os), .int (nI svn), .ref ms1, .ref ms2, .ref ms3, .ref ms4, .ref mfa, .ref mim, .ref mik])), (mbe, aN cI 26 be), (mba, aN cI 26 ba), (msz, aN cI 80 z), (mcd, aN cI 640 g)]) hcf (k_X8_rowsAlike (l := l) (D := D) (cI := cI) (cZ := cZ) (v := cN ve) (way := 1) (one := cN one) (oth := cN oth) (n := cN n) (mo := mo) (ps := ps) (mpa := mpa) (nl := nl) (nv := nv) (msz := msz) (mcd := mcd) (mbe := mbe) (mba := mba) (ol := -6) (op := op) (os := os) (svn := svn) (ms1 := ms1) (ms2 := ms2) (ms3 := ms3) (ms4 := ms4) (mfa := mfa) (mim := mim) (mik := mik) (be := be) (ba := ba) (z := z) (g := g) (hnl := hnl) (hnv := hnv) (hz := hz) (hg := hg) (hbe := hbe) (hba := hba) (hw := by omega) (hv := by omega) (h1 := by omega) (h2 := by omega) (hn := by omega) (hop := hop) (hos := hos)) (cwV 5 hts gX8_forgotten_X8_rowsAlike rfl rfl rfl yd_X8_rowsAlike ⟨Nat.le_of_ble_eq_true rfl, Nat.le_of_ble_eq_true rfl⟩) hK hP hD hS [0, 1, 2, 3, 4] (by decide) rfl rfl rfl rfl hl.1 rfl (Nat.le_of_ble_eq_true rfl) dX8_forgotten_89 ⟨Nat.zero_le _, Nat.zero_le _⟩ (fun _ => rfl) (fun (u : (Nat → Nat) × (Nat → Nat)) => [(mo, .inr (8, [.int (nI ps), .ref mpa, .int (nI nl), .int (nI nv), .ref msz, .ref mcd, .ref mbe, .ref mba, .int (-6), .int (nI op), .int (nI os), .int (nI svn), .ref ms1, .ref ms2, .ref ms3, .ref ms4, .ref mfa, .ref mim, .ref mik])), (mbe, aN cI 26 u.1), (mba, aN cI 26 u.2), (msz, aN cI 80 z), (mcd, aN cI 640 g)]) (fun _ => rfl) (fun r u H locs hp_89 hP hD hS => ?_)
                  obtain ⟨beu_89, bau_89⟩ := u
                  have hP : va_P D vwCl [(mo, .inr (8, [.int (nI ps), .ref mpa, .int (nI nl), .int (nI nv), .ref msz, .ref mcd, .ref mbe, .ref mba, .int (-6), .int (nI op), .int (nI os), .int (nI svn), .ref ms1, .ref ms2, .ref ms3, .ref ms4, .ref mfa, .ref mim, .ref mik])), (mbe, aN cI 26 beu_89), (mba, aN cI 26 bau_89), (msz, aN cI 80 z), (mcd, aN cI 640 g)] H := hP
                  have hD : va_D A [(mo, .inr (8, [.int (nI ps), .ref mpa, .int (nI nl), .int (nI nv), .ref msz, .ref mcd, .ref mbe, .ref mba, .int (-6), .int (nI op), .int (nI os), .int (nI svn), .ref ms1, .ref ms2, .ref ms3, .ref ms4, .ref mfa, .ref mim, .ref mik])), (mbe, aN cI 26 beu_89), (mba, aN cI 26 bau_89), (msz, aN cI 80 z), (mcd, aN cI 640 g)] := hD
                  try dsimp only at hp_89
                  obtain ⟨hr_hp_89, hp_89⟩ := hp_89
                  rw [hr_hp_89]
                  refine m_ifB_eq (tgt := 98) hx hb dX8_forgotten_92 (by decide) (fun c_92 => ?_) (fun c_92 => ?_)
                  · refine lv_bipush (v := (-6)) hx hb dX8_forgotten_98 (by decide) ?_
                    refine lv_istore (lv' := [(7, .int (-6)), (6, .int (nI 1)), (0, .ref mo), (1, .int (nI (cN ve))), (2, .int (nI (cN one))), (3, .int (nI (cN oth))), (4, .int (nI (cN n))), (5, .int wh)]) hx hb dX8_forgotten_100 hl (by decide) rfl (fun ls hl => ?_)
                    refine lv_iconst (v := nI 0) hx hb dX8_forgotten_102 (by decide) ?_
                    refine lv_istore (lv' := [(8, .int (nI 0)), (7, .int (-6)), (6, .int (nI 1)), (0, .ref mo), (1, .int (nI (cN ve))), (2, .int (nI (cN one))), (3, .int (nI (cN oth))), (4, .int (nI (cN n))), (5, .int wh)]) hx hb dX8_forgotten_103 hl (by decide) rfl (fun ls hl => ?_)
                    have loop_105 : ∀ (fu : Nat) (k pl nm p1 s1 : Nat) (o1 : Int32) (b1 b2 : Nat → Nat) (hfu : cN n - k < fu)  (hk : k ≤ cN n) (hpl1 : pl ≤ 300) (hn1 : nm ≤ 126) (hp1 : p1 ≤ 100) (hs1 : s1 ≤ 126) (hb1 : ∀ j, b1 j ≤ 126) (hc1 : ∀ j, b2 j ≤ 126) (hI : fgI (fmF z g (cN ve) nl (cN one) (cN oth) (cN n)) (fun a => z (cN ve * 20 + (cN oth + a))) k 0 pl nm) (H : Heap) (locs : List Loc) (hP : va_P D vwCl [(mo, .inr (8, [.int (nI ps), .ref mpa, .int (nI nl), .int (nI nv), .ref msz, .ref mcd, .ref mbe, .ref mba, .int o1, .int (nI p1), .int (nI s1), .int (nI svn), .ref ms1, .ref ms2, .ref ms3, .ref ms4, .ref mfa, .ref mim, .ref mik])), (mbe, aN cI 26 b1), (mba, aN cI 26 b2), (msz, aN cI 80 z), (mcd, aN cI 640 g)] H) (hD : va_D A [(mo, .inr (8, [.int (nI ps), .ref mpa, .int (nI nl), .int (nI nv), .ref msz, .ref mcd, .ref mbe, .ref mba, .int o1, .int (nI p1), .int (nI s1), .int (nI svn), .ref ms1, .ref ms2, .ref ms3, .ref ms4, .ref mfa, .ref mim, .ref mik])), (mbe, aN cI 26 b1), (mba, aN cI 26 b2), (msz, aN cI 80 z), (mcd, aN cI 640 g)]) (hS : va_S A s.heap H locs) (ls : Array Slot) (hl : lv_has ls 12 [(0, .ref mo), (1, .int (nI (cN ve))), (2, .int (nI (cN one))), (3, .int (nI (cN oth))), (4, .int (nI (cN n))), (5, .int wh), (7, .int (foR pl nm wh)), (8, .int (nI k))]), W p l e (headSpec wsX8_forgotten { frames := 4, cells := 0, slots := 0, locals := 93 }).room s m args below meth c H locs 0 0 Q (F0 m 105 ls []) := by
                      intro fu
                      induction fu with
                      | zero => intro k pl nm p1 s1 o1 b1 b2 hfu; exact absurd hfu (Nat.not_lt_zero _)
                      | succ fu ih_105 =>
                        intro k pl nm p1 s1 o1 b1 b2 hfu hk hpl1 hn1 hp1 hs1 hb1 hc1 hI H locs hP hD hS ls hl
                        refine lv_iload hx hb dX8_forgotten_105 (lv_at hl 7 rfl) ?_
                        refine lv_iload hx hb dX8_forgotten_107 (lv_at hl 4 rfl) ?_
                        refine m_cmp_ge (tgt := 250) hx hb dX8_forgotten_109 (by decide) (by omega) (by omega) (fun c_109 => ?_) (fun c_109 => ?_)
                        · refine lv_aload_n hx hb dX8_forgotten_250 rfl (lv_at hl 0 rfl) ?_
                          refine lv_bipush (v := (-6)) hx hb dX8_forgotten_251 (by decide) ?_
                          refine va_put (D := D) (ci := 8) (v := .int (-6)) (ty := .int) (C := RX8) (T := TX8) (N := 19) hx hb hts i_X8 tyX8 tyX8_ok nmX8 hown hK.1 hP hD hS 0 rfl rfl 8 (by decide) f_25 (fun _ h9 => h9) rfl (by decide +kernel) rfl rfl (Nat.le_of_ble_eq_true rfl) dX8_forgotten_253 (fun H locs hP hD hS => ?_)
                          have hP : va_P D vwCl [(mo, .inr (8, [.int (nI ps), .ref mpa, .int (nI nl), .int (nI nv), .ref msz, .ref mcd, .ref mbe, .ref mba, .int (-6), .int (nI p1), .int (nI s1), .int (nI svn), .ref ms1, .ref ms2, .ref ms3, .ref ms4, .ref mfa, .ref mim, .ref mik])), (mbe, aN cI 26 b1), (mba, aN cI 26 b2), (msz, aN cI 80 z), (mcd, aN cI 640 g)] H := hP
                          have hD : va_D A [(mo, .inr (8, [.int (nI ps), .ref mpa, .int (nI nl), .int (nI nv), .ref msz, .ref mcd, .ref mbe, .ref mba, .int (-6), .int (nI p1), .int (nI s1), .int (nI svn), .ref ms1, .ref ms2, .ref ms3, .ref ms4, .ref mfa, .ref mim, .ref mik])), (mbe, aN cI 26 b1), (mba, aN cI 26 b2), (msz, aN cI 80 z), (mcd, aN cI 640 g)] := hD
                          refine lv_iload hx hb dX8_forgotten_256 (lv_at hl 6 rfl) ?_
                          rw [hQ]
                          exact m_iwr hx hb hr hlocks (b1, b2, p1, s1, pl, nm) (⟨by rw [rfQ_v c_5 KI], hb1, hc1, hp1, hs1, fun _ _ => ⟨fun h => absurd ⟨by omega, i69, i79, c_92⟩ h, fun _ => fgI_end hI hk (by first | exact Or.inl (by omega) | exact Or.inr n14)⟩⟩) hP hS dX8_forgotten_258
                        · refine lv_iload hx hb dX8_forgotten_112 (lv_at hl 6 rfl) ?_
                          refine lv_if_ge (tgt := 250) hx hb dX8_forgotten_114 (by decide) (fun c_114 => ?_) (fun c_114 => ?_)
                          · have n14 := foR_nn c_114
                            refine lv_aload_n hx hb dX8_forgotten_250 rfl (lv_at hl 0 rfl) ?_
                            refine lv_bipush (v := (-6)) hx hb dX8_forgotten_251 (by decide) ?_
                            refine va_put (D := D) (ci := 8) (v := .int (-6)) (ty := .int) (C := RX8) (T := TX8) (N := 19) hx hb hts i_X8 tyX8 tyX8_ok nmX8 hown hK.1 hP hD hS 0 rfl rfl 8 (by decide) f_25 (fun _ h9 => h9) rfl (by decide +kernel) rfl rfl (Nat.le_of_ble_eq_true rfl) dX8_forgotten_253 (fun H locs hP hD hS => ?_)
                            have hP : va_P D vwCl [(mo, .inr (8, [.int (nI ps), .ref mpa, .int (nI nl), .int (nI nv), .ref msz, .ref mcd, .ref mbe, .ref mba, .int (-6), .int (nI p1), .int (nI s1), .int (nI svn), .ref ms1, .ref ms2, .ref ms3, .ref ms4, .ref mfa, .ref mim, .ref mik])), (mbe, aN cI 26 b1), (mba, aN cI 26 b2), (msz, aN cI 80 z), (mcd, aN cI 640 g)] H := hP
                            have hD : va_D A [(mo, .inr (8, [.int (nI ps), .ref mpa, .int (nI nl), .int (nI nv), .ref msz, .ref mcd, .ref mbe, .ref mba, .int (-6), .int (nI p1), .int (nI s1), .int (nI svn), .ref ms1, .ref ms2, .ref ms3, .ref ms4, .ref mfa, .ref mim, .ref mik])), (mbe, aN cI 26 b1), (mba, aN cI 26 b2), (msz, aN cI 80 z), (mcd, aN cI 640 g)] := hD
                            refine lv_iload hx hb dX8_forgotten_256 (lv_at hl 6 rfl) ?_
                            rw [hQ]
                            exact m_iwr hx hb hr hlocks (b1, b2, p1, s1, pl, nm) (⟨by rw [rfQ_v c_5 KI], hb1, hc1, hp1, hs1, fun _ _ => ⟨fun h => absurd ⟨by omega, i69, i79, c_92⟩ h, fun _ => fgI_end hI hk (by first | exact Or.inl (by omega) | exact Or.inr n14)⟩⟩) hP hS dX8_forgotten_258
                          · have z14 := foR_ng hpl1 hn1 c_114
                            refine lv_iconst (v := nI 0) hx hb dX8_forgotten_117 (by decide) ?_
                            refine lv_istore (lv' := [(9, .int (nI 0)), (0, .ref mo), (1, .int (nI (cN ve))), (2, .int (nI (cN one))), (3, .int (nI (cN oth))), (4, .int (nI (cN n))), (5, .int wh), (7, .int (foR pl nm wh)), (8, .int (nI k))]) hx hb dX8_forgotten_118 hl (by decide) rfl (fun ls hl => ?_)
                            have loop_120 : ∀ (fu : Nat) (i pl2 nm2 p2 s2 : Nat) (o2 : Int32) (b3 b4 : Nat → Nat) (hfu : z (cN ve * 20 + (cN oth + k)) - i < fu)  (hi : i ≤ z (cN ve * 20 + (cN oth + k))) (hpl2 : pl2 ≤ 300) (hn2 : nm2 ≤ 126) (hp2 : p2 ≤ 100) (hs2 : s2 ≤ 126) (hb2 : ∀ j, b3 j ≤ 126) (hc2 : ∀ j, b4 j ≤ 126) (hJ : fgI (fmF z g (cN ve) nl (cN one) (cN oth) (cN n)) (fun a => z (cN ve * 20 + (cN oth + a))) k i pl2 nm2) (H : Heap) (locs : List Loc) (hP : va_P D vwCl [(mo, .inr (8, [.int (nI ps), .ref mpa, .int (nI nl), .int (nI nv), .ref msz, .ref mcd, .ref mbe, .ref mba, .int o2, .int (nI p2), .int (nI s2), .int (nI svn), .ref ms1, .ref ms2, .ref ms3, .ref ms4, .ref mfa, .ref mim, .ref mik])), (mbe, aN cI 26 b3), (mba, aN cI 26 b4), (msz, aN cI 80 z), (mcd, aN cI 640 g)] H) (hD : va_D A [(mo, .inr (8, [.int (nI ps), .ref mpa, .int (nI nl), .int (nI nv), .ref msz, .ref mcd, .ref mbe, .ref mba, .int o2, .int (nI p2), .int (nI s2), .int (nI svn), .ref ms1, .ref ms2, .ref ms3, .ref ms4, .ref mfa, .ref mim, .ref mik])), (mbe, aN cI 26 b3), (mba, aN cI 26 b4), (msz, aN cI 80 z), (mcd, aN cI 640 g)]) (hS : va_S A s.heap H locs) (ls : Array Slot) (hl : lv_has ls 12 [(0, .ref mo), (1, .int (nI (cN ve))), (2, .int (nI (cN one))), (3, .int (nI (cN oth))), (4, .int (nI (cN n))), (5, .int wh), (7, .int (foR pl2 nm2 wh)), (8, .int (nI k)), (9, .int (nI i))]), W p l e (headSpec wsX8_forgotten { frames := 4, cells := 0, slots := 0, locals := 93 }).room s m args below meth c H locs 0 0 Q (F0 m 120 ls []) := by
                              intro fu
                              induction fu with
                              | zero => intro i pl2 nm2 p2 s2 o2 b3 b4 hfu; exact absurd hfu (Nat.not_lt_zero _)
                              | succ fu ih_120 =>
                                intro i pl2 nm2 p2 s2 o2 b3 b4 hfu hi hpl2 hn2 hp2 hs2 hb2 hc2 hJ H locs hP hD hS ls hl
                                refine lv_iload hx hb dX8_forgotten_120 (lv_at hl 8 rfl) ?_
                                refine lv_aload_n hx hb dX8_forgotten_122 rfl (lv_at hl 0 rfl) ?_
                                refine lv_iload_n hx hb dX8_forgotten_123 rfl (lv_at hl 1 rfl) ?_
                                refine lv_iload_n hx hb dX8_forgotten_124 rfl (lv_at hl 3 rfl) ?_
                                refine lv_iload hx hb dX8_forgotten_125 (lv_at hl 7 rfl) ?_
                                refine m_add hx hb dX8_forgotten_127 ?_
                                refine m_rdV (As := [.int (nI (cN ve)), .int (nI ((cN oth) + k))]) (rest := [.int (nI i)]) (wc := [(mo, .inr (8, [.int (nI ps), .ref mpa, .int (nI nl), .int (nI nv), .ref msz, .ref mcd, .ref mbe, .ref mba, .int o2, .int (nI p2), .int (nI s2), .int (nI svn), .ref ms1, .ref ms2, .ref ms3, .ref ms4, .ref mfa, .ref mim, .ref mik])), (msz, aN cI 80 z)]) hcf (k_X8_size (l := l) (D := D) (cI := cI) (cZ := cZ) (v := cN ve) (ln := (cN oth) + k) (mo := mo) (ps := ps) (mpa := mpa) (nl := nl) (nv := nv) (msz := msz) (mcd := mcd) (mbe := mbe) (mba := mba) (ol := o2) (op := p2) (os := s2) (svn := svn) (ms1 := ms1) (ms2 := ms2) (ms3 := ms3) (ms4 := ms4) (mfa := mfa) (mim := mim) (mik := mik) (z := z) (hv := by omega) (hln := by omega)) (cwV 2 hts gX8_forgotten_X8_size rfl rfl rfl yd_X8_size ⟨Nat.le_of_ble_eq_true rfl, Nat.le_of_ble_eq_true rfl⟩) (m_preV hK hP hD [0, 3] (by decide) rfl rfl rfl) rfl hl.1 rfl (Nat.le_of_ble_eq_true rfl) dX8_forgotten_128 ⟨Nat.zero_le _, Nat.zero_le _⟩ ?_
                                have hz9 := hz (cN ve * 20 + (cN oth + k))
                                refine m_cmp_ge (tgt := 244) hx hb dX8_forgotten_131 (by decide) (by omega) (by omega) (fun c_131 => ?_) (fun c_131 => ?_)
                                · refine lv_iinc (v := nI (k + 1)) (lv' := [(8, .int (nI (k + 1))), (0, .ref mo), (1, .int (nI (cN ve))), (2, .int (nI (cN one))), (3, .int (nI (cN oth))), (4, .int (nI (cN n))), (5, .int wh), (7, .int (foR pl2 nm2 wh)), (9, .int (nI i))]) hx hb dX8_forgotten_244 hl (k := 7) rfl ((nI_succ _).symm) (by decide) rfl (fun ls hl => ?_)
                                  refine lv_goto (tgt := 105) hx hb dX8_forgotten_247 (by decide) ?_
                                  exact ih_105 (k + 1) pl2 nm2 _ _ _ _ _ (by omega) (by omega) hpl2 hn2 hp2 hs2 hb2 hc2 (fgI_row hJ (by first | exact Or.inl (by omega) | exact Or.inr n36)) _ _ hP hD hS ls (lv_sub hl [1, 2, 3, 4, 5, 6, 7, 0] rfl)
                                · refine lv_iload hx hb dX8_forgotten_134 (lv_at hl 6 rfl) ?_
                                  refine lv_if_ge (tgt := 244) hx hb dX8_forgotten_136 (by decide) (fun c_136 => ?_) (fun c_136 => ?_)
                                  · have n36 := foR_nn c_136
                                    refine lv_iinc (v := nI (k + 1)) (lv' := [(8, .int (nI (k + 1))), (0, .ref mo), (1, .int (nI (cN ve))), (2, .int (nI (cN one))), (3, .int (nI (cN oth))), (4, .int (nI (cN n))), (5, .int wh), (7, .int (foR pl2 nm2 wh)), (9, .int (nI i))]) hx hb dX8_forgotten_244 hl (k := 7) rfl ((nI_succ _).symm) (by decide) rfl (fun ls hl => ?_)
                                    refine lv_goto (tgt := 105) hx hb dX8_forgotten_247 (by decide) ?_
                                    exact ih_105 (k + 1) pl2 nm2 _ _ _ _ _ (by omega) (by omega) hpl2 hn2 hp2 hs2 hb2 hc2 (fgI_row hJ (by first | exact Or.inl (by omega) | exact Or.inr n36)) _ _ hP hD hS ls (lv_sub hl [1, 2, 3, 4, 5, 6, 7, 0] rfl)
                                  · have z36 := foR_ng hpl2 hn2 c_136
                                    have hJ2 := hJ
                                    rw [z36] at hJ2
                                    have e_f : foR pl2 nm2 wh = foR (k * 10 + i) 0 wh := by rw [z36]; rfl
                                    have hl : lv_has ls 12 [(0, .ref mo), (1, .int (nI (cN ve))), (2, .int (nI (cN one))), (3, .int (nI (cN oth))), (4, .int (nI (cN n))), (5, .int wh), (7, .int (foR (k * 10 + i) 0 wh)), (8, .int (nI k)), (9, .int (nI i))] := by rw [← e_f]; exact hl
                                    refine lv_bipush (v := nI 97) hx hb dX8_forgotten_139 (by decide) ?_
                                    refine lv_istore (lv' := [(10, .int (nI 97)), (0, .ref mo), (1, .int (nI (cN ve))), (2, .int (nI (cN one))), (3, .int (nI (cN oth))), (4, .int (nI (cN n))), (5, .int wh), (7, .int (foR (k * 10 + i) 0 wh)), (8, .int (nI k)), (9, .int (nI i))]) hx hb dX8_forgotten_141 hl (by decide) rfl (fun ls hl => ?_)
                                    have loop_143 : ∀ (fu : Nat) (cc nm3 p3 s3 : Nat) (o3 : Int32) (b5 b6 : Nat → Nat) (hfu : 123 - cc < fu)  (hcc1 : 97 ≤ cc) (hcc2 : cc ≤ 123) (hn3 : nm3 ≤ 126) (hp3 : p3 ≤ 100) (hs3 : s3 ≤ 126) (hb3 : ∀ j, b5 j ≤ 126) (hc3 : ∀ j, b6 j ≤ 126) (hC : nm3 = fmQ (fun c => rmB 1 z g (cN ve) nl (cN one) (cN oth) (cN n) (nI k) i c) (g ((cN ve * 20 + (cN oth + k)) * 8 + i)) (cc - 97)) (H : Heap) (locs : List Loc) (hP : va_P D vwCl [(mo, .inr (8, [.int (nI ps), .ref mpa, .int (nI nl), .int (nI nv), .ref msz, .ref mcd, .ref mbe, .ref mba, .int o3, .int (nI p3), .int (nI s3), .int (nI svn), .ref ms1, .ref ms2, .ref ms3, .ref ms4, .ref mfa, .ref mim, .ref mik])), (mbe, aN cI 26 b5), (mba, aN cI 26 b6), (msz, aN cI 80 z), (mcd, aN cI 640 g)] H) (hD : va_D A [(mo, .inr (8, [.int (nI ps), .ref mpa, .int (nI nl), .int (nI nv), .ref msz, .ref mcd, .ref mbe, .ref mba, .int o3, .int (nI p3), .int (nI s3), .int (nI svn), .ref ms1, .ref ms2, .ref ms3, .ref ms4, .ref mfa, .ref mim, .ref mik])), (mbe, aN cI 26 b5), (mba, aN cI 26 b6), (msz, aN cI 80 z), (mcd, aN cI 640 g)]) (hS : va_S A s.heap H locs) (ls : Array Slot) (hl : lv_has ls 12 [(0, .ref mo), (1, .int (nI (cN ve))), (2, .int (nI (cN one))), (3, .int (nI (cN oth))), (4, .int (nI (cN n))), (5, .int wh), (7, .int (foR (k * 10 + i) nm3 wh)), (8, .int (nI k)), (9, .int (nI i)), (10, .int (nI cc))]), W p l e (headSpec wsX8_forgotten { frames := 4, cells := 0, slots := 0, locals := 93 }).room s m args below meth c H locs 0 0 Q (F0 m 143 ls []) := by
                                      intro fu
                                      induction fu with
                                      | zero => intro cc nm3 p3 s3 o3 b5 b6 hfu; exact absurd hfu (Nat.not_lt_zero _)
                                      | succ fu ih_143 =>
                                        intro cc nm3 p3 s3 o3 b5 b6 hfu hcc1 hcc2 hn3 hp3 hs3 hb3 hc3 hC H locs hP hD hS ls hl
                                        refine lv_iload hx hb dX8_forgotten_143 (lv_at hl 9 rfl) ?_
                                        refine lv_bipush (v := nI 122) hx hb dX8_forgotten_145 (by decide) ?_
                                        refine m_cmp_gt (tgt := 238) hx hb dX8_forgotten_147 (by decide) (by omega) (by omega) (fun c_147 => ?_) (fun c_147 => ?_)
                                        · refine lv_iinc (v := nI (i + 1)) (lv' := [(9, .int (nI (i + 1))), (0, .ref mo), (1, .int (nI (cN ve))), (2, .int (nI (cN one))), (3, .int (nI (cN oth))), (4, .int (nI (cN n))), (5, .int wh), (7, .int (foR (k * 10 + i) nm3 wh)), (8, .int (nI k)), (10, .int (nI cc))]) hx hb dX8_forgotten_238 hl (k := 8) rfl ((nI_succ _).symm) (by decide) rfl (fun ls hl => ?_)
                                          refine lv_goto (tgt := 120) hx hb dX8_forgotten_241 (by decide) ?_
                                          have E8 : nm3 = fmF z g (cN ve) nl (cN one) (cN oth) (cN n) k i := by
                                            unfold fmF
                                            first
                                            | (have e7 : cc - 97 = 26 := by omega
                                               rw [hC, e7]; done)
                                            | (have e6 := fmQ_stay (by rw [← hC]; exact n52) (26 - (cc - 97))
                                               rw [show cc - 97 + (26 - (cc - 97)) = 26 by omega] at e6
                                               rw [hC, e6]; done)
                                            | (rw [hC, fmQ_n c_169, fmQ_n c_169]; done)
                                          have E9 := fgI_s hJ2 c_131
                                          rw [← E8] at E9
                                          exact ih_120 (i + 1) (k * 10 + i) nm3 _ _ _ _ _ (by omega) (by omega) (by omega) hn3 hp3 hs3 hb3 hc3 E9 _ _ hP hD hS ls (lv_sub hl [1, 2, 3, 4, 5, 6, 7, 8, 0] rfl)
                                        · refine lv_iload hx hb dX8_forgotten_150 (lv_at hl 6 rfl) ?_
                                          refine lv_if_ge (tgt := 238) hx hb dX8_forgotten_152 (by decide) (fun c_152 => ?_) (fun c_152 => ?_)
                                          · have n52 := foR_nn c_152
                                            refine lv_iinc (v := nI (i + 1)) (lv' := [(9, .int (nI (i + 1))), (0, .ref mo), (1, .int (nI (cN ve))), (2, .int (nI (cN one))), (3, .int (nI (cN oth))), (4, .int (nI (cN n))), (5, .int wh), (7, .int (foR (k * 10 + i) nm3 wh)), (8, .int (nI k)), (10, .int (nI cc))]) hx hb dX8_forgotten_238 hl (k := 8) rfl ((nI_succ _).symm) (by decide) rfl (fun ls hl => ?_)
                                            refine lv_goto (tgt := 120) hx hb dX8_forgotten_241 (by decide) ?_
                                            have E8 : nm3 = fmF z g (cN ve) nl (cN one) (cN oth) (cN n) k i := by
                                              unfold fmF
                                              first
                                              | (have e7 : cc - 97 = 26 := by omega
                                                 rw [hC, e7]; done)
                                              | (have e6 := fmQ_stay (by rw [← hC]; exact n52) (26 - (cc - 97))
                                                 rw [show cc - 97 + (26 - (cc - 97)) = 26 by omega] at e6
                                                 rw [hC, e6]; done)
                                              | (rw [hC, fmQ_n c_169, fmQ_n c_169]; done)
                                            have E9 := fgI_s hJ2 c_131
                                            rw [← E8] at E9
                                            exact ih_120 (i + 1) (k * 10 + i) nm3 _ _ _ _ _ (by omega) (by omega) (by omega) hn3 hp3 hs3 hb3 hc3 E9 _ _ hP hD hS ls (lv_sub hl [1, 2, 3, 4, 5, 6, 7, 8, 0] rfl)
                                          · have z52 := foR_ng (by omega) hn3 c_152
                                            refine lv_aload_n hx hb dX8_forgotten_155 rfl (lv_at hl 0 rfl) ?_
                                            refine lv_iload_n hx hb dX8_forgotten_156 rfl (lv_at hl 1 rfl) ?_
                                            refine lv_iload_n hx hb dX8_forgotten_157 rfl (lv_at hl 3 rfl) ?_
                                            refine lv_iload hx hb dX8_forgotten_158 (lv_at hl 7 rfl) ?_
                                            refine m_add hx hb dX8_forgotten_160 ?_
                                            refine lv_iload hx hb dX8_forgotten_161 (lv_at hl 8 rfl) ?_
                                            refine m_rdV (As := [.int (nI (cN ve)), .int (nI ((cN oth) + k)), .int (nI i)]) (rest := []) (wc := [(mo, .inr (8, [.int (nI ps), .ref mpa, .int (nI nl), .int (nI nv), .ref msz, .ref mcd, .ref mbe, .ref mba, .int o3, .int (nI p3), .int (nI s3), .int (nI svn), .ref ms1, .ref ms2, .ref ms3, .ref ms4, .ref mfa, .ref mim, .ref mik])), (mcd, aN cI 640 g)]) hcf (k_X8_signAt (l := l) (D := D) (cI := cI) (cZ := cZ) (v := cN ve) (ln := (cN oth) + k) (k := i) (mo := mo) (ps := ps) (mpa := mpa) (nl := nl) (nv := nv) (msz := msz) (mcd := mcd) (mbe := mbe) (mba := mba) (ol := o3) (op := p3) (os := s3) (svn := svn) (ms1 := ms1) (ms2 := ms2) (ms3 := ms3) (ms4 := ms4) (mfa := mfa) (mim := mim) (mik := mik) (g := g) (hv := by omega) (hln := by omega) (hk := by have := hz (cN ve * 20 + (cN oth + k)); omega)) (cwV 3 hts gX8_forgotten_X8_signAt rfl rfl rfl yd_X8_signAt ⟨Nat.le_of_ble_eq_true rfl, Nat.le_of_ble_eq_true rfl⟩) (m_preV hK hP hD [0, 4] (by decide) rfl rfl rfl) rfl hl.1 rfl (Nat.le_of_ble_eq_true rfl) dX8_forgotten_163 ⟨Nat.zero_le _, Nat.zero_le _⟩ ?_
                                            refine m_rdS (As := [.int (nI (g (((cN ve) * 20 + ((cN oth) + k)) * 8 + i)))]) (rest := []) (wc := []) hcf (k_X8_isName (l := l) (D := D) (cI := cI) (cZ := cZ) (a := g (((cN ve) * 20 + ((cN oth) + k)) * 8 + i)) (ha := Nat.lt_of_le_of_lt (hg _) (by decide))) (va_cwS 1 hts gX8_forgotten_X8_isName rfl rfl rfl yd_X8_isName.2 ⟨Nat.le_of_ble_eq_true rfl, Nat.le_of_ble_eq_true rfl⟩) (m_preS hK hP hD [] (by decide) rfl) rfl hl.1 rfl (Nat.le_of_ble_eq_true rfl) dX8_forgotten_166 ⟨Nat.zero_le _, Nat.zero_le _⟩ ?_
                                            refine m_ifB_eq (tgt := 238) hx hb dX8_forgotten_169 (by decide) (fun c_169 => ?_) (fun c_169 => ?_)
                                            · refine lv_iinc (v := nI (i + 1)) (lv' := [(9, .int (nI (i + 1))), (0, .ref mo), (1, .int (nI (cN ve))), (2, .int (nI (cN one))), (3, .int (nI (cN oth))), (4, .int (nI (cN n))), (5, .int wh), (7, .int (foR (k * 10 + i) nm3 wh)), (8, .int (nI k)), (10, .int (nI cc))]) hx hb dX8_forgotten_238 hl (k := 8) rfl ((nI_succ _).symm) (by decide) rfl (fun ls hl => ?_)
                                              refine lv_goto (tgt := 120) hx hb dX8_forgotten_241 (by decide) ?_
                                              have E8 : nm3 = fmF z g (cN ve) nl (cN one) (cN oth) (cN n) k i := by
                                                unfold fmF
                                                first
                                                | (have e7 : cc - 97 = 26 := by omega
                                                   rw [hC, e7]; done)
                                                | (have e6 := fmQ_stay (by rw [← hC]; exact n52) (26 - (cc - 97))
                                                   rw [show cc - 97 + (26 - (cc - 97)) = 26 by omega] at e6
                                                   rw [hC, e6]; done)
                                                | (rw [hC, fmQ_n c_169, fmQ_n c_169]; done)
                                              have E9 := fgI_s hJ2 c_131
                                              rw [← E8] at E9
                                              exact ih_120 (i + 1) (k * 10 + i) nm3 _ _ _ _ _ (by omega) (by omega) (by omega) hn3 hp3 hs3 hb3 hc3 E9 _ _ hP hD hS ls (lv_sub hl [1, 2, 3, 4, 5, 6, 7, 8, 0] rfl)
                                            · refine lv_aload_n hx hb dX8_forgotten_172 rfl (lv_at hl 0 rfl) ?_
                                              refine lv_iload hx hb dX8_forgotten_173 (lv_at hl 7 rfl) ?_
                                              refine va_put (D := D) (ci := 8) (v := .int (nI k)) (ty := .int) (C := RX8) (T := TX8) (N := 19) hx hb hts i_X8 tyX8 tyX8_ok nmX8 hown hK.1 hP hD hS 0 rfl rfl 8 (by decide) f_25 (fun _ h9 => h9) rfl (by decide +kernel) rfl rfl (Nat.le_of_ble_eq_true rfl) dX8_forgotten_175 (fun H locs hP hD hS => ?_)
                                              have hP : va_P D vwCl [(mo, .inr (8, [.int (nI ps), .ref mpa, .int (nI nl), .int (nI nv), .ref msz, .ref mcd, .ref mbe, .ref mba, .int (nI k), .int (nI p3), .int (nI s3), .int (nI svn), .ref ms1, .ref ms2, .ref ms3, .ref ms4, .ref mfa, .ref mim, .ref mik])), (mbe, aN cI 26 b5), (mba, aN cI 26 b6), (msz, aN cI 80 z), (mcd, aN cI 640 g)] H := hP
                                              have hD : va_D A [(mo, .inr (8, [.int (nI ps), .ref mpa, .int (nI nl), .int (nI nv), .ref msz, .ref mcd, .ref mbe, .ref mba, .int (nI k), .int (nI p3), .int (nI s3), .int (nI svn), .ref ms1, .ref ms2, .ref ms3, .ref ms4, .ref mfa, .ref mim, .ref mik])), (mbe, aN cI 26 b5), (mba, aN cI 26 b6), (msz, aN cI 80 z), (mcd, aN cI 640 g)] := hD
                                              refine lv_aload_n hx hb dX8_forgotten_178 rfl (lv_at hl 0 rfl) ?_
                                              refine lv_iload hx hb dX8_forgotten_179 (lv_at hl 8 rfl) ?_
                                              refine va_put (D := D) (ci := 8) (v := .int (nI i)) (ty := .int) (C := RX8) (T := TX8) (N := 19) hx hb hts i_X8 tyX8 tyX8_ok nmX8 hown hK.1 hP hD hS 0 rfl rfl 9 (by decide) f_96 (fun _ h9 => h9) rfl (by decide +kernel) rfl rfl (Nat.le_of_ble_eq_true rfl) dX8_forgotten_181 (fun H locs hP hD hS => ?_)
                                              have hP : va_P D vwCl [(mo, .inr (8, [.int (nI ps), .ref mpa, .int (nI nl), .int (nI nv), .ref msz, .ref mcd, .ref mbe, .ref mba, .int (nI k), .int (nI i), .int (nI s3), .int (nI svn), .ref ms1, .ref ms2, .ref ms3, .ref ms4, .ref mfa, .ref mim, .ref mik])), (mbe, aN cI 26 b5), (mba, aN cI 26 b6), (msz, aN cI 80 z), (mcd, aN cI 640 g)] H := hP
                                              have hD : va_D A [(mo, .inr (8, [.int (nI ps), .ref mpa, .int (nI nl), .int (nI nv), .ref msz, .ref mcd, .ref mbe, .ref mba, .int (nI k), .int (nI i), .int (nI s3), .int (nI svn), .ref ms1, .ref ms2, .ref ms3, .ref ms4, .ref mfa, .ref mim, .ref mik])), (mbe, aN cI 26 b5), (mba, aN cI 26 b6), (msz, aN cI 80 z), (mcd, aN cI 640 g)] := hD
                                              refine lv_aload_n hx hb dX8_forgotten_184 rfl (lv_at hl 0 rfl) ?_
                                              refine lv_iload hx hb dX8_forgotten_185 (lv_at hl 9 rfl) ?_
                                              refine va_put (D := D) (ci := 8) (v := .int (nI cc)) (ty := .int) (C := RX8) (T := TX8) (N := 19) hx hb hts i_X8 tyX8 tyX8_ok nmX8 hown hK.1 hP hD hS 0 rfl rfl 10 (by decide) f_99 (fun _ h9 => h9) rfl (by decide +kernel) rfl rfl (Nat.le_of_ble_eq_true rfl) dX8_forgotten_187 (fun H locs hP hD hS => ?_)
                                              have hP : va_P D vwCl [(mo, .inr (8, [.int (nI ps), .ref mpa, .int (nI nl), .int (nI nv), .ref msz, .ref mcd, .ref mbe, .ref mba, .int (nI k), .int (nI i), .int (nI cc), .int (nI svn), .ref ms1, .ref ms2, .ref ms3, .ref ms4, .ref mfa, .ref mim, .ref mik])), (mbe, aN cI 26 b5), (mba, aN cI 26 b6), (msz, aN cI 80 z), (mcd, aN cI 640 g)] H := hP
                                              have hD : va_D A [(mo, .inr (8, [.int (nI ps), .ref mpa, .int (nI nl), .int (nI nv), .ref msz, .ref mcd, .ref mbe, .ref mba, .int (nI k), .int (nI i), .int (nI cc), .int (nI svn), .ref ms1, .ref ms2, .ref ms3, .ref ms4, .ref mfa, .ref mim, .ref mik])), (mbe, aN cI 26 b5), (mba, aN cI 26 b6), (msz, aN cI 80 z), (mcd, aN cI 640 g)] := hD
                                              refine lv_aload_n hx hb dX8_forgotten_190 rfl (lv_at hl 0 rfl) ?_
                                              refine lv_iload_n hx hb dX8_forgotten_191 rfl (lv_at hl 1 rfl) ?_
                                              refine lv_iconst (v := nI 1) hx hb dX8_forgotten_192 (by decide) ?_
                                              refine lv_iload_n hx hb dX8_forgotten_193 rfl (lv_at hl 2 rfl) ?_
                                              refine lv_iload_n hx hb dX8_forgotten_194 rfl (lv_at hl 3 rfl) ?_
                                              refine lv_iload hx hb dX8_forgotten_195 (lv_at hl 4 rfl) ?_
                                              refine m_wrV (As := [.int (nI (cN ve)), .int (nI 1), .int (nI (cN one)), .int (nI (cN oth)), .int (nI (cN n))]) (rest := []) (wc := [(mo, .inr (8, [.int (nI ps), .ref mpa, .int (nI nl), .int (nI nv), .ref msz, .ref mcd, .ref mbe, .ref mba, .int (nI k), .int (nI i), .int (nI cc), .int (nI svn), .ref ms1, .ref ms2, .ref ms3, .ref ms4, .ref mfa, .ref mim, .ref mik])), (mbe, aN cI 26 b5), (mba, aN cI 26 b6), (msz, aN cI 80 z), (mcd, aN cI 640 g)]) hcf (k_X8_rowsAlike (l := l) (D := D) (cI := cI) (cZ := cZ) (v := cN ve) (way := 1) (one := cN one) (oth := cN oth) (n := cN n) (mo := mo) (ps := ps) (mpa := mpa) (nl := nl) (nv := nv) (msz := msz) (mcd := mcd) (mbe := mbe) (mba := mba) (ol := nI k) (op := i) (os := cc) (svn := svn) (ms1 := ms1) (ms2 := ms2) (ms3 := ms3) (ms4 := ms4) (mfa := mfa) (mim := mim) (mik := mik) (be := b5) (ba := b6) (z := z) (g := g) (hnl := hnl) (hnv := hnv) (hz := hz) (hg := hg) (hbe := hb3) (hba := hc3) (hw := by omega) (hv := by omega) (h1 := by omega) (h2 := by omega) (hn := by omega) (hop := by omega) (hos := by omega)) (cwV 5 hts gX8_forgotten_X8_rowsAlike rfl rfl rfl yd_X8_rowsAlike ⟨Nat.le_of_ble_eq_true rfl, Nat.le_of_ble_eq_true rfl⟩) hK hP hD hS [0, 1, 2, 3, 4] (by decide) rfl rfl rfl rfl hl.1 rfl (Nat.le_of_ble_eq_true rfl) dX8_forgotten_197 ⟨Nat.zero_le _, Nat.zero_le _⟩ (fun _ => rfl) (fun (u : (Nat → Nat) × (Nat → Nat)) => [(mo, .inr (8, [.int (nI ps), .ref mpa, .int (nI nl), .int (nI nv), .ref msz, .ref mcd, .ref mbe, .ref mba, .int (nI k), .int (nI i), .int (nI cc), .int (nI svn), .ref ms1, .ref ms2, .ref ms3, .ref ms4, .ref mfa, .ref mim, .ref mik])), (mbe, aN cI 26 u.1), (mba, aN cI 26 u.2), (msz, aN cI 80 z), (mcd, aN cI 640 g)]) (fun _ => rfl) (fun r u H locs hp_197 hP hD hS => ?_)
                                              obtain ⟨beu_197, bau_197⟩ := u
                                              have hP : va_P D vwCl [(mo, .inr (8, [.int (nI ps), .ref mpa, .int (nI nl), .int (nI nv), .ref msz, .ref mcd, .ref mbe, .ref mba, .int (nI k), .int (nI i), .int (nI cc), .int (nI svn), .ref ms1, .ref ms2, .ref ms3, .ref ms4, .ref mfa, .ref mim, .ref mik])), (mbe, aN cI 26 beu_197), (mba, aN cI 26 bau_197), (msz, aN cI 80 z), (mcd, aN cI 640 g)] H := hP
                                              have hD : va_D A [(mo, .inr (8, [.int (nI ps), .ref mpa, .int (nI nl), .int (nI nv), .ref msz, .ref mcd, .ref mbe, .ref mba, .int (nI k), .int (nI i), .int (nI cc), .int (nI svn), .ref ms1, .ref ms2, .ref ms3, .ref ms4, .ref mfa, .ref mim, .ref mik])), (mbe, aN cI 26 beu_197), (mba, aN cI 26 bau_197), (msz, aN cI 80 z), (mcd, aN cI 640 g)] := hD
                                              try dsimp only at hp_197
                                              obtain ⟨hr_hp_197, hp_197⟩ := hp_197
                                              rw [hr_hp_197]
                                              refine lv_istore (lv' := [(11, .int (bI (rmB 1 z g (cN ve) nl (cN one) (cN oth) (cN n) (nI k) i cc))), (0, .ref mo), (1, .int (nI (cN ve))), (2, .int (nI (cN one))), (3, .int (nI (cN oth))), (4, .int (nI (cN n))), (5, .int wh), (7, .int (foR (k * 10 + i) nm3 wh)), (8, .int (nI k)), (9, .int (nI i)), (10, .int (nI cc))]) hx hb dX8_forgotten_200 hl (by decide) rfl (fun ls hl => ?_)
                                              refine lv_iload hx hb dX8_forgotten_202 (lv_at hl 0 rfl) ?_
                                              refine m_ifB_eq (tgt := 228) hx hb dX8_forgotten_204 (by decide) (fun c_204 => ?_) (fun c_204 => ?_)
                                              · refine lv_bipush (v := (-6)) hx hb dX8_forgotten_228 (by decide) ?_
                                                refine m_top (y := foR (k * 10 + i) 0 wh) rfl ?_
                                                refine lv_istore (lv' := [(7, .int (foR (k * 10 + i) 0 wh)), (11, .int (bI (rmB 1 z g (cN ve) nl (cN one) (cN oth) (cN n) (nI k) i cc))), (0, .ref mo), (1, .int (nI (cN ve))), (2, .int (nI (cN one))), (3, .int (nI (cN oth))), (4, .int (nI (cN n))), (5, .int wh), (8, .int (nI k)), (9, .int (nI i)), (10, .int (nI cc))]) hx hb dX8_forgotten_230 hl (by decide) rfl (fun ls hl => ?_)
                                                refine lv_iinc (v := nI (cc + 1)) (lv' := [(10, .int (nI (cc + 1))), (7, .int (foR (k * 10 + i) 0 wh)), (11, .int (bI (rmB 1 z g (cN ve) nl (cN one) (cN oth) (cN n) (nI k) i cc))), (0, .ref mo), (1, .int (nI (cN ve))), (2, .int (nI (cN one))), (3, .int (nI (cN oth))), (4, .int (nI (cN n))), (5, .int wh), (8, .int (nI k)), (9, .int (nI i))]) hx hb dX8_forgotten_232 hl (k := 10) rfl ((nI_succ _).symm) (by decide) rfl (fun ls hl => ?_)
                                                refine lv_goto (tgt := 143) hx hb dX8_forgotten_235 (by decide) ?_
                                                have E7 : cc + 1 - 97 = cc - 97 + 1 := by omega
                                                have E6 : 97 + (cc - 97) = cc := by omega
                                                have E5 : fmQ (fun c => rmB 1 z g (cN ve) nl (cN one) (cN oth) (cN n) (nI k) i c) (g ((cN ve * 20 + (cN oth + k)) * 8 + i)) (cc - 97) = 0 := by rw [← hC, z52]
                                                exact ih_143 (cc + 1) 0 _ _ _ _ _ (by omega) (by omega) (by omega) (by omega) (by omega) (by omega) hp_197.2.1 hp_197.2.2 (by rw [E7, fmQ_f E5 (by rw [E6]; exact c_204)]) _ _ hP hD hS ls (lv_sub hl [3, 4, 5, 6, 7, 8, 1, 9, 10, 0] rfl)
                                              · refine lv_iload hx hb dX8_forgotten_207 (lv_at hl 6 rfl) ?_
                                                refine lv_if_ne (tgt := 223) hx hb dX8_forgotten_209 (by decide) (fun c_209 => ?_) (fun c_209 => ?_)
                                                · refine lv_iload hx hb dX8_forgotten_223 (lv_at hl 10 rfl) ?_
                                                  refine m_top (y := foR (k * 10 + i) cc wh) (by unfold foR; rw [if_neg (by omega), if_neg c_209]) ?_
                                                  refine lv_goto (tgt := 230) hx hb dX8_forgotten_225 (by decide) ?_
                                                  refine lv_istore (lv' := [(7, .int (foR (k * 10 + i) cc wh)), (11, .int (bI (rmB 1 z g (cN ve) nl (cN one) (cN oth) (cN n) (nI k) i cc))), (0, .ref mo), (1, .int (nI (cN ve))), (2, .int (nI (cN one))), (3, .int (nI (cN oth))), (4, .int (nI (cN n))), (5, .int wh), (8, .int (nI k)), (9, .int (nI i)), (10, .int (nI cc))]) hx hb dX8_forgotten_230 hl (by decide) rfl (fun ls hl => ?_)
                                                  refine lv_iinc (v := nI (cc + 1)) (lv' := [(10, .int (nI (cc + 1))), (7, .int (foR (k * 10 + i) cc wh)), (11, .int (bI (rmB 1 z g (cN ve) nl (cN one) (cN oth) (cN n) (nI k) i cc))), (0, .ref mo), (1, .int (nI (cN ve))), (2, .int (nI (cN one))), (3, .int (nI (cN oth))), (4, .int (nI (cN n))), (5, .int wh), (8, .int (nI k)), (9, .int (nI i))]) hx hb dX8_forgotten_232 hl (k := 10) rfl ((nI_succ _).symm) (by decide) rfl (fun ls hl => ?_)
                                                  refine lv_goto (tgt := 143) hx hb dX8_forgotten_235 (by decide) ?_
                                                  have E7 : cc + 1 - 97 = cc - 97 + 1 := by omega
                                                  have E6 : 97 + (cc - 97) = cc := by omega
                                                  have E5 : fmQ (fun c => rmB 1 z g (cN ve) nl (cN one) (cN oth) (cN n) (nI k) i c) (g ((cN ve * 20 + (cN oth + k)) * 8 + i)) (cc - 97) = 0 := by rw [← hC, z52]
                                                  exact ih_143 (cc + 1) cc _ _ _ _ _ (by omega) (by omega) (by omega) (by omega) (by omega) (by omega) hp_197.2.1 hp_197.2.2 (by rw [E7, fmQ_t c_169 E5 (by rw [E6]; exact c_204), E6]) _ _ hP hD hS ls (lv_sub hl [3, 4, 5, 6, 7, 8, 1, 9, 10, 0] rfl)
                                                · refine lv_bipush (v := nI 10) hx hb dX8_forgotten_212 (by decide) ?_
                                                  refine lv_iload hx hb dX8_forgotten_214 (lv_at hl 8 rfl) ?_
                                                  refine m_mul hx hb dX8_forgotten_216 ?_
                                                  refine lv_iload hx hb dX8_forgotten_217 (lv_at hl 9 rfl) ?_
                                                  refine m_add hx hb dX8_forgotten_219 ?_
                                                  refine m_top (y := foR (k * 10 + i) cc wh) (by unfold foR; rw [if_neg (by omega), if_pos c_209, Nat.mul_comm]) ?_
                                                  refine lv_goto (tgt := 230) hx hb dX8_forgotten_220 (by decide) ?_
                                                  refine lv_istore (lv' := [(7, .int (foR (k * 10 + i) cc wh)), (11, .int (bI (rmB 1 z g (cN ve) nl (cN one) (cN oth) (cN n) (nI k) i cc))), (0, .ref mo), (1, .int (nI (cN ve))), (2, .int (nI (cN one))), (3, .int (nI (cN oth))), (4, .int (nI (cN n))), (5, .int wh), (8, .int (nI k)), (9, .int (nI i)), (10, .int (nI cc))]) hx hb dX8_forgotten_230 hl (by decide) rfl (fun ls hl => ?_)
                                                  refine lv_iinc (v := nI (cc + 1)) (lv' := [(10, .int (nI (cc + 1))), (7, .int (foR (k * 10 + i) cc wh)), (11, .int (bI (rmB 1 z g (cN ve) nl (cN one) (cN oth) (cN n) (nI k) i cc))), (0, .ref mo), (1, .int (nI (cN ve))), (2, .int (nI (cN one))), (3, .int (nI (cN oth))), (4, .int (nI (cN n))), (5, .int wh), (8, .int (nI k)), (9, .int (nI i))]) hx hb dX8_forgotten_232 hl (k := 10) rfl ((nI_succ _).symm) (by decide) rfl (fun ls hl => ?_)
                                                  refine lv_goto (tgt := 143) hx hb dX8_forgotten_235 (by decide) ?_
                                                  have E7 : cc + 1 - 97 = cc - 97 + 1 := by omega
                                                  have E6 : 97 + (cc - 97) = cc := by omega
                                                  have E5 : fmQ (fun c => rmB 1 z g (cN ve) nl (cN one) (cN oth) (cN n) (nI k) i c) (g ((cN ve * 20 + (cN oth + k)) * 8 + i)) (cc - 97) = 0 := by rw [← hC, z52]
                                                  exact ih_143 (cc + 1) cc _ _ _ _ _ (by omega) (by omega) (by omega) (by omega) (by omega) (by omega) hp_197.2.1 hp_197.2.2 (by rw [E7, fmQ_t c_169 E5 (by rw [E6]; exact c_204), E6]) _ _ hP hD hS ls (lv_sub hl [3, 4, 5, 6, 7, 8, 1, 9, 10, 0] rfl)
                                    exact loop_143 124 97 0 _ _ _ _ _ (by omega) (by omega) (by omega) (by omega) hp2 hs2 hb2 hc2 (fmQ_0 _ _).symm _ _ hP hD hS ls (lv_sub hl [1, 2, 3, 4, 5, 6, 7, 8, 9, 0] rfl)
                            exact loop_120 (z (cN ve * 20 + (cN oth + k)) + 1) 0 pl nm _ _ _ _ _ (by omega) (by omega) hpl1 hn1 hp1 hs1 hb1 hc1 hI _ _ hP hD hS ls (lv_sub hl [1, 2, 3, 4, 5, 6, 7, 8, 0] rfl)
                    exact loop_105 (cN n + 1) 0 0 0 _ _ _ _ _ (by omega) (by omega) (by omega) (by omega) hop hos hp_89.2.1 hp_89.2.2 (fgI_0 _ _ _) _ _ hP hD hS ls (lv_sub hl [3, 4, 5, 6, 7, 8, 1, 0] rfl)
                  · refine lv_bipush (v := (-6)) hx hb dX8_forgotten_95 (by decide) ?_
                    rw [hQ]
                    exact m_iwr hx hb hr hlocks (beu_89, bau_89, op, os, 0, 0) (⟨by rw [rfQ_v c_5 KI]; rfl, hp_89.2.1, hp_89.2.2, hop, hos, fun _ _ => ⟨fun _ => rfl, fun h => by obtain ⟨q1, q2, q3, q4⟩ := h; exfalso; first | omega | (rw [c_92] at q4; cases q4)⟩⟩) hP hS dX8_forgotten_97
      · refine lv_bipush (v := (-2)) hx hb dX8_forgotten_31 (by decide) ?_
        rw [hQ]
        have KI : (arB one oth n && ixB wh 2) = false := by first | (simp [K9]; done) | (simp [c_28]; done)
        exact m_iwr hx hb hr hlocks (be, ba, op, os, 0, 0) (⟨by rw [rfQ_o c_5 KI], hbe, hba, hop, hos, fun _ h => by (rw [KI] at h; cases h)⟩) hP hS dX8_forgotten_33
  · refine lv_iconst (v := (-1)) hx hb dX8_forgotten_8 (by decide) ?_
    rw [hQ]
    exact m_iwr hx hb hr hlocks (be, ba, op, os, 0, 0) (⟨by rw [rfQ_u c_5], hbe, hba, hop, hos, fun h => by (rw [c_5] at h; cases h)⟩) hP hS dX8_forgotten_9
