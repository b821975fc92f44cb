/-- one row of the table of distances, on its way from row i to row i + 1 -/
def frP (fa fb : Nat → Nat) (C i j : Nat) (f : Nat → Nat) : Prop := (∀ q, q ≤ j → f q = dsN fa fb (i + 1) q) ∧ (∀ q, j < q → q ≤ C → f q = dsN fa fb i q) ∧ ∀ q, f q ≤ 1000
theorem frP_0 {fa fb : Nat → Nat} {C i : Nat} {f : Nat → Nat} (hi : i ≤ 8) (h : ∀ q, q ≤ C → f q = dsN fa fb i q) (hb : ∀ q, f q ≤ 1000) : frP fa fb C i 0 (upN f 0 (2 * (i + 1))) := by
  refine ⟨fun q hq => ?_, fun q h1 h2 => ?_, upN_le hb (by omega)⟩
  · have e : q = 0 := by omega
    rw [e, upN_s, dsN_0]
  · rw [upN_ne (by omega)]; exact h q h2
theorem frP_s {fa fb : Nat → Nat} {C i j : Nat} {f : Nat → Nat} {x : Nat} (hi : i ≤ 8) (hj : j ≤ 8) (h : frP fa fb C i j f) (hx : x = dsN fa fb (i + 1) (j + 1)) : frP fa fb C i (j + 1) (upN f (j + 1) x) := by
  have hb := dsN_le fa fb (i + 1) (j + 1)
  refine ⟨fun q hq => ?_, fun q h1 h2 => ?_, upN_le h.2.2 (by omega)⟩
  · by_cases e : q = j + 1
    · rw [e, upN_s]; exact hx
    · rw [upN_ne e]; exact h.1 q (by omega)
  · rw [upN_ne (by omega)]; exact h.2.1 q (by omega) h2
theorem sgN_g {z g : Nat → Nat} {sl k : Nat} (h : k < z sl) : g (sl * 8 + k) = sgN z g sl k := by unfold sgN; rw [if_pos h]

theorem yd_X8_changes : yX8_changes.cls = RX8 ∧ yX8_changes.cls ≠ "java/lang/invoke/MethodHandle" ∧ yX8_changes.cls ≠ "java/lang/invoke/VarHandle" ∧ (parseMethodDescriptor yX8_changes.desc).map (fun d => d.parameters.length) = some 2 := by decide +kernel
set_option maxHeartbeats 4000000 in
set_option maxRecDepth 100000 in
theorem k_X8_changes (l : Launch) (D : va_G) (cI cZ : ClassId) (a b : Nat) (ha : a ≤ 126) (hb2 : b ≤ 126) : Met l yX8_changes wsX8_changes ({ frames := 2, cells := 0, slots := 0, locals := 42 }) (mPc [.int (nI a), .int (nI b)] D cI cZ []) (QcRead (nI (scN a b))) 0 0 (fun _ => False) := by
  refine Met.ofW (cc := cX8_changes) (maxL := 2) (ret := (some .int)) (by decide) rfl ?_
  intro p e s m args below meth c s₁ BB hml hv
  obtain ⟨hargs, hP, hD0, hK⟩ := hv
  have hx := BB.exec
  have hb := BB.bytes
  have hr := BB.returns
  have hts := atoms_spec (ws := wsX8_changes) BB.pre
  have hown : s.vm.findClass RX8 = some m.cls := findClass_of_methodNamed BB.named
  have hlocks := BB.notSynchronized
  have hcf : CallFix p m c cX8_changes 2 s args wsX8_changes RX8 := ⟨hx, hb, hml, hown, hts⟩
  have hD := hD0
  rw [hargs, lg_entry_eq, ← hargs]
  have hl := lv_entry ([.int (nI a), .int (nI b)]) (n := 2) (Nat.le_of_ble_eq_true rfl)
  generalize (lg_sl ([.int (nI a), .int (nI b)]) ++ List.replicate (2 - (lg_sl ([.int (nI a), .int (nI b)])).length) Slot.unset).toArray = ls at hl ⊢
  have hl : lv_has ls 2 [(0, .int (nI a)), (1, .int (nI b))] := hl
  obtain ⟨Q, hQ⟩ : ∃ Q, Q = MQ below (QcRead (nI (scN a b))) args s 0 0 (fun _ => False) := ⟨_, rfl⟩
  rw [← hQ]
  refine lv_iload_n hx hb dX8_changes_0 rfl (lv_at hl 0 rfl) ?_
  refine lv_iload_n hx hb dX8_changes_1 rfl (lv_at hl 1 rfl) ?_
  refine m_cmp_ne (tgt := 7) hx hb dX8_changes_2 (by decide) (by omega) (by omega) (fun c_2 => ?_) (fun c_2 => ?_)
  · refine lv_iload_n hx hb dX8_changes_7 rfl (lv_at hl 0 rfl) ?_
    refine m_rdS (As := [.int (nI a)]) (rest := []) (wc := []) hcf (k_X8_isName (l := l) (D := D) (cI := cI) (cZ := cZ) (a := a) (ha := by omega)) (va_cwS 1 hts gX8_changes_X8_isName rfl rfl rfl yd_X8_isName.2 ⟨Nat.le_of_ble_eq_true rfl, Nat.le_of_ble_eq_true rfl⟩) (m_preS hK hP hD [] (by decide) rfl) rfl hl.1 rfl (Nat.le_of_ble_eq_true rfl) dX8_changes_8 ⟨Nat.zero_le _, Nat.zero_le _⟩ ?_
    refine m_ifB_eq (tgt := 21) hx hb dX8_changes_11 (by decide) (fun c_11 => ?_) (fun c_11 => ?_)
    · refine lv_iload_n hx hb dX8_changes_21 rfl (lv_at hl 0 rfl) ?_
      refine m_rdS (As := [.int (nI a)]) (rest := []) (wc := []) hcf (k_X8_isNumber (l := l) (D := D) (cI := cI) (cZ := cZ) (a := a) (ha := by omega)) (va_cwS 1 hts gX8_changes_X8_isNumber rfl rfl rfl yd_X8_isNumber.2 ⟨Nat.le_of_ble_eq_true rfl, Nat.le_of_ble_eq_true rfl⟩) (m_preS hK hP hD [] (by decide) rfl) rfl hl.1 rfl (Nat.le_of_ble_eq_true rfl) dX8_changes_22 ⟨Nat.zero_le _, Nat.zero_le _⟩ ?_
      refine m_ifB_eq (tgt := 39) hx hb dX8_changes_25 (by decide) (fun c_25 => ?_) (fun c_25 => ?_)
      · have K9 : ¬ (nmB a && nmB b || nuB a && nuB b) = true := by first | (simp [c_11, c_25]; done) | (simp [c_18, c_25]; done)
        refine lv_iconst (v := nI 3) hx hb dX8_changes_39 (by decide) ?_
        rw [hQ]
        exact m_ird hx hb hr hlocks (by unfold scN; rw [if_neg c_2, if_neg K9]) dX8_changes_40
      · refine lv_iload_n hx hb dX8_changes_28 rfl (lv_at hl 1 rfl) ?_
        refine m_rdS (As := [.int (nI b)]) (rest := []) (wc := []) hcf (k_X8_isNumber (l := l) (D := D) (cI := cI) (cZ := cZ) (a := b) (ha := by omega)) (va_cwS 1 hts gX8_changes_X8_isNumber rfl rfl rfl yd_X8_isNumber.2 ⟨Nat.le_of_ble_eq_true rfl, Nat.le_of_ble_eq_true rfl⟩) (m_preS hK hP hD [] (by decide) rfl) rfl hl.1 rfl (Nat.le_of_ble_eq_true rfl) dX8_changes_29 ⟨Nat.zero_le _, Nat.zero_le _⟩ ?_
        refine m_ifB_eq (tgt := 39) hx hb dX8_changes_32 (by decide) (fun c_32 => ?_) (fun c_32 => ?_)
        · have K9 : ¬ (nmB a && nmB b || nuB a && nuB b) = true := by first | (simp [c_11, c_32]; done) | (simp [c_18, c_32]; done)
          refine lv_iconst (v := nI 3) hx hb dX8_changes_39 (by decide) ?_
          rw [hQ]
          exact m_ird hx hb hr hlocks (by unfold scN; rw [if_neg c_2, if_neg K9]) dX8_changes_40
        · have K9 : (nmB a && nmB b || nuB a && nuB b) = true := by rw [c_25, c_32]; simp
          refine lv_iconst (v := nI 1) hx hb dX8_changes_35 (by decide) ?_
          refine lv_goto (tgt := 40) hx hb dX8_changes_36 (by decide) ?_
          rw [hQ]
          exact m_ird hx hb hr hlocks (by unfold scN; rw [if_neg c_2, if_pos K9]) dX8_changes_40
    · refine lv_iload_n hx hb dX8_changes_14 rfl (lv_at hl 1 rfl) ?_
      refine m_rdS (As := [.int (nI b)]) (rest := []) (wc := []) hcf (k_X8_isName (l := l) (D := D) (cI := cI) (cZ := cZ) (a := b) (ha := by omega)) (va_cwS 1 hts gX8_changes_X8_isName rfl rfl rfl yd_X8_isName.2 ⟨Nat.le_of_ble_eq_true rfl, Nat.le_of_ble_eq_true rfl⟩) (m_preS hK hP hD [] (by decide) rfl) rfl hl.1 rfl (Nat.le_of_ble_eq_true rfl) dX8_changes_15 ⟨Nat.zero_le _, Nat.zero_le _⟩ ?_
      refine m_ifB_ne (tgt := 35) hx hb dX8_changes_18 (by decide) (fun c_18 => ?_) (fun c_18 => ?_)
      · have K9 : (nmB a && nmB b || nuB a && nuB b) = true := by rw [c_11, c_18]; rfl
        refine lv_iconst (v := nI 1) hx hb dX8_changes_35 (by decide) ?_
        refine lv_goto (tgt := 40) hx hb dX8_changes_36 (by decide) ?_
        rw [hQ]
        exact m_ird hx hb hr hlocks (by unfold scN; rw [if_neg c_2, if_pos K9]) dX8_changes_40
      · refine lv_iload_n hx hb dX8_changes_21 rfl (lv_at hl 0 rfl) ?_
        refine m_rdS (As := [.int (nI a)]) (rest := []) (wc := []) hcf (k_X8_isNumber (l := l) (D := D) (cI := cI) (cZ := cZ) (a := a) (ha := by omega)) (va_cwS 1 hts gX8_changes_X8_isNumber rfl rfl rfl yd_X8_isNumber.2 ⟨Nat.le_of_ble_eq_true rfl, Nat.le_of_ble_eq_true rfl⟩) (m_preS hK hP hD [] (by decide) rfl) rfl hl.1 rfl (Nat.le_of_ble_eq_true rfl) dX8_changes_22 ⟨Nat.zero_le _, Nat.zero_le _⟩ ?_
        refine m_ifB_eq (tgt := 39) hx hb dX8_changes_25 (by decide) (fun c_25 => ?_) (fun c_25 => ?_)
        · have K9 : ¬ (nmB a && nmB b || nuB a && nuB b) = true := by first | (simp [c_11, c_25]; done) | (simp [c_18, c_25]; done)
          refine lv_iconst (v := nI 3) hx hb dX8_changes_39 (by decide) ?_
          rw [hQ]
          exact m_ird hx hb hr hlocks (by unfold scN; rw [if_neg c_2, if_neg K9]) dX8_changes_40
        · refine lv_iload_n hx hb dX8_changes_28 rfl (lv_at hl 1 rfl) ?_
          refine m_rdS (As := [.int (nI b)]) (rest := []) (wc := []) hcf (k_X8_isNumber (l := l) (D := D) (cI := cI) (cZ := cZ) (a := b) (ha := by omega)) (va_cwS 1 hts gX8_changes_X8_isNumber rfl rfl rfl yd_X8_isNumber.2 ⟨Nat.le_of_ble_eq_true rfl, Nat.le_of_ble_eq_true rfl⟩) (m_preS hK hP hD [] (by decide) rfl) rfl hl.1 rfl (Nat.le_of_ble_eq_true rfl) dX8_changes_29 ⟨Nat.zero_le _, Nat.zero_le _⟩ ?_
          refine m_ifB_eq (tgt := 39) hx hb dX8_changes_32 (by decide) (fun c_32 => ?_) (fun c_32 => ?_)
          · have K9 : ¬ (nmB a && nmB b || nuB a && nuB b) = true := by first | (simp [c_11, c_32]; done) | (simp [c_18, c_32]; done)
            refine lv_iconst (v := nI 3) hx hb dX8_changes_39 (by decide) ?_
            rw [hQ]
            exact m_ird hx hb hr hlocks (by unfold scN; rw [if_neg c_2, if_neg K9]) dX8_changes_40
          · have K9 : (nmB a && nmB b || nuB a && nuB b) = true := by rw [c_25, c_32]; simp
            refine lv_iconst (v := nI 1) hx hb dX8_changes_35 (by decide) ?_
            refine lv_goto (tgt := 40) hx hb dX8_changes_36 (by decide) ?_
            rw [hQ]
            exact m_ird hx hb hr hlocks (by unfold scN; rw [if_neg c_2, if_pos K9]) dX8_changes_40
  · refine lv_iconst (v := nI 0) hx hb dX8_changes_5 (by decide) ?_
    rw [hQ]
    exact m_ird hx hb hr hlocks (by unfold scN; rw [if_pos c_2]) dX8_changes_6

theorem yd_X8_farOf : yX8_farOf.cls = RX8 ∧ yX8_farOf.cls ≠ "java/lang/invoke/MethodHandle" ∧ yX8_farOf.cls ≠ "java/lang/invoke/VarHandle" ∧ (parseMethodDescriptor yX8_farOf.desc).map (fun d => d.parameters.length) = some 3 := by decide +kernel
set_option maxHeartbeats 4000000 in
set_option maxRecDepth 100000 in
theorem k_X8_farOf (l : Launch) (D : va_G) (cI cZ : ClassId) (mo ps mpa nl nv msz mcd mbe mba : Nat) (ol : Int32) (op os svn ms1 ms2 ms3 ms4 mfa mim mik : Nat) (fr z g : Nat → Nat) (v ln ot : Nat) (hz : ∀ j, z j ≤ 8) (hg : ∀ j, g j ≤ 126) (hfr : ∀ j, fr j ≤ 1000) (hv : v < 4) (h1 : ln < 20) (h2 : ot < 20) : Met l yX8_farOf wsX8_farOf ({ frames := 3, cells := 0, slots := 0, locals := 63 }) (mPc [.ref mo, .int (nI v), .int (nI ln), .int (nI ot)] D cI cZ [(mo, .inr (8, [.int (nI ps), .ref mpa, .int (nI nl), .int (nI nv), .ref msz, .ref mcd, .ref mbe, .ref mba, .int ol, .int (nI op), .int (nI os), .int (nI svn), .ref ms1, .ref ms2, .ref ms3, .ref ms4, .ref mfa, .ref mim, .ref mik])), (mfa, aN cI 9 fr), (msz, aN cI 80 z), (mcd, aN cI 640 g)]) (mQi D (mA [(mo, .inr (8, [.int (nI ps), .ref mpa, .int (nI nl), .int (nI nv), .ref msz, .ref mcd, .ref mbe, .ref mba, .int ol, .int (nI op), .int (nI os), .int (nI svn), .ref ms1, .ref ms2, .ref ms3, .ref ms4, .ref mfa, .ref mim, .ref mik])), (mfa, aN cI 9 fr), (msz, aN cI 80 z), (mcd, aN cI 640 g)]) (fun (r : Int32) (u : (Nat → Nat)) => r = nI (faN z g v ln ot) ∧ ∀ j, u j ≤ 1000) (fun (u : (Nat → Nat)) => [(mo, .inr (8, [.int (nI ps), .ref mpa, .int (nI nl), .int (nI nv), .ref msz, .ref mcd, .ref mbe, .ref mba, .int ol, .int (nI op), .int (nI os), .int (nI svn), .ref ms1, .ref ms2, .ref ms3, .ref ms4, .ref mfa, .ref mim, .ref mik])), (mfa, aN cI 9 u), (msz, aN cI 80 z), (mcd, aN cI 640 g)])) 0 0 (mA [(mo, .inr (8, [.int (nI ps), .ref mpa, .int (nI nl), .int (nI nv), .ref msz, .ref mcd, .ref mbe, .ref mba, .int ol, .int (nI op), .int (nI os), .int (nI svn), .ref ms1, .ref ms2, .ref ms3, .ref ms4, .ref mfa, .ref mim, .ref mik])), (mfa, aN cI 9 fr), (msz, aN cI 80 z), (mcd, aN cI 640 g)]) := by
  refine Met.ofW (cc := cX8_farOf) (maxL := 10) (ret := (some .int)) (by decide) rfl ?_
  intro p e s m args below meth c s₁ BB hml hv
  obtain ⟨hargs, hP, hD0, hK⟩ := hv
  have hx := BB.exec
  have hb := BB.bytes
  have hr := BB.returns
  have hts := atoms_spec (ws := wsX8_farOf) BB.pre
  have hown : s.vm.findClass RX8 = some m.cls := findClass_of_methodNamed BB.named
  have hlocks := BB.notSynchronized
  have hcf : CallFix p m c cX8_farOf 10 s args wsX8_farOf RX8 := ⟨hx, hb, hml, hown, hts⟩
  obtain ⟨A, hAe⟩ : ∃ A, A = mA [(mo, .inr (8, [.int (nI ps), .ref mpa, .int (nI nl), .int (nI nv), .ref msz, .ref mcd, .ref mbe, .ref mba, .int ol, .int (nI op), .int (nI os), .int (nI svn), .ref ms1, .ref ms2, .ref ms3, .ref ms4, .ref mfa, .ref mim, .ref mik])), (mfa, aN cI 9 fr), (msz, aN cI 80 z), (mcd, aN cI 640 g)] := ⟨_, rfl⟩
  have hD : va_D A [(mo, .inr (8, [.int (nI ps), .ref mpa, .int (nI nl), .int (nI nv), .ref msz, .ref mcd, .ref mbe, .ref mba, .int ol, .int (nI op), .int (nI os), .int (nI svn), .ref ms1, .ref ms2, .ref ms3, .ref ms4, .ref mfa, .ref mim, .ref mik])), (mfa, aN cI 9 fr), (msz, aN cI 80 z), (mcd, aN cI 640 g)] := ⟨hD0.1, fun k q h => by rw [hAe]; exact ⟨k, q.2, h⟩⟩
  have hS : va_S A s.heap s.heap [] := va_S.rf
  rw [← hAe]
  rw [hargs, lg_entry_eq, ← hargs]
  have hl := lv_entry ([.ref mo, .int (nI v), .int (nI ln), .int (nI ot)]) (n := 10) (Nat.le_of_ble_eq_true rfl)
  generalize (lg_sl ([.ref mo, .int (nI v), .int (nI ln), .int (nI ot)]) ++ List.replicate (10 - (lg_sl ([.ref mo, .int (nI v), .int (nI ln), .int (nI ot)])).length) Slot.unset).toArray = ls at hl ⊢
  have hl : lv_has ls 10 [(0, .ref mo), (1, .int (nI v)), (2, .int (nI ln)), (3, .int (nI ot))] := hl
  obtain ⟨Q, hQ⟩ : ∃ Q, Q = MQ below (mQi D A (fun (r : Int32) (u : (Nat → Nat)) => r = nI (faN z g v ln ot) ∧ ∀ j, u j ≤ 1000) (fun (u : (Nat → Nat)) => [(mo, .inr (8, [.int (nI ps), .ref mpa, .int (nI nl), .int (nI nv), .ref msz, .ref mcd, .ref mbe, .ref mba, .int ol, .int (nI op), .int (nI os), .int (nI svn), .ref ms1, .ref ms2, .ref ms3, .ref ms4, .ref mfa, .ref mim, .ref mik])), (mfa, aN cI 9 u), (msz, aN cI 80 z), (mcd, aN cI 640 g)])) args s 0 0 A := ⟨_, rfl⟩
  rw [← hQ]
  have i_X8 : ∀ w ∈ u_ws RX8 TX8 19, w ∈ wsX8_farOf := by decide +kernel
  have f_41 := hts (.fieldLink RX8 41 "SameAgainModel" "far" "[I") (by decide +kernel)
  have hz1 := hz (v * 20 + ln)
  have hz2 := hz (v * 20 + ot)
  refine lv_aload_n hx hb dX8_farOf_0 rfl (lv_at hl 0 rfl) ?_
  refine lv_iload_n hx hb dX8_farOf_1 rfl (lv_at hl 1 rfl) ?_
  refine lv_iload_n hx hb dX8_farOf_2 rfl (lv_at hl 3 rfl) ?_
  refine m_rdV (As := [.int (nI v), .int (nI ot)]) (rest := []) (wc := [(mo, .inr (8, [.int (nI ps), .ref mpa, .int (nI nl), .int (nI nv), .ref msz, .ref mcd, .ref mbe, .ref mba, .int ol, .int (nI op), .int (nI os), .int (nI svn), .ref ms1, .ref ms2, .ref ms3, .ref ms4, .ref mfa, .ref mim, .ref mik])), (msz, aN cI 80 z)]) hcf (k_X8_size (l := l) (D := D) (cI := cI) (cZ := cZ) (v := v) (ln := ot) (mo := mo) (ps := ps) (mpa := mpa) (nl := nl) (nv := nv) (msz := msz) (mcd := mcd) (mbe := mbe) (mba := mba) (ol := ol) (op := op) (os := os) (svn := svn) (ms1 := ms1) (ms2 := ms2) (ms3 := ms3) (ms4 := ms4) (mfa := mfa) (mim := mim) (mik := mik) (z := z) (hv := hv) (hln := h2)) (cwV 2 hts gX8_farOf_X8_size rfl rfl rfl yd_X8_size ⟨Nat.le_of_ble_eq_true rfl, Nat.le_of_ble_eq_true rfl⟩) (m_preV hK hP hD [0, 2] (by decide) rfl rfl rfl) rfl hl.1 rfl (Nat.le_of_ble_eq_true rfl) dX8_farOf_3 ⟨Nat.zero_le _, Nat.zero_le _⟩ ?_
  refine lv_istore (lv' := [(4, .int (nI (z (v * 20 + ot)))), (0, .ref mo), (1, .int (nI v)), (2, .int (nI ln)), (3, .int (nI ot))]) hx hb dX8_farOf_6 hl (by decide) rfl (fun ls hl => ?_)
  refine lv_iconst (v := nI 0) hx hb dX8_farOf_8 (by decide) ?_
  refine lv_istore (lv' := [(5, .int (nI 0)), (4, .int (nI (z (v * 20 + ot)))), (0, .ref mo), (1, .int (nI v)), (2, .int (nI ln)), (3, .int (nI ot))]) hx hb dX8_farOf_9 hl (by decide) rfl (fun ls hl => ?_)
  have loop_11 : ∀ (fu : Nat) (k : Nat) (f1 : Nat → Nat) (hfu : (z (v * 20 + ot)) + 1 - k < fu)  (hk : k ≤ (z (v * 20 + ot)) + 1) (hf1 : ∀ q, f1 q ≤ 1000) (hA1 : ∀ q, q < k → f1 q = 2 * q) (H : Heap) (locs : List Loc) (hP : va_P D vwCl [(mo, .inr (8, [.int (nI ps), .ref mpa, .int (nI nl), .int (nI nv), .ref msz, .ref mcd, .ref mbe, .ref mba, .int ol, .int (nI op), .int (nI os), .int (nI svn), .ref ms1, .ref ms2, .ref ms3, .ref ms4, .ref mfa, .ref mim, .ref mik])), (mfa, aN cI 9 f1), (msz, aN cI 80 z), (mcd, aN cI 640 g)] H) (hD : va_D A [(mo, .inr (8, [.int (nI ps), .ref mpa, .int (nI nl), .int (nI nv), .ref msz, .ref mcd, .ref mbe, .ref mba, .int ol, .int (nI op), .int (nI os), .int (nI svn), .ref ms1, .ref ms2, .ref ms3, .ref ms4, .ref mfa, .ref mim, .ref mik])), (mfa, aN cI 9 f1), (msz, aN cI 80 z), (mcd, aN cI 640 g)]) (hS : va_S A s.heap H locs) (ls : Array Slot) (hl : lv_has ls 10 [(0, .ref mo), (1, .int (nI v)), (2, .int (nI ln)), (3, .int (nI ot)), (4, .int (nI (z (v * 20 + ot)))), (5, .int (nI k))]), W p l e (headSpec wsX8_farOf { frames := 3, cells := 0, slots := 0, locals := 63 }).room s m args below meth c H locs 0 0 Q (F0 m 11 ls []) := by
    intro fu
    induction fu with
    | zero => intro k f1 hfu; exact absurd hfu (Nat.not_lt_zero _)
    | succ fu ih_11 =>
      intro k f1 hfu hk hf1 hA1 H locs hP hD hS ls hl
      refine lv_iload hx hb dX8_farOf_11 (lv_at hl 5 rfl) ?_
      refine lv_iload hx hb dX8_farOf_13 (lv_at hl 4 rfl) ?_
      refine m_cmp_gt (tgt := 35) hx hb dX8_farOf_15 (by decide) (by omega) (by omega) (fun c_15 => ?_) (fun c_15 => ?_)
      · refine lv_iconst (v := nI 1) hx hb dX8_farOf_35 (by decide) ?_
        refine lv_istore (lv' := [(5, .int (nI 1)), (0, .ref mo), (1, .int (nI v)), (2, .int (nI ln)), (3, .int (nI ot)), (4, .int (nI (z (v * 20 + ot))))]) hx hb dX8_farOf_36 hl (by decide) rfl (fun ls hl => ?_)
        have loop_38 : ∀ (fu : Nat) (i : Nat) (f2 : Nat → Nat) (hfu : (z (v * 20 + ln)) + 1 - (i + 1) < fu)  (hi : i ≤ (z (v * 20 + ln))) (hf2 : ∀ q, f2 q ≤ 1000) (hO : ∀ q, q ≤ (z (v * 20 + ot)) → f2 q = dsN (sgN z g (v * 20 + ln)) (sgN z g (v * 20 + ot)) i q) (H : Heap) (locs : List Loc) (hP : va_P D vwCl [(mo, .inr (8, [.int (nI ps), .ref mpa, .int (nI nl), .int (nI nv), .ref msz, .ref mcd, .ref mbe, .ref mba, .int ol, .int (nI op), .int (nI os), .int (nI svn), .ref ms1, .ref ms2, .ref ms3, .ref ms4, .ref mfa, .ref mim, .ref mik])), (mfa, aN cI 9 f2), (msz, aN cI 80 z), (mcd, aN cI 640 g)] H) (hD : va_D A [(mo, .inr (8, [.int (nI ps), .ref mpa, .int (nI nl), .int (nI nv), .ref msz, .ref mcd, .ref mbe, .ref mba, .int ol, .int (nI op), .int (nI os), .int (nI svn), .ref ms1, .ref ms2, .ref ms3, .ref ms4, .ref mfa, .ref mim, .ref mik])), (mfa, aN cI 9 f2), (msz, aN cI 80 z), (mcd, aN cI 640 g)]) (hS : va_S A s.heap H locs) (ls : Array Slot) (hl : lv_has ls 10 [(0, .ref mo), (1, .int (nI v)), (2, .int (nI ln)), (3, .int (nI ot)), (4, .int (nI (z (v * 20 + ot)))), (5, .int (nI (i + 1)))]), W p l e (headSpec wsX8_farOf { frames := 3, cells := 0, slots := 0, locals := 63 }).room s m args below meth c H locs 0 0 Q (F0 m 38 ls []) := by
          intro fu
          induction fu with
          | zero => intro i f2 hfu; exact absurd hfu (Nat.not_lt_zero _)
          | succ fu ih_38 =>
            intro i f2 hfu hi hf2 hO H locs hP hD hS ls hl
            refine lv_iload hx hb dX8_farOf_38 (lv_at hl 5 rfl) ?_
            refine lv_aload_n hx hb dX8_farOf_40 rfl (lv_at hl 0 rfl) ?_
            refine lv_iload_n hx hb dX8_farOf_41 rfl (lv_at hl 1 rfl) ?_
            refine lv_iload_n hx hb dX8_farOf_42 rfl (lv_at hl 2 rfl) ?_
            refine m_rdV (As := [.int (nI v), .int (nI ln)]) (rest := [.int (nI (i + 1))]) (wc := [(mo, .inr (8, [.int (nI ps), .ref mpa, .int (nI nl), .int (nI nv), .ref msz, .ref mcd, .ref mbe, .ref mba, .int ol, .int (nI op), .int (nI os), .int (nI svn), .ref ms1, .ref ms2, .ref ms3, .ref ms4, .ref mfa, .ref mim, .ref mik])), (msz, aN cI 80 z)]) hcf (k_X8_size (l := l) (D := D) (cI := cI) (cZ := cZ) (v := v) (ln := ln) (mo := mo) (ps := ps) (mpa := mpa) (nl := nl) (nv := nv) (msz := msz) (mcd := mcd) (mbe := mbe) (mba := mba) (ol := ol) (op := op) (os := os) (svn := svn) (ms1 := ms1) (ms2 := ms2) (ms3 := ms3) (ms4 := ms4) (mfa := mfa) (mim := mim) (mik := mik) (z := z) (hv := hv) (hln := h1)) (cwV 2 hts gX8_farOf_X8_size rfl rfl rfl yd_X8_size ⟨Nat.le_of_ble_eq_true rfl, Nat.le_of_ble_eq_true rfl⟩) (m_preV hK hP hD [0, 2] (by decide) rfl rfl rfl) rfl hl.1 rfl (Nat.le_of_ble_eq_true rfl) dX8_farOf_43 ⟨Nat.zero_le _, Nat.zero_le _⟩ ?_
            refine m_cmp_gt (tgt := 189) hx hb dX8_farOf_46 (by decide) (by omega) (by omega) (fun c_46 => ?_) (fun c_46 => ?_)
            · refine lv_aload_n hx hb dX8_farOf_189 rfl (lv_at hl 0 rfl) ?_
              refine va_get (D := D) (ci := 8) (v := .ref mfa) (C := RX8) (T := TX8) (N := 19) hx hb hts i_X8 hown hK.1 hP 0 rfl rfl 16 (by decide) f_41 (fun _ h9 => h9) rfl dX8_farOf_190 ?_
              refine lv_iload hx hb dX8_farOf_193 (lv_at hl 4 rfl) ?_
              refine m_ald hx hb hK hP 1 rfl (by decide) (by omega) dX8_farOf_195 ?_
              rw [hQ]
              have e9 : i = (z (v * 20 + ln)) := by omega
              exact m_iwr hx hb hr hlocks f2 (⟨by rw [hO _ (Nat.le_refl _), e9]; rfl, hf2⟩) hP hS dX8_farOf_196
            · refine lv_aload_n hx hb dX8_farOf_49 rfl (lv_at hl 0 rfl) ?_
              refine va_get (D := D) (ci := 8) (v := .ref mfa) (C := RX8) (T := TX8) (N := 19) hx hb hts i_X8 hown hK.1 hP 0 rfl rfl 16 (by decide) f_41 (fun _ h9 => h9) rfl dX8_farOf_50 ?_
              refine lv_iconst (v := nI 0) hx hb dX8_farOf_53 (by decide) ?_
              refine m_ald hx hb hK hP 1 rfl (by decide) (by omega) dX8_farOf_54 ?_
              refine m_top (y := nI (dsN (sgN z g (v * 20 + ln)) (sgN z g (v * 20 + ot)) i 0)) (by rw [hO 0 (Nat.zero_le _)]) ?_
              refine lv_istore (lv' := [(6, .int (nI (dsN (sgN z g (v * 20 + ln)) (sgN z g (v * 20 + ot)) i 0))), (0, .ref mo), (1, .int (nI v)), (2, .int (nI ln)), (3, .int (nI ot)), (4, .int (nI (z (v * 20 + ot)))), (5, .int (nI (i + 1)))]) hx hb dX8_farOf_55 hl (by decide) rfl (fun ls hl => ?_)
              refine lv_aload_n hx hb dX8_farOf_57 rfl (lv_at hl 1 rfl) ?_
              refine va_get (D := D) (ci := 8) (v := .ref mfa) (C := RX8) (T := TX8) (N := 19) hx hb hts i_X8 hown hK.1 hP 0 rfl rfl 16 (by decide) f_41 (fun _ h9 => h9) rfl dX8_farOf_58 ?_
              refine lv_iconst (v := nI 0) hx hb dX8_farOf_61 (by decide) ?_
              refine lv_iconst (v := nI 2) hx hb dX8_farOf_62 (by decide) ?_
              refine lv_iload hx hb dX8_farOf_63 (lv_at hl 6 rfl) ?_
              refine m_mul hx hb dX8_farOf_65 ?_
              refine m_ast hx hb hK hP hD hS 1 rfl (by decide) (by omega) dX8_farOf_66 (ws' := [(mo, .inr (8, [.int (nI ps), .ref mpa, .int (nI nl), .int (nI nv), .ref msz, .ref mcd, .ref mbe, .ref mba, .int ol, .int (nI op), .int (nI os), .int (nI svn), .ref ms1, .ref ms2, .ref ms3, .ref ms4, .ref mfa, .ref mim, .ref mik])), (mfa, aN cI 9 (upN f2 0 (2 * (i + 1)))), (msz, aN cI 80 z), (mcd, aN cI 640 g)]) rfl (fun H locs hP hD hS => ?_)
              refine lv_iconst (v := nI 1) hx hb dX8_farOf_67 (by decide) ?_
              refine lv_istore (lv' := [(7, .int (nI 1)), (6, .int (nI (dsN (sgN z g (v * 20 + ln)) (sgN z g (v * 20 + ot)) i 0))), (0, .ref mo), (1, .int (nI v)), (2, .int (nI ln)), (3, .int (nI ot)), (4, .int (nI (z (v * 20 + ot)))), (5, .int (nI (i + 1)))]) hx hb dX8_farOf_68 hl (by decide) rfl (fun ls hl => ?_)
              have loop_70 : ∀ (fu : Nat) (j : Nat) (f3 : Nat → Nat) (hfu : (z (v * 20 + ot)) + 1 - (j + 1) < fu)  (hj : j ≤ (z (v * 20 + ot))) (hF : frP (sgN z g (v * 20 + ln)) (sgN z g (v * 20 + ot)) (z (v * 20 + ot)) i j f3) (H : Heap) (locs : List Loc) (hP : va_P D vwCl [(mo, .inr (8, [.int (nI ps), .ref mpa, .int (nI nl), .int (nI nv), .ref msz, .ref mcd, .ref mbe, .ref mba, .int ol, .int (nI op), .int (nI os), .int (nI svn), .ref ms1, .ref ms2, .ref ms3, .ref ms4, .ref mfa, .ref mim, .ref mik])), (mfa, aN cI 9 f3), (msz, aN cI 80 z), (mcd, aN cI 640 g)] H) (hD : va_D A [(mo, .inr (8, [.int (nI ps), .ref mpa, .int (nI nl), .int (nI nv), .ref msz, .ref mcd, .ref mbe, .ref mba, .int ol, .int (nI op), .int (nI os), .int (nI svn), .ref ms1, .ref ms2, .ref ms3, .ref ms4, .ref mfa, .ref mim, .ref mik])), (mfa, aN cI 9 f3), (msz, aN cI 80 z), (mcd, aN cI 640 g)]) (hS : va_S A s.heap H locs) (ls : Array Slot) (hl : lv_has ls 10 [(0, .ref mo), (1, .int (nI v)), (2, .int (nI ln)), (3, .int (nI ot)), (4, .int (nI (z (v * 20 + ot)))), (5, .int (nI (i + 1))), (6, .int (nI (dsN (sgN z g (v * 20 + ln)) (sgN z g (v * 20 + ot)) i j))), (7, .int (nI (j + 1)))]), W p l e (headSpec wsX8_farOf { frames := 3, cells := 0, slots := 0, locals := 63 }).room s m args below meth c H locs 0 0 Q (F0 m 70 ls []) := by
                intro fu
                induction fu with
                | zero => intro j f3 hfu; exact absurd hfu (Nat.not_lt_zero _)
                | succ fu ih_70 =>
                  intro j f3 hfu hj hF H locs hP hD hS ls hl
                  refine lv_iload hx hb dX8_farOf_70 (lv_at hl 7 rfl) ?_
                  refine lv_iload hx hb dX8_farOf_72 (lv_at hl 4 rfl) ?_
                  refine m_cmp_gt (tgt := 183) hx hb dX8_farOf_74 (by decide) (by omega) (by omega) (fun c_74 => ?_) (fun c_74 => ?_)
                  · refine lv_iinc (v := nI (i + 1 + 1)) (lv' := [(5, .int (nI (i + 1 + 1))), (0, .ref mo), (1, .int (nI v)), (2, .int (nI ln)), (3, .int (nI ot)), (4, .int (nI (z (v * 20 + ot)))), (6, .int (nI (dsN (sgN z g (v * 20 + ln)) (sgN z g (v * 20 + ot)) i j))), (7, .int (nI (j + 1)))]) hx hb dX8_farOf_183 hl (k := 5) rfl ((nI_succ _).symm) (by decide) rfl (fun ls hl => ?_)
                    refine lv_goto (tgt := 38) hx hb dX8_farOf_186 (by decide) ?_
                    exact ih_38 (i + 1) f3 (by omega) (by omega) hF.2.2 (fun q hq => hF.1 q (by omega)) _ _ hP hD hS ls (lv_sub hl [1, 2, 3, 4, 5, 0] rfl)
                  · refine lv_aload_n hx hb dX8_farOf_77 rfl (lv_at hl 0 rfl) ?_
                    refine va_get (D := D) (ci := 8) (v := .ref mfa) (C := RX8) (T := TX8) (N := 19) hx hb hts i_X8 hown hK.1 hP 0 rfl rfl 16 (by decide) f_41 (fun _ h9 => h9) rfl dX8_farOf_78 ?_
                    refine lv_iload hx hb dX8_farOf_81 (lv_at hl 7 rfl) ?_
                    refine m_ald hx hb hK hP 1 rfl (by decide) (by omega) dX8_farOf_83 ?_
                    refine m_top (y := nI (dsN (sgN z g (v * 20 + ln)) (sgN z g (v * 20 + ot)) i (j + 1))) (by rw [hF.2.1 (j + 1) (by omega) (by omega)]) ?_
                    refine lv_istore (lv' := [(8, .int (nI (dsN (sgN z g (v * 20 + ln)) (sgN z g (v * 20 + ot)) i (j + 1)))), (0, .ref mo), (1, .int (nI v)), (2, .int (nI ln)), (3, .int (nI ot)), (4, .int (nI (z (v * 20 + ot)))), (5, .int (nI (i + 1))), (6, .int (nI (dsN (sgN z g (v * 20 + ln)) (sgN z g (v * 20 + ot)) i j))), (7, .int (nI (j + 1)))]) hx hb dX8_farOf_84 hl (by decide) rfl (fun ls hl => ?_)
                    refine lv_iload hx hb dX8_farOf_86 (lv_at hl 7 rfl) ?_
                    refine lv_aload_n hx hb dX8_farOf_88 rfl (lv_at hl 1 rfl) ?_
                    refine lv_iload_n hx hb dX8_farOf_89 rfl (lv_at hl 2 rfl) ?_
                    refine lv_iload_n hx hb dX8_farOf_90 rfl (lv_at hl 3 rfl) ?_
                    refine lv_iload hx hb dX8_farOf_91 (lv_at hl 6 rfl) ?_
                    refine lv_iconst (v := nI 1) hx hb dX8_farOf_93 (by decide) ?_
                    refine m_sub hx hb (by omega) dX8_farOf_94 ?_
                    refine m_rdV (As := [.int (nI v), .int (nI ln), .int (nI ((i + 1) - 1))]) (rest := [.int (nI (dsN (sgN z g (v * 20 + ln)) (sgN z g (v * 20 + ot)) i j))]) (wc := [(mo, .inr (8, [.int (nI ps), .ref mpa, .int (nI nl), .int (nI nv), .ref msz, .ref mcd, .ref mbe, .ref mba, .int ol, .int (nI op), .int (nI os), .int (nI svn), .ref ms1, .ref ms2, .ref ms3, .ref ms4, .ref mfa, .ref mim, .ref mik])), (mcd, aN cI 640 g)]) hcf (k_X8_signAt (l := l) (D := D) (cI := cI) (cZ := cZ) (v := v) (ln := ln) (k := (i + 1) - 1) (mo := mo) (ps := ps) (mpa := mpa) (nl := nl) (nv := nv) (msz := msz) (mcd := mcd) (mbe := mbe) (mba := mba) (ol := ol) (op := op) (os := os) (svn := svn) (ms1 := ms1) (ms2 := ms2) (ms3 := ms3) (ms4 := ms4) (mfa := mfa) (mim := mim) (mik := mik) (g := g) (hv := hv) (hln := h1) (hk := by omega)) (cwV 3 hts gX8_farOf_X8_signAt rfl rfl rfl yd_X8_signAt ⟨Nat.le_of_ble_eq_true rfl, Nat.le_of_ble_eq_true rfl⟩) (m_preV hK hP hD [0, 3] (by decide) rfl rfl rfl) rfl hl.1 rfl (Nat.le_of_ble_eq_true rfl) dX8_farOf_95 ⟨Nat.zero_le _, Nat.zero_le _⟩ ?_
                    refine m_top (y := nI (sgN z g (v * 20 + ln) i)) (by rw [Nat.add_sub_cancel, sgN_g (z := z) (g := g) (show i < z (v * 20 + ln) by omega)]) ?_
                    refine lv_aload_n hx hb dX8_farOf_98 rfl (lv_at hl 1 rfl) ?_
                    refine lv_iload_n hx hb dX8_farOf_99 rfl (lv_at hl 2 rfl) ?_
                    refine lv_iload_n hx hb dX8_farOf_100 rfl (lv_at hl 4 rfl) ?_
                    refine lv_iload hx hb dX8_farOf_101 (lv_at hl 8 rfl) ?_
                    refine lv_iconst (v := nI 1) hx hb dX8_farOf_103 (by decide) ?_
                    refine m_sub hx hb (by omega) dX8_farOf_104 ?_
                    refine m_rdV (As := [.int (nI v), .int (nI ot), .int (nI ((j + 1) - 1))]) (rest := [.int (nI (sgN z g (v * 20 + ln) i)), .int (nI (dsN (sgN z g (v * 20 + ln)) (sgN z g (v * 20 + ot)) i j))]) (wc := [(mo, .inr (8, [.int (nI ps), .ref mpa, .int (nI nl), .int (nI nv), .ref msz, .ref mcd, .ref mbe, .ref mba, .int ol, .int (nI op), .int (nI os), .int (nI svn), .ref ms1, .ref ms2, .ref ms3, .ref ms4, .ref mfa, .ref mim, .ref mik])), (mcd, aN cI 640 g)]) hcf (k_X8_signAt (l := l) (D := D) (cI := cI) (cZ := cZ) (v := v) (ln := ot) (k := (j + 1) - 1) (mo := mo) (ps := ps) (mpa := mpa) (nl := nl) (nv := nv) (msz := msz) (mcd := mcd) (mbe := mbe) (mba := mba) (ol := ol) (op := op) (os := os) (svn := svn) (ms1 := ms1) (ms2 := ms2) (ms3 := ms3) (ms4 := ms4) (mfa := mfa) (mim := mim) (mik := mik) (g := g) (hv := hv) (hln := h2) (hk := by omega)) (cwV 3 hts gX8_farOf_X8_signAt rfl rfl rfl yd_X8_signAt ⟨Nat.le_of_ble_eq_true rfl, Nat.le_of_ble_eq_true rfl⟩) (m_preV hK hP hD [0, 3] (by decide) rfl rfl rfl) rfl hl.1 rfl (Nat.le_of_ble_eq_true rfl) dX8_farOf_105 ⟨Nat.zero_le _, Nat.zero_le _⟩ ?_
                    refine m_top (y := nI (sgN z g (v * 20 + ot) j)) (by rw [Nat.add_sub_cancel, sgN_g (z := z) (g := g) (show j < z (v * 20 + ot) by omega)]) ?_
                    refine m_rdS (As := [.int (nI (sgN z g (v * 20 + ln) i)), .int (nI (sgN z g (v * 20 + ot) j))]) (rest := [.int (nI (dsN (sgN z g (v * 20 + ln)) (sgN z g (v * 20 + ot)) i j))]) (wc := []) hcf (k_X8_changes (l := l) (D := D) (cI := cI) (cZ := cZ) (a := sgN z g (v * 20 + ln) i) (b := sgN z g (v * 20 + ot) j) (ha := sgN_le hg _ _) (hb2 := sgN_le hg _ _)) (va_cwS 2 hts gX8_farOf_X8_changes rfl rfl rfl yd_X8_changes.2 ⟨Nat.le_of_ble_eq_true rfl, Nat.le_of_ble_eq_true rfl⟩) (m_preS hK hP hD [] (by decide) rfl) rfl hl.1 rfl (Nat.le_of_ble_eq_true rfl) dX8_farOf_108 ⟨Nat.zero_le _, Nat.zero_le _⟩ ?_
                    have b1 := dsN_le (sgN z g (v * 20 + ln)) (sgN z g (v * 20 + ot)) i j
                    have b2 := dsN_le (sgN z g (v * 20 + ln)) (sgN z g (v * 20 + ot)) (i + 1) j
                    have b3 := dsN_le (sgN z g (v * 20 + ln)) (sgN z g (v * 20 + ot)) i (j + 1)
                    have b4 := scN_le ((sgN z g (v * 20 + ln)) i) ((sgN z g (v * 20 + ot)) j)
                    refine m_add hx hb dX8_farOf_111 ?_
                    refine lv_istore (lv' := [(9, .int (nI ((dsN (sgN z g (v * 20 + ln)) (sgN z g (v * 20 + ot)) i j) + (scN (sgN z g (v * 20 + ln) i) (sgN z g (v * 20 + ot) j))))), (8, .int (nI (dsN (sgN z g (v * 20 + ln)) (sgN z g (v * 20 + ot)) i (j + 1)))), (0, .ref mo), (1, .int (nI v)), (2, .int (nI ln)), (3, .int (nI ot)), (4, .int (nI (z (v * 20 + ot)))), (5, .int (nI (i + 1))), (6, .int (nI (dsN (sgN z g (v * 20 + ln)) (sgN z g (v * 20 + ot)) i j))), (7, .int (nI (j + 1)))]) hx hb dX8_farOf_112 hl (by decide) rfl (fun ls hl => ?_)
                    refine lv_iload hx hb dX8_farOf_114 (lv_at hl 1 rfl) ?_
                    refine lv_iconst (v := nI 2) hx hb dX8_farOf_116 (by decide) ?_
                    refine m_add hx hb dX8_farOf_117 ?_
                    refine lv_iload hx hb dX8_farOf_118 (lv_at hl 0 rfl) ?_
                    refine m_cmp_ge (tgt := 130) hx hb dX8_farOf_120 (by decide) (by omega) (by omega) (fun c_120 => ?_) (fun c_120 => ?_)
                    · refine lv_iload hx hb dX8_farOf_130 (lv_at hl 0 rfl) ?_
                      refine lv_istore (lv' := [(9, .int (nI ((dsN (sgN z g (v * 20 + ln)) (sgN z g (v * 20 + ot)) i j) + (scN (sgN z g (v * 20 + ln) i) (sgN z g (v * 20 + ot) j))))), (8, .int (nI (dsN (sgN z g (v * 20 + ln)) (sgN z g (v * 20 + ot)) i (j + 1)))), (0, .ref mo), (1, .int (nI v)), (2, .int (nI ln)), (3, .int (nI ot)), (4, .int (nI (z (v * 20 + ot)))), (5, .int (nI (i + 1))), (6, .int (nI (dsN (sgN z g (v * 20 + ln)) (sgN z g (v * 20 + ot)) i j))), (7, .int (nI (j + 1)))]) hx hb dX8_farOf_132 hl (by decide) rfl (fun ls hl => ?_)
                      refine lv_aload_n hx hb dX8_farOf_134 rfl (lv_at hl 2 rfl) ?_
                      refine va_get (D := D) (ci := 8) (v := .ref mfa) (C := RX8) (T := TX8) (N := 19) hx hb hts i_X8 hown hK.1 hP 0 rfl rfl 16 (by decide) f_41 (fun _ h9 => h9) rfl dX8_farOf_135 ?_
                      refine lv_iload hx hb dX8_farOf_138 (lv_at hl 9 rfl) ?_
                      refine lv_aload_n hx hb dX8_farOf_140 rfl (lv_at hl 2 rfl) ?_
                      refine va_get (D := D) (ci := 8) (v := .ref mfa) (C := RX8) (T := TX8) (N := 19) hx hb hts i_X8 hown hK.1 hP 0 rfl rfl 16 (by decide) f_41 (fun _ h9 => h9) rfl dX8_farOf_141 ?_
                      refine lv_iload hx hb dX8_farOf_144 (lv_at hl 9 rfl) ?_
                      refine lv_iconst (v := nI 1) hx hb dX8_farOf_146 (by decide) ?_
                      refine m_sub hx hb (by omega) dX8_farOf_147 ?_
                      refine m_ald hx hb hK hP 1 rfl (by decide) (by omega) dX8_farOf_148 ?_
                      refine m_top (y := nI (dsN (sgN z g (v * 20 + ln)) (sgN z g (v * 20 + ot)) (i + 1) j)) (by rw [Nat.add_sub_cancel, hF.1 j (by omega)]) ?_
                      refine lv_iconst (v := nI 2) hx hb dX8_farOf_149 (by decide) ?_
                      refine m_add hx hb dX8_farOf_150 ?_
                      refine lv_iload hx hb dX8_farOf_151 (lv_at hl 0 rfl) ?_
                      refine m_cmp_ge (tgt := 170) hx hb dX8_farOf_153 (by decide) (by omega) (by omega) (fun c_153 => ?_) (fun c_153 => ?_)
                      · refine lv_iload hx hb dX8_farOf_170 (lv_at hl 0 rfl) ?_
                        refine m_ast hx hb hK hP hD hS 1 rfl (by decide) (by omega) dX8_farOf_172 (ws' := [(mo, .inr (8, [.int (nI ps), .ref mpa, .int (nI nl), .int (nI nv), .ref msz, .ref mcd, .ref mbe, .ref mba, .int ol, .int (nI op), .int (nI os), .int (nI svn), .ref ms1, .ref ms2, .ref ms3, .ref ms4, .ref mfa, .ref mim, .ref mik])), (mfa, aN cI 9 (upN f3 (j + 1) ((dsN (sgN z g (v * 20 + ln)) (sgN z g (v * 20 + ot)) i j) + (scN (sgN z g (v * 20 + ln) i) (sgN z g (v * 20 + ot) j))))), (msz, aN cI 80 z), (mcd, aN cI 640 g)]) rfl (fun H locs hP hD hS => ?_)
                        refine lv_iload hx hb dX8_farOf_173 (lv_at hl 1 rfl) ?_
                        refine lv_istore (lv' := [(6, .int (nI (dsN (sgN z g (v * 20 + ln)) (sgN z g (v * 20 + ot)) i (j + 1)))), (9, .int (nI ((dsN (sgN z g (v * 20 + ln)) (sgN z g (v * 20 + ot)) i j) + (scN (sgN z g (v * 20 + ln) i) (sgN z g (v * 20 + ot) j))))), (8, .int (nI (dsN (sgN z g (v * 20 + ln)) (sgN z g (v * 20 + ot)) i (j + 1)))), (0, .ref mo), (1, .int (nI v)), (2, .int (nI ln)), (3, .int (nI ot)), (4, .int (nI (z (v * 20 + ot)))), (5, .int (nI (i + 1))), (7, .int (nI (j + 1)))]) hx hb dX8_farOf_175 hl (by decide) rfl (fun ls hl => ?_)
                        refine lv_iinc (v := nI (j + 1 + 1)) (lv' := [(7, .int (nI (j + 1 + 1))), (6, .int (nI (dsN (sgN z g (v * 20 + ln)) (sgN z g (v * 20 + ot)) i (j + 1)))), (9, .int (nI ((dsN (sgN z g (v * 20 + ln)) (sgN z g (v * 20 + ot)) i j) + (scN (sgN z g (v * 20 + ln) i) (sgN z g (v * 20 + ot) j))))), (8, .int (nI (dsN (sgN z g (v * 20 + ln)) (sgN z g (v * 20 + ot)) i (j + 1)))), (0, .ref mo), (1, .int (nI v)), (2, .int (nI ln)), (3, .int (nI ot)), (4, .int (nI (z (v * 20 + ot)))), (5, .int (nI (i + 1)))]) hx hb dX8_farOf_177 hl (k := 9) rfl ((nI_succ _).symm) (by decide) rfl (fun ls hl => ?_)
                        refine lv_goto (tgt := 70) hx hb dX8_farOf_180 (by decide) ?_
                        exact ih_70 (j + 1) _ (by omega) (by omega) (frP_s (by omega) (by omega) hF (by rw [dsN_s]; omega)) _ _ hP hD hS ls (lv_sub hl [4, 5, 6, 7, 8, 9, 1, 0] rfl)
                      · refine lv_aload_n hx hb dX8_farOf_156 rfl (lv_at hl 2 rfl) ?_
                        refine va_get (D := D) (ci := 8) (v := .ref mfa) (C := RX8) (T := TX8) (N := 19) hx hb hts i_X8 hown hK.1 hP 0 rfl rfl 16 (by decide) f_41 (fun _ h9 => h9) rfl dX8_farOf_157 ?_
                        refine lv_iload hx hb dX8_farOf_160 (lv_at hl 9 rfl) ?_
                        refine lv_iconst (v := nI 1) hx hb dX8_farOf_162 (by decide) ?_
                        refine m_sub hx hb (by omega) dX8_farOf_163 ?_
                        refine m_ald hx hb hK hP 1 rfl (by decide) (by omega) dX8_farOf_164 ?_
                        refine m_top (y := nI (dsN (sgN z g (v * 20 + ln)) (sgN z g (v * 20 + ot)) (i + 1) j)) (by rw [Nat.add_sub_cancel, hF.1 j (by omega)]) ?_
                        refine lv_iconst (v := nI 2) hx hb dX8_farOf_165 (by decide) ?_
                        refine m_add hx hb dX8_farOf_166 ?_
                        refine lv_goto (tgt := 172) hx hb dX8_farOf_167 (by decide) ?_
                        refine m_ast hx hb hK hP hD hS 1 rfl (by decide) (by omega) dX8_farOf_172 (ws' := [(mo, .inr (8, [.int (nI ps), .ref mpa, .int (nI nl), .int (nI nv), .ref msz, .ref mcd, .ref mbe, .ref mba, .int ol, .int (nI op), .int (nI os), .int (nI svn), .ref ms1, .ref ms2, .ref ms3, .ref ms4, .ref mfa, .ref mim, .ref mik])), (mfa, aN cI 9 (upN f3 (j + 1) ((dsN (sgN z g (v * 20 + ln)) (sgN z g (v * 20 + ot)) (i + 1) j) + 2))), (msz, aN cI 80 z), (mcd, aN cI 640 g)]) rfl (fun H locs hP hD hS => ?_)
                        refine lv_iload hx hb dX8_farOf_173 (lv_at hl 1 rfl) ?_
                        refine lv_istore (lv' := [(6, .int (nI (dsN (sgN z g (v * 20 + ln)) (sgN z g (v * 20 + ot)) i (j + 1)))), (9, .int (nI ((dsN (sgN z g (v * 20 + ln)) (sgN z g (v * 20 + ot)) i j) + (scN (sgN z g (v * 20 + ln) i) (sgN z g (v * 20 + ot) j))))), (8, .int (nI (dsN (sgN z g (v * 20 + ln)) (sgN z g (v * 20 + ot)) i (j + 1)))), (0, .ref mo), (1, .int (nI v)), (2, .int (nI ln)), (3, .int (nI ot)), (4, .int (nI (z (v * 20 + ot)))), (5, .int (nI (i + 1))), (7, .int (nI (j + 1)))]) hx hb dX8_farOf_175 hl (by decide) rfl (fun ls hl => ?_)
                        refine lv_iinc (v := nI (j + 1 + 1)) (lv' := [(7, .int (nI (j + 1 + 1))), (6, .int (nI (dsN (sgN z g (v * 20 + ln)) (sgN z g (v * 20 + ot)) i (j + 1)))), (9, .int (nI ((dsN (sgN z g (v * 20 + ln)) (sgN z g (v * 20 + ot)) i j) + (scN (sgN z g (v * 20 + ln) i) (sgN z g (v * 20 + ot) j))))), (8, .int (nI (dsN (sgN z g (v * 20 + ln)) (sgN z g (v * 20 + ot)) i (j + 1)))), (0, .ref mo), (1, .int (nI v)), (2, .int (nI ln)), (3, .int (nI ot)), (4, .int (nI (z (v * 20 + ot)))), (5, .int (nI (i + 1)))]) hx hb dX8_farOf_177 hl (k := 9) rfl ((nI_succ _).symm) (by decide) rfl (fun ls hl => ?_)
                        refine lv_goto (tgt := 70) hx hb dX8_farOf_180 (by decide) ?_
                        exact ih_70 (j + 1) _ (by omega) (by omega) (frP_s (by omega) (by omega) hF (by rw [dsN_s]; omega)) _ _ hP hD hS ls (lv_sub hl [4, 5, 6, 7, 8, 9, 1, 0] rfl)
                    · refine lv_iload hx hb dX8_farOf_123 (lv_at hl 1 rfl) ?_
                      refine lv_iconst (v := nI 2) hx hb dX8_farOf_125 (by decide) ?_
                      refine m_add hx hb dX8_farOf_126 ?_
                      refine lv_goto (tgt := 132) hx hb dX8_farOf_127 (by decide) ?_
                      refine lv_istore (lv' := [(9, .int (nI ((dsN (sgN z g (v * 20 + ln)) (sgN z g (v * 20 + ot)) i (j + 1)) + 2))), (8, .int (nI (dsN (sgN z g (v * 20 + ln)) (sgN z g (v * 20 + ot)) i (j + 1)))), (0, .ref mo), (1, .int (nI v)), (2, .int (nI ln)), (3, .int (nI ot)), (4, .int (nI (z (v * 20 + ot)))), (5, .int (nI (i + 1))), (6, .int (nI (dsN (sgN z g (v * 20 + ln)) (sgN z g (v * 20 + ot)) i j))), (7, .int (nI (j + 1)))]) hx hb dX8_farOf_132 hl (by decide) rfl (fun ls hl => ?_)
                      refine lv_aload_n hx hb dX8_farOf_134 rfl (lv_at hl 2 rfl) ?_
                      refine va_get (D := D) (ci := 8) (v := .ref mfa) (C := RX8) (T := TX8) (N := 19) hx hb hts i_X8 hown hK.1 hP 0 rfl rfl 16 (by decide) f_41 (fun _ h9 => h9) rfl dX8_farOf_135 ?_
                      refine lv_iload hx hb dX8_farOf_138 (lv_at hl 9 rfl) ?_
                      refine lv_aload_n hx hb dX8_farOf_140 rfl (lv_at hl 2 rfl) ?_
                      refine va_get (D := D) (ci := 8) (v := .ref mfa) (C := RX8) (T := TX8) (N := 19) hx hb hts i_X8 hown hK.1 hP 0 rfl rfl 16 (by decide) f_41 (fun _ h9 => h9) rfl dX8_farOf_141 ?_
                      refine lv_iload hx hb dX8_farOf_144 (lv_at hl 9 rfl) ?_
                      refine lv_iconst (v := nI 1) hx hb dX8_farOf_146 (by decide) ?_
                      refine m_sub hx hb (by omega) dX8_farOf_147 ?_
                      refine m_ald hx hb hK hP 1 rfl (by decide) (by omega) dX8_farOf_148 ?_
                      refine m_top (y := nI (dsN (sgN z g (v * 20 + ln)) (sgN z g (v * 20 + ot)) (i + 1) j)) (by rw [Nat.add_sub_cancel, hF.1 j (by omega)]) ?_
                      refine lv_iconst (v := nI 2) hx hb dX8_farOf_149 (by decide) ?_
                      refine m_add hx hb dX8_farOf_150 ?_
                      refine lv_iload hx hb dX8_farOf_151 (lv_at hl 0 rfl) ?_
                      refine m_cmp_ge (tgt := 170) hx hb dX8_farOf_153 (by decide) (by omega) (by omega) (fun c_153 => ?_) (fun c_153 => ?_)
                      · refine lv_iload hx hb dX8_farOf_170 (lv_at hl 0 rfl) ?_
                        refine m_ast hx hb hK hP hD hS 1 rfl (by decide) (by omega) dX8_farOf_172 (ws' := [(mo, .inr (8, [.int (nI ps), .ref mpa, .int (nI nl), .int (nI nv), .ref msz, .ref mcd, .ref mbe, .ref mba, .int ol, .int (nI op), .int (nI os), .int (nI svn), .ref ms1, .ref ms2, .ref ms3, .ref ms4, .ref mfa, .ref mim, .ref mik])), (mfa, aN cI 9 (upN f3 (j + 1) ((dsN (sgN z g (v * 20 + ln)) (sgN z g (v * 20 + ot)) i (j + 1)) + 2))), (msz, aN cI 80 z), (mcd, aN cI 640 g)]) rfl (fun H locs hP hD hS => ?_)
                        refine lv_iload hx hb dX8_farOf_173 (lv_at hl 1 rfl) ?_
                        refine lv_istore (lv' := [(6, .int (nI (dsN (sgN z g (v * 20 + ln)) (sgN z g (v * 20 + ot)) i (j + 1)))), (9, .int (nI ((dsN (sgN z g (v * 20 + ln)) (sgN z g (v * 20 + ot)) i (j + 1)) + 2))), (8, .int (nI (dsN (sgN z g (v * 20 + ln)) (sgN z g (v * 20 + ot)) i (j + 1)))), (0, .ref mo), (1, .int (nI v)), (2, .int (nI ln)), (3, .int (nI ot)), (4, .int (nI (z (v * 20 + ot)))), (5, .int (nI (i + 1))), (7, .int (nI (j + 1)))]) hx hb dX8_farOf_175 hl (by decide) rfl (fun ls hl => ?_)
                        refine lv_iinc (v := nI (j + 1 + 1)) (lv' := [(7, .int (nI (j + 1 + 1))), (6, .int (nI (dsN (sgN z g (v * 20 + ln)) (sgN z g (v * 20 + ot)) i (j + 1)))), (9, .int (nI ((dsN (sgN z g (v * 20 + ln)) (sgN z g (v * 20 + ot)) i (j + 1)) + 2))), (8, .int (nI (dsN (sgN z g (v * 20 + ln)) (sgN z g (v * 20 + ot)) i (j + 1)))), (0, .ref mo), (1, .int (nI v)), (2, .int (nI ln)), (3, .int (nI ot)), (4, .int (nI (z (v * 20 + ot)))), (5, .int (nI (i + 1)))]) hx hb dX8_farOf_177 hl (k := 9) rfl ((nI_succ _).symm) (by decide) rfl (fun ls hl => ?_)
                        refine lv_goto (tgt := 70) hx hb dX8_farOf_180 (by decide) ?_
                        exact ih_70 (j + 1) _ (by omega) (by omega) (frP_s (by omega) (by omega) hF (by rw [dsN_s]; omega)) _ _ hP hD hS ls (lv_sub hl [4, 5, 6, 7, 8, 9, 1, 0] rfl)
                      · refine lv_aload_n hx hb dX8_farOf_156 rfl (lv_at hl 2 rfl) ?_
                        refine va_get (D := D) (ci := 8) (v := .ref mfa) (C := RX8) (T := TX8) (N := 19) hx hb hts i_X8 hown hK.1 hP 0 rfl rfl 16 (by decide) f_41 (fun _ h9 => h9) rfl dX8_farOf_157 ?_
                        refine lv_iload hx hb dX8_farOf_160 (lv_at hl 9 rfl) ?_
                        refine lv_iconst (v := nI 1) hx hb dX8_farOf_162 (by decide) ?_
                        refine m_sub hx hb (by omega) dX8_farOf_163 ?_
                        refine m_ald hx hb hK hP 1 rfl (by decide) (by omega) dX8_farOf_164 ?_
                        refine m_top (y := nI (dsN (sgN z g (v * 20 + ln)) (sgN z g (v * 20 + ot)) (i + 1) j)) (by rw [Nat.add_sub_cancel, hF.1 j (by omega)]) ?_
                        refine lv_iconst (v := nI 2) hx hb dX8_farOf_165 (by decide) ?_
                        refine m_add hx hb dX8_farOf_166 ?_
                        refine lv_goto (tgt := 172) hx hb dX8_farOf_167 (by decide) ?_
                        refine m_ast hx hb hK hP hD hS 1 rfl (by decide) (by omega) dX8_farOf_172 (ws' := [(mo, .inr (8, [.int (nI ps), .ref mpa, .int (nI nl), .int (nI nv), .ref msz, .ref mcd, .ref mbe, .ref mba, .int ol, .int (nI op), .int (nI os), .int (nI svn), .ref ms1, .ref ms2, .ref ms3, .ref ms4, .ref mfa, .ref mim, .ref mik])), (mfa, aN cI 9 (upN f3 (j + 1) ((dsN (sgN z g (v * 20 + ln)) (sgN z g (v * 20 + ot)) (i + 1) j) + 2))), (msz, aN cI 80 z), (mcd, aN cI 640 g)]) rfl (fun H locs hP hD hS => ?_)
                        refine lv_iload hx hb dX8_farOf_173 (lv_at hl 1 rfl) ?_
                        refine lv_istore (lv' := [(6, .int (nI (dsN (sgN z g (v * 20 + ln)) (sgN z g (v * 20 + ot)) i (j + 1)))), (9, .int (nI ((dsN (sgN z g (v * 20 + ln)) (sgN z g (v * 20 + ot)) i (j + 1)) + 2))), (8, .int (nI (dsN (sgN z g (v * 20 + ln)) (sgN z g (v * 20 + ot)) i (j + 1)))), (0, .ref mo), (1, .int (nI v)), (2, .int (nI ln)), (3, .int (nI ot)), (4, .int (nI (z (v * 20 + ot)))), (5, .int (nI (i + 1))), (7, .int (nI (j + 1)))]) hx hb dX8_farOf_175 hl (by decide) rfl (fun ls hl => ?_)
                        refine lv_iinc (v := nI (j + 1 + 1)) (lv' := [(7, .int (nI (j + 1 + 1))), (6, .int (nI (dsN (sgN z g (v * 20 + ln)) (sgN z g (v * 20 + ot)) i (j + 1)))), (9, .int (nI ((dsN (sgN z g (v * 20 + ln)) (sgN z g (v * 20 + ot)) i (j + 1)) + 2))), (8, .int (nI (dsN (sgN z g (v * 20 + ln)) (sgN z g (v * 20 + ot)) i (j + 1)))), (0, .ref mo), (1, .int (nI v)), (2, .int (nI ln)), (3, .int (nI ot)), (4, .int (nI (z (v * 20 + ot)))), (5, .int (nI (i + 1)))]) hx hb dX8_farOf_177 hl (k := 9) rfl ((nI_succ _).symm) (by decide) rfl (fun ls hl => ?_)
                        refine lv_goto (tgt := 70) hx hb dX8_farOf_180 (by decide) ?_
                        exact ih_70 (j + 1) _ (by omega) (by omega) (frP_s (by omega) (by omega) hF (by rw [dsN_s]; omega)) _ _ hP hD hS ls (lv_sub hl [4, 5, 6, 7, 8, 9, 1, 0] rfl)
              exact loop_70 ((z (v * 20 + ot)) + 2) 0 _ (by omega) (by omega) (frP_0 (by omega) hO hf2) _ _ hP hD hS ls (lv_sub hl [2, 3, 4, 5, 6, 7, 1, 0] rfl)
        exact loop_38 ((z (v * 20 + ln)) + 2) 0 f1 (by omega) (by omega) hf1 (fun q hq => hA1 q (by omega)) _ _ hP hD hS ls (lv_sub hl [1, 2, 3, 4, 5, 0] rfl)
      · refine lv_aload_n hx hb dX8_farOf_18 rfl (lv_at hl 0 rfl) ?_
        refine va_get (D := D) (ci := 8) (v := .ref mfa) (C := RX8) (T := TX8) (N := 19) hx hb hts i_X8 hown hK.1 hP 0 rfl rfl 16 (by decide) f_41 (fun _ h9 => h9) rfl dX8_farOf_19 ?_
        refine lv_iload hx hb dX8_farOf_22 (lv_at hl 5 rfl) ?_
        refine lv_iconst (v := nI 2) hx hb dX8_farOf_24 (by decide) ?_
        refine lv_iload hx hb dX8_farOf_25 (lv_at hl 5 rfl) ?_
        refine m_mul hx hb dX8_farOf_27 ?_
        refine m_ast hx hb hK hP hD hS 1 rfl (by decide) (by omega) dX8_farOf_28 (ws' := [(mo, .inr (8, [.int (nI ps), .ref mpa, .int (nI nl), .int (nI nv), .ref msz, .ref mcd, .ref mbe, .ref mba, .int ol, .int (nI op), .int (nI os), .int (nI svn), .ref ms1, .ref ms2, .ref ms3, .ref ms4, .ref mfa, .ref mim, .ref mik])), (mfa, aN cI 9 (upN f1 k (2 * k))), (msz, aN cI 80 z), (mcd, aN cI 640 g)]) rfl (fun H locs hP hD hS => ?_)
        refine lv_iinc (v := nI (k + 1)) (lv' := [(5, .int (nI (k + 1))), (0, .ref mo), (1, .int (nI v)), (2, .int (nI ln)), (3, .int (nI ot)), (4, .int (nI (z (v * 20 + ot))))]) hx hb dX8_farOf_29 hl (k := 5) rfl ((nI_succ _).symm) (by decide) rfl (fun ls hl => ?_)
        refine lv_goto (tgt := 11) hx hb dX8_farOf_32 (by decide) ?_
        exact ih_11 (k + 1) _ (by omega) (by omega) (upN_le hf1 (by omega)) (fun r hr => by by_cases q : r = k; rw [q, upN_s]; rw [upN_ne q]; exact hA1 r (by omega)) _ _ hP hD hS ls (lv_sub hl [1, 2, 3, 4, 5, 0] rfl)
  exact loop_11 ((z (v * 20 + ot)) + 2) 0 fr (by omega) (by omega) hfr (fun r hr => absurd hr (Nat.not_lt_zero r)) _ _ hP hD hS ls (lv_sub hl [2, 3, 4, 5, 1, 0] rfl)

theorem yd_X8_far : yX8_far.cls = RX8 ∧ yX8_far.cls ≠ "java/lang/invoke/MethodHandle" ∧ yX8_far.cls ≠ "java/lang/invoke/VarHandle" ∧ (parseMethodDescriptor yX8_far.desc).map (fun d => d.parameters.length) = some 3 := by decide +kernel
set_option maxHeartbeats 4000000 in
set_option maxRecDepth 100000 in
theorem k_X8_far (l : Launch) (D : va_G) (cI cZ : ClassId) (mo ps mpa nl nv msz mcd mbe mba : Nat) (ol : Int32) (op os svn ms1 ms2 ms3 ms4 mfa mim mik : Nat) (fr z g : Nat → Nat) (ve a b : Int32) (hnl : nl ≤ 20) (hnv : nv ≤ 4) (hz : ∀ j, z j ≤ 8) (hg : ∀ j, g j ≤ 126) (hfr : ∀ j, fr j ≤ 1000) : Met l yX8_far wsX8_far ({ frames := 4, cells := 0, slots := 0, locals := 92 }) (mPc [.ref mo, .int ve, .int a, .int b] D cI cZ [(mo, .inr (8, [.int (nI ps), .ref mpa, .int (nI nl), .int (nI nv), .ref msz, .ref mcd, .ref mbe, .ref mba, .int ol, .int (nI op), .int (nI os), .int (nI svn), .ref ms1, .ref ms2, .ref ms3, .ref ms4, .ref mfa, .ref mim, .ref mik])), (mfa, aN cI 9 fr), (msz, aN cI 80 z), (mcd, aN cI 640 g)]) (mQi D (mA [(mo, .inr (8, [.int (nI ps), .ref mpa, .int (nI nl), .int (nI nv), .ref msz, .ref mcd, .ref mbe, .ref mba, .int ol, .int (nI op), .int (nI os), .int (nI svn), .ref ms1, .ref ms2, .ref ms3, .ref ms4, .ref mfa, .ref mim, .ref mik])), (mfa, aN cI 9 fr), (msz, aN cI 80 z), (mcd, aN cI 640 g)]) (fun (r : Int32) (u : (Nat → Nat)) => r = farR nl nv z g ve a b ∧ ∀ j, u j ≤ 1000) (fun (u : (Nat → Nat)) => [(mo, .inr (8, [.int (nI ps), .ref mpa, .int (nI nl), .int (nI nv), .ref msz, .ref mcd, .ref mbe, .ref mba, .int ol, .int (nI op), .int (nI os), .int (nI svn), .ref ms1, .ref ms2, .ref ms3, .ref ms4, .ref mfa, .ref mim, .ref mik])), (mfa, aN cI 9 u), (msz, aN cI 80 z), (mcd, aN cI 640 g)])) 0 0 (mA [(mo, .inr (8, [.int (nI ps), .ref mpa, .int (nI nl), .int (nI nv), .ref msz, .ref mcd, .ref mbe, .ref mba, .int ol, .int (nI op), .int (nI os), .int (nI svn), .ref ms1, .ref ms2, .ref ms3, .ref ms4, .ref mfa, .ref mim, .ref mik])), (mfa, aN cI 9 fr), (msz, aN cI 80 z), (mcd, aN cI 640 g)]) := by
  refine Met.ofW (cc := cX8_far) (maxL := 4) (ret := (some .int)) (by decide) rfl ?_
  intro p e s m args below meth c s₁ BB hml hv
  obtain ⟨hargs, hP, hD0, hK⟩ := hv
  have hx := BB.exec
  have hb := BB.bytes
  have hr := BB.returns
  have hts := atoms_spec (ws := wsX8_far) BB.pre
  have hown : s.vm.findClass RX8 = some m.cls := findClass_of_methodNamed BB.named
  have hlocks := BB.notSynchronized
  have hcf : CallFix p m c cX8_far 4 s args wsX8_far RX8 := ⟨hx, hb, hml, hown, hts⟩
  obtain ⟨A, hAe⟩ : ∃ A, A = mA [(mo, .inr (8, [.int (nI ps), .ref mpa, .int (nI nl), .int (nI nv), .ref msz, .ref mcd, .ref mbe, .ref mba, .int ol, .int (nI op), .int (nI os), .int (nI svn), .ref ms1, .ref ms2, .ref ms3, .ref ms4, .ref mfa, .ref mim, .ref mik])), (mfa, aN cI 9 fr), (msz, aN cI 80 z), (mcd, aN cI 640 g)] := ⟨_, rfl⟩
  have hD : va_D A [(mo, .inr (8, [.int (nI ps), .ref mpa, .int (nI nl), .int (nI nv), .ref msz, .ref mcd, .ref mbe, .ref mba, .int ol, .int (nI op), .int (nI os), .int (nI svn), .ref ms1, .ref ms2, .ref ms3, .ref ms4, .ref mfa, .ref mim, .ref mik])), (mfa, aN cI 9 fr), (msz, aN cI 80 z), (mcd, aN cI 640 g)] := ⟨hD0.1, fun k q h => by rw [hAe]; exact ⟨k, q.2, h⟩⟩
  have hS : va_S A s.heap s.heap [] := va_S.rf
  rw [← hAe]
  rw [hargs, lg_entry_eq, ← hargs]
  have hl := lv_entry ([.ref mo, .int ve, .int a, .int b]) (n := 4) (Nat.le_of_ble_eq_true rfl)
  generalize (lg_sl ([.ref mo, .int ve, .int a, .int b]) ++ List.replicate (4 - (lg_sl ([.ref mo, .int ve, .int a, .int b])).length) Slot.unset).toArray = ls at hl ⊢
  have hl : lv_has ls 4 [(0, .ref mo), (1, .int ve), (2, .int a), (3, .int b)] := hl
  obtain ⟨Q, hQ⟩ : ∃ Q, Q = MQ below (mQi D A (fun (r : Int32) (u : (Nat → Nat)) => r = farR nl nv z g ve a b ∧ ∀ j, u j ≤ 1000) (fun (u : (Nat → Nat)) => [(mo, .inr (8, [.int (nI ps), .ref mpa, .int (nI nl), .int (nI nv), .ref msz, .ref mcd, .ref mbe, .ref mba, .int ol, .int (nI op), .int (nI os), .int (nI svn), .ref ms1, .ref ms2, .ref ms3, .ref ms4, .ref mfa, .ref mim, .ref mik])), (mfa, aN cI 9 u), (msz, aN cI 80 z), (mcd, aN cI 640 g)])) args s 0 0 A := ⟨_, rfl⟩
  rw [← hQ]
  refine lv_aload_n hx hb dX8_far_0 rfl (lv_at hl 0 rfl) ?_
  refine lv_iload_n hx hb dX8_far_1 rfl (lv_at hl 1 rfl) ?_
  refine m_rdV (As := [.int ve]) (rest := []) (wc := [(mo, .inr (8, [.int (nI ps), .ref mpa, .int (nI nl), .int (nI nv), .ref msz, .ref mcd, .ref mbe, .ref mba, .int ol, .int (nI op), .int (nI os), .int (nI svn), .ref ms1, .ref ms2, .ref ms3, .ref ms4, .ref mfa, .ref mim, .ref mik]))]) hcf (k_X8_isVersion (l := l) (D := D) (cI := cI) (cZ := cZ) (x := ve) (mo := mo) (ps := ps) (mpa := mpa) (nl := nl) (nv := nv) (msz := msz) (mcd := mcd) (mbe := mbe) (mba := mba) (ol := ol) (op := op) (os := os) (svn := svn) (ms1 := ms1) (ms2 := ms2) (ms3 := ms3) (ms4 := ms4) (mfa := mfa) (mim := mim) (mik := mik) (hnl := hnl) (hnv := hnv)) (cwV 1 hts gX8_far_X8_isVersion rfl rfl rfl yd_X8_isVersion ⟨Nat.le_of_ble_eq_true rfl, Nat.le_of_ble_eq_true rfl⟩) (m_preV hK hP hD [0] (by decide) rfl rfl rfl) rfl hl.1 rfl (Nat.le_of_ble_eq_true rfl) dX8_far_2 ⟨Nat.zero_le _, Nat.zero_le _⟩ ?_
  refine m_ifB_eq (tgt := 34) hx hb dX8_far_5 (by decide) (fun c_5 => ?_) (fun c_5 => ?_)
  · refine lv_iconst (v := (-1)) hx hb dX8_far_34 (by decide) ?_
    rw [hQ]
    exact m_iwr hx hb hr hlocks fr (⟨by unfold farR; rw [if_neg (by first | (simp [c_5]; done) | (simp [c_13]; done) | (simp [c_21]; done))], hfr⟩) hP hS dX8_far_35
  · refine lv_aload_n hx hb dX8_far_8 rfl (lv_at hl 0 rfl) ?_
    refine lv_iload_n hx hb dX8_far_9 rfl (lv_at hl 2 rfl) ?_
    refine m_rdV (As := [.int a]) (rest := []) (wc := [(mo, .inr (8, [.int (nI ps), .ref mpa, .int (nI nl), .int (nI nv), .ref msz, .ref mcd, .ref mbe, .ref mba, .int ol, .int (nI op), .int (nI os), .int (nI svn), .ref ms1, .ref ms2, .ref ms3, .ref ms4, .ref mfa, .ref mim, .ref mik]))]) hcf (k_X8_isLine (l := l) (D := D) (cI := cI) (cZ := cZ) (x := a) (mo := mo) (ps := ps) (mpa := mpa) (nl := nl) (nv := nv) (msz := msz) (mcd := mcd) (mbe := mbe) (mba := mba) (ol := ol) (op := op) (os := os) (svn := svn) (ms1 := ms1) (ms2 := ms2) (ms3 := ms3) (ms4 := ms4) (mfa := mfa) (mim := mim) (mik := mik) (hnl := hnl) (hnv := hnv)) (cwV 1 hts gX8_far_X8_isLine rfl rfl rfl yd_X8_isLine ⟨Nat.le_of_ble_eq_true rfl, Nat.le_of_ble_eq_true rfl⟩) (m_preV hK hP hD [0] (by decide) rfl rfl rfl) rfl hl.1 rfl (Nat.le_of_ble_eq_true rfl) dX8_far_10 ⟨Nat.zero_le _, Nat.zero_le _⟩ ?_
    refine m_ifB_eq (tgt := 34) hx hb dX8_far_13 (by decide) (fun c_13 => ?_) (fun c_13 => ?_)
    · refine lv_iconst (v := (-1)) hx hb dX8_far_34 (by decide) ?_
      rw [hQ]
      exact m_iwr hx hb hr hlocks fr (⟨by unfold farR; rw [if_neg (by first | (simp [c_5]; done) | (simp [c_13]; done) | (simp [c_21]; done))], hfr⟩) hP hS dX8_far_35
    · refine lv_aload_n hx hb dX8_far_16 rfl (lv_at hl 0 rfl) ?_
      refine lv_iload_n hx hb dX8_far_17 rfl (lv_at hl 3 rfl) ?_
      refine m_rdV (As := [.int b]) (rest := []) (wc := [(mo, .inr (8, [.int (nI ps), .ref mpa, .int (nI nl), .int (nI nv), .ref msz, .ref mcd, .ref mbe, .ref mba, .int ol, .int (nI op), .int (nI os), .int (nI svn), .ref ms1, .ref ms2, .ref ms3, .ref ms4, .ref mfa, .ref mim, .ref mik]))]) hcf (k_X8_isLine (l := l) (D := D) (cI := cI) (cZ := cZ) (x := b) (mo := mo) (ps := ps) (mpa := mpa) (nl := nl) (nv := nv) (msz := msz) (mcd := mcd) (mbe := mbe) (mba := mba) (ol := ol) (op := op) (os := os) (svn := svn) (ms1 := ms1) (ms2 := ms2) (ms3 := ms3) (ms4 := ms4) (mfa := mfa) (mim := mim) (mik := mik) (hnl := hnl) (hnv := hnv)) (cwV 1 hts gX8_far_X8_isLine rfl rfl rfl yd_X8_isLine ⟨Nat.le_of_ble_eq_true rfl, Nat.le_of_ble_eq_true rfl⟩) (m_preV hK hP hD [0] (by decide) rfl rfl rfl) rfl hl.1 rfl (Nat.le_of_ble_eq_true rfl) dX8_far_18 ⟨Nat.zero_le _, Nat.zero_le _⟩ ?_
      refine m_ifB_eq (tgt := 34) hx hb dX8_far_21 (by decide) (fun c_21 => ?_) (fun c_21 => ?_)
      · refine lv_iconst (v := (-1)) hx hb dX8_far_34 (by decide) ?_
        rw [hQ]
        exact m_iwr hx hb hr hlocks fr (⟨by unfold farR; rw [if_neg (by first | (simp [c_5]; done) | (simp [c_13]; done) | (simp [c_21]; done))], hfr⟩) hP hS dX8_far_35
      · obtain ⟨e_v, i_v⟩ := ixB_cN (by omega) c_5
        obtain ⟨e_a, i_a⟩ := ixB_cN (by omega) c_13
        obtain ⟨e_b, i_b⟩ := ixB_cN (by omega) c_21
        have K9 : (ixB ve nv && ixB a nl && ixB b nl) = true := by rw [c_5, c_13, c_21]; rfl
        have hl : lv_has ls 4 [(0, .ref mo), (1, .int (nI (cN ve))), (2, .int (nI (cN a))), (3, .int (nI (cN b)))] := by rw [← e_v, ← e_a, ← e_b]; exact hl
        refine lv_aload_n hx hb dX8_far_24 rfl (lv_at hl 0 rfl) ?_
        refine lv_iload_n hx hb dX8_far_25 rfl (lv_at hl 1 rfl) ?_
        refine lv_iload_n hx hb dX8_far_26 rfl (lv_at hl 2 rfl) ?_
        refine lv_iload_n hx hb dX8_far_27 rfl (lv_at hl 3 rfl) ?_
        refine m_wrV (As := [.int (nI (cN ve)), .int (nI (cN a)), .int (nI (cN b))]) (rest := []) (wc := [(mo, .inr (8, [.int (nI ps), .ref mpa, .int (nI nl), .int (nI nv), .ref msz, .ref mcd, .ref mbe, .ref mba, .int ol, .int (nI op), .int (nI os), .int (nI svn), .ref ms1, .ref ms2, .ref ms3, .ref ms4, .ref mfa, .ref mim, .ref mik])), (mfa, aN cI 9 fr), (msz, aN cI 80 z), (mcd, aN cI 640 g)]) hcf (k_X8_farOf (l := l) (D := D) (cI := cI) (cZ := cZ) (v := cN ve) (ln := cN a) (ot := cN b) (mo := mo) (ps := ps) (mpa := mpa) (nl := nl) (nv := nv) (msz := msz) (mcd := mcd) (mbe := mbe) (mba := mba) (ol := ol) (op := op) (os := os) (svn := svn) (ms1 := ms1) (ms2 := ms2) (ms3 := ms3) (ms4 := ms4) (mfa := mfa) (mim := mim) (mik := mik) (fr := fr) (z := z) (g := g) (hz := hz) (hg := hg) (hfr := hfr) (hv := by omega) (h1 := by omega) (h2 := by omega)) (cwV 3 hts gX8_far_X8_farOf rfl rfl rfl yd_X8_farOf ⟨Nat.le_of_ble_eq_true rfl, Nat.le_of_ble_eq_true rfl⟩) hK hP hD hS [0, 1, 2, 3] (by decide) rfl rfl rfl rfl hl.1 rfl (Nat.le_of_ble_eq_true rfl) dX8_far_28 ⟨Nat.zero_le _, Nat.zero_le _⟩ (fun _ => rfl) (fun (u : (Nat → Nat)) => [(mo, .inr (8, [.int (nI ps), .ref mpa, .int (nI nl), .int (nI nv), .ref msz, .ref mcd, .ref mbe, .ref mba, .int ol, .int (nI op), .int (nI os), .int (nI svn), .ref ms1, .ref ms2, .ref ms3, .ref ms4, .ref mfa, .ref mim, .ref mik])), (mfa, aN cI 9 u), (msz, aN cI 80 z), (mcd, aN cI 640 g)]) (fun _ => rfl) (fun r u H locs hp_28 hP hD hS => ?_)
        obtain ⟨fru_28, rfl⟩ : ∃ z, z = u := ⟨_, rfl⟩
        have hP : va_P D vwCl [(mo, .inr (8, [.int (nI ps), .ref mpa, .int (nI nl), .int (nI nv), .ref msz, .ref mcd, .ref mbe, .ref mba, .int ol, .int (nI op), .int (nI os), .int (nI svn), .ref ms1, .ref ms2, .ref ms3, .ref ms4, .ref mfa, .ref mim, .ref mik])), (mfa, aN cI 9 fru_28), (msz, aN cI 80 z), (mcd, aN cI 640 g)] H := hP
        have hD : va_D A [(mo, .inr (8, [.int (nI ps), .ref mpa, .int (nI nl), .int (nI nv), .ref msz, .ref mcd, .ref mbe, .ref mba, .int ol, .int (nI op), .int (nI os), .int (nI svn), .ref ms1, .ref ms2, .ref ms3, .ref ms4, .ref mfa, .ref mim, .ref mik])), (mfa, aN cI 9 fru_28), (msz, aN cI 80 z), (mcd, aN cI 640 g)] := hD
        try dsimp only at hp_28
        obtain ⟨hr_hp_28, hp_28⟩ := hp_28
        rw [hr_hp_28]
        refine lv_goto (tgt := 35) hx hb dX8_far_31 (by decide) ?_
        rw [hQ]
        exact m_iwr hx hb hr hlocks fru_28 (⟨by unfold farR; rw [if_pos K9], hp_28⟩) hP hS dX8_far_35

theorem yd_X8_near : yX8_near.cls = RX8 ∧ yX8_near.cls ≠ "java/lang/invoke/MethodHandle" ∧ yX8_near.cls ≠ "java/lang/invoke/VarHandle" ∧ (parseMethodDescriptor yX8_near.desc).map (fun d => d.parameters.length) = some 3 := by decide +kernel
set_option maxHeartbeats 4000000 in
set_option maxRecDepth 100000 in
theorem k_X8_near (l : Launch) (D : va_G) (cI cZ : ClassId) (mo ps mpa nl nv msz mcd mbe mba : Nat) (ol : Int32) (op os svn ms1 ms2 ms3 ms4 mfa mim mik : Nat) (fr z g : Nat → Nat) (ve a co : Int32) (hnl : nl ≤ 20) (hnv : nv ≤ 4) (hz : ∀ j, z j ≤ 8) (hg : ∀ j, g j ≤ 126) (hfr : ∀ j, fr j ≤ 1000) : Met l yX8_near wsX8_near ({ frames := 4, cells := 0, slots := 0, locals := 92 }) (mPc [.ref mo, .int ve, .int a, .int co] D cI cZ [(mo, .inr (8, [.int (nI ps), .ref mpa, .int (nI nl), .int (nI nv), .ref msz, .ref mcd, .ref mbe, .ref mba, .int ol, .int (nI op), .int (nI os), .int (nI svn), .ref ms1, .ref ms2, .ref ms3, .ref ms4, .ref mfa, .ref mim, .ref mik])), (mfa, aN cI 9 fr), (msz, aN cI 80 z), (mcd, aN cI 640 g)]) (mQi D (mA [(mo, .inr (8, [.int (nI ps), .ref mpa, .int (nI nl), .int (nI nv), .ref msz, .ref mcd, .ref mbe, .ref mba, .int ol, .int (nI op), .int (nI os), .int (nI svn), .ref ms1, .ref ms2, .ref ms3, .ref ms4, .ref mfa, .ref mim, .ref mik])), (mfa, aN cI 9 fr), (msz, aN cI 80 z), (mcd, aN cI 640 g)]) (fun (r : Int32) (u : (Nat → Nat)) => r = neaR nl nv z g ve a co ∧ ∀ j, u j ≤ 1000) (fun (u : (Nat → Nat)) => [(mo, .inr (8, [.int (nI ps), .ref mpa, .int (nI nl), .int (nI nv), .ref msz, .ref mcd, .ref mbe, .ref mba, .int ol, .int (nI op), .int (nI os), .int (nI svn), .ref ms1, .ref ms2, .ref ms3, .ref ms4, .ref mfa, .ref mim, .ref mik])), (mfa, aN cI 9 u), (msz, aN cI 80 z), (mcd, aN cI 640 g)])) 0 0 (mA [(mo, .inr (8, [.int (nI ps), .ref mpa, .int (nI nl), .int (nI nv), .ref msz, .ref mcd, .ref mbe, .ref mba, .int ol, .int (nI op), .int (nI os), .int (nI svn), .ref ms1, .ref ms2, .ref ms3, .ref ms4, .ref mfa, .ref mim, .ref mik])), (mfa, aN cI 9 fr), (msz, aN cI 80 z), (mcd, aN cI 640 g)]) := by
  refine Met.ofW (cc := cX8_near) (maxL := 6) (ret := (some .int)) (by decide) rfl ?_
  intro p e s m args below meth c s₁ BB hml hv
  obtain ⟨hargs, hP, hD0, hK⟩ := hv
  have hx := BB.exec
  have hb := BB.bytes
  have hr := BB.returns
  have hts := atoms_spec (ws := wsX8_near) BB.pre
  have hown : s.vm.findClass RX8 = some m.cls := findClass_of_methodNamed BB.named
  have hlocks := BB.notSynchronized
  have hcf : CallFix p m c cX8_near 6 s args wsX8_near RX8 := ⟨hx, hb, hml, hown, hts⟩
  obtain ⟨A, hAe⟩ : ∃ A, A = mA [(mo, .inr (8, [.int (nI ps), .ref mpa, .int (nI nl), .int (nI nv), .ref msz, .ref mcd, .ref mbe, .ref mba, .int ol, .int (nI op), .int (nI os), .int (nI svn), .ref ms1, .ref ms2, .ref ms3, .ref ms4, .ref mfa, .ref mim, .ref mik])), (mfa, aN cI 9 fr), (msz, aN cI 80 z), (mcd, aN cI 640 g)] := ⟨_, rfl⟩
  have hD : va_D A [(mo, .inr (8, [.int (nI ps), .ref mpa, .int (nI nl), .int (nI nv), .ref msz, .ref mcd, .ref mbe, .ref mba, .int ol, .int (nI op), .int (nI os), .int (nI svn), .ref ms1, .ref ms2, .ref ms3, .ref ms4, .ref mfa, .ref mim, .ref mik])), (mfa, aN cI 9 fr), (msz, aN cI 80 z), (mcd, aN cI 640 g)] := ⟨hD0.1, fun k q h => by rw [hAe]; exact ⟨k, q.2, h⟩⟩
  have hS : va_S A s.heap s.heap [] := va_S.rf
  rw [← hAe]
  rw [hargs, lg_entry_eq, ← hargs]
  have hl := lv_entry ([.ref mo, .int ve, .int a, .int co]) (n := 6) (Nat.le_of_ble_eq_true rfl)
  generalize (lg_sl ([.ref mo, .int ve, .int a, .int co]) ++ List.replicate (6 - (lg_sl ([.ref mo, .int ve, .int a, .int co])).length) Slot.unset).toArray = ls at hl ⊢
  have hl : lv_has ls 6 [(0, .ref mo), (1, .int ve), (2, .int a), (3, .int co)] := hl
  obtain ⟨Q, hQ⟩ : ∃ Q, Q = MQ below (mQi D A (fun (r : Int32) (u : (Nat → Nat)) => r = neaR nl nv z g ve a co ∧ ∀ j, u j ≤ 1000) (fun (u : (Nat → Nat)) => [(mo, .inr (8, [.int (nI ps), .ref mpa, .int (nI nl), .int (nI nv), .ref msz, .ref mcd, .ref mbe, .ref mba, .int ol, .int (nI op), .int (nI os), .int (nI svn), .ref ms1, .ref ms2, .ref ms3, .ref ms4, .ref mfa, .ref mim, .ref mik])), (mfa, aN cI 9 u), (msz, aN cI 80 z), (mcd, aN cI 640 g)])) args s 0 0 A := ⟨_, rfl⟩
  rw [← hQ]
  have i_X8 : ∀ w ∈ u_ws RX8 TX8 19, w ∈ wsX8_near := by decide +kernel
  have f_58 := hts (.fieldLink RX8 58 "SameAgainModel" "lines" "I") (by decide +kernel)
  refine lv_aload_n hx hb dX8_near_0 rfl (lv_at hl 0 rfl) ?_
  refine lv_iload_n hx hb dX8_near_1 rfl (lv_at hl 1 rfl) ?_
  refine m_rdV (As := [.int ve]) (rest := []) (wc := [(mo, .inr (8, [.int (nI ps), .ref mpa, .int (nI nl), .int (nI nv), .ref msz, .ref mcd, .ref mbe, .ref mba, .int ol, .int (nI op), .int (nI os), .int (nI svn), .ref ms1, .ref ms2, .ref ms3, .ref ms4, .ref mfa, .ref mim, .ref mik]))]) hcf (k_X8_isVersion (l := l) (D := D) (cI := cI) (cZ := cZ) (x := ve) (mo := mo) (ps := ps) (mpa := mpa) (nl := nl) (nv := nv) (msz := msz) (mcd := mcd) (mbe := mbe) (mba := mba) (ol := ol) (op := op) (os := os) (svn := svn) (ms1 := ms1) (ms2 := ms2) (ms3 := ms3) (ms4 := ms4) (mfa := mfa) (mim := mim) (mik := mik) (hnl := hnl) (hnv := hnv)) (cwV 1 hts gX8_near_X8_isVersion rfl rfl rfl yd_X8_isVersion ⟨Nat.le_of_ble_eq_true rfl, Nat.le_of_ble_eq_true rfl⟩) (m_preV hK hP hD [0] (by decide) rfl rfl rfl) rfl hl.1 rfl (Nat.le_of_ble_eq_true rfl) dX8_near_2 ⟨Nat.zero_le _, Nat.zero_le _⟩ ?_
  refine m_ifB_eq (tgt := 16) hx hb dX8_near_5 (by decide) (fun c_5 => ?_) (fun c_5 => ?_)
  · refine lv_iconst (v := (-1)) hx hb dX8_near_16 (by decide) ?_
    rw [hQ]
    exact m_iwr hx hb hr hlocks fr (⟨by unfold neaR; rw [if_neg (by first | (simp [c_5]; done) | (simp [c_13]; done))], hfr⟩) hP hS dX8_near_17
  · refine lv_aload_n hx hb dX8_near_8 rfl (lv_at hl 0 rfl) ?_
    refine lv_iload_n hx hb dX8_near_9 rfl (lv_at hl 2 rfl) ?_
    refine m_rdV (As := [.int a]) (rest := []) (wc := [(mo, .inr (8, [.int (nI ps), .ref mpa, .int (nI nl), .int (nI nv), .ref msz, .ref mcd, .ref mbe, .ref mba, .int ol, .int (nI op), .int (nI os), .int (nI svn), .ref ms1, .ref ms2, .ref ms3, .ref ms4, .ref mfa, .ref mim, .ref mik]))]) hcf (k_X8_isLine (l := l) (D := D) (cI := cI) (cZ := cZ) (x := a) (mo := mo) (ps := ps) (mpa := mpa) (nl := nl) (nv := nv) (msz := msz) (mcd := mcd) (mbe := mbe) (mba := mba) (ol := ol) (op := op) (os := os) (svn := svn) (ms1 := ms1) (ms2 := ms2) (ms3 := ms3) (ms4 := ms4) (mfa := mfa) (mim := mim) (mik := mik) (hnl := hnl) (hnv := hnv)) (cwV 1 hts gX8_near_X8_isLine rfl rfl rfl yd_X8_isLine ⟨Nat.le_of_ble_eq_true rfl, Nat.le_of_ble_eq_true rfl⟩) (m_preV hK hP hD [0] (by decide) rfl rfl rfl) rfl hl.1 rfl (Nat.le_of_ble_eq_true rfl) dX8_near_10 ⟨Nat.zero_le _, Nat.zero_le _⟩ ?_
    refine m_ifB_ne (tgt := 18) hx hb dX8_near_13 (by decide) (fun c_13 => ?_) (fun c_13 => ?_)
    · obtain ⟨e_v, i_v⟩ := ixB_cN (by omega) c_5
      obtain ⟨e_a, i_a⟩ := ixB_cN (by omega) c_13
      have K9 : (ixB ve nv && ixB a nl) = true := by rw [c_5, c_13]; rfl
      refine lv_iload_n hx hb dX8_near_18 rfl (lv_at hl 3 rfl) ?_
      refine lv_iconst (v := nI 0) hx hb dX8_near_19 (by decide) ?_
      refine lv_bipush (v := nI 24) hx hb dX8_near_20 (by decide) ?_
      refine m_rdS (As := [.int co, .int (nI 0), .int (nI 24)]) (rest := []) (wc := []) hcf (k_X8_in (l := l) (D := D) (cI := cI) (cZ := cZ) (x := co) (lo := nI 0) (hi := nI 24) ) (va_cwS 3 hts gX8_near_X8_in rfl rfl rfl yd_X8_in.2 ⟨Nat.le_of_ble_eq_true rfl, Nat.le_of_ble_eq_true rfl⟩) (m_preS hK hP hD [] (by decide) rfl) rfl hl.1 rfl (Nat.le_of_ble_eq_true rfl) dX8_near_22 ⟨Nat.zero_le _, Nat.zero_le _⟩ ?_
      refine m_top (y := bI (ixB co 25)) (by rw [inB_ix0 (by decide)]) ?_
      refine m_ifB_ne (tgt := 31) hx hb dX8_near_25 (by decide) (fun c_25 => ?_) (fun c_25 => ?_)
      · obtain ⟨e_c, i_c⟩ := ixB_cN (by decide) c_25
        have hl : lv_has ls 6 [(0, .ref mo), (1, .int (nI (cN ve))), (2, .int (nI (cN a))), (3, .int (nI (cN co)))] := by rw [← e_v, ← e_a, ← e_c]; exact hl
        refine lv_iconst (v := nI 0) hx hb dX8_near_31 (by decide) ?_
        refine lv_istore (lv' := [(4, .int (nI 0)), (0, .ref mo), (1, .int (nI (cN ve))), (2, .int (nI (cN a))), (3, .int (nI (cN co)))]) hx hb dX8_near_32 hl (by decide) rfl (fun ls hl => ?_)
        refine lv_iconst (v := nI 0) hx hb dX8_near_34 (by decide) ?_
        refine lv_istore (lv' := [(5, .int (nI 0)), (4, .int (nI 0)), (0, .ref mo), (1, .int (nI (cN ve))), (2, .int (nI (cN a))), (3, .int (nI (cN co)))]) hx hb dX8_near_35 hl (by decide) rfl (fun ls hl => ?_)
        have loop_37 : ∀ (fu : Nat) (w f : Nat) (ct : Nat → Nat) (hfu : nl - w < fu)  (hw : w ≤ nl) (hct : ∀ j, ct j ≤ 1000) (hf : f = mkN (fun oo => decide (faN z g (cN ve) (cN a) oo ≤ cN co)) w) (H : Heap) (locs : List Loc) (hP : va_P D vwCl [(mo, .inr (8, [.int (nI ps), .ref mpa, .int (nI nl), .int (nI nv), .ref msz, .ref mcd, .ref mbe, .ref mba, .int ol, .int (nI op), .int (nI os), .int (nI svn), .ref ms1, .ref ms2, .ref ms3, .ref ms4, .ref mfa, .ref mim, .ref mik])), (mfa, aN cI 9 ct), (msz, aN cI 80 z), (mcd, aN cI 640 g)] H) (hD : va_D A [(mo, .inr (8, [.int (nI ps), .ref mpa, .int (nI nl), .int (nI nv), .ref msz, .ref mcd, .ref mbe, .ref mba, .int ol, .int (nI op), .int (nI os), .int (nI svn), .ref ms1, .ref ms2, .ref ms3, .ref ms4, .ref mfa, .ref mim, .ref mik])), (mfa, aN cI 9 ct), (msz, aN cI 80 z), (mcd, aN cI 640 g)]) (hS : va_S A s.heap H locs) (ls : Array Slot) (hl : lv_has ls 6 [(0, .ref mo), (1, .int (nI (cN ve))), (2, .int (nI (cN a))), (3, .int (nI (cN co))), (4, .int (nI f)), (5, .int (nI w))]), W p l e (headSpec wsX8_near { frames := 4, cells := 0, slots := 0, locals := 92 }).room s m args below meth c H locs 0 0 Q (F0 m 37 ls []) := by
          intro fu
          induction fu with
          | zero => intro w f ct hfu; exact absurd hfu (Nat.not_lt_zero _)
          | succ fu ih_37 =>
            intro w f ct hfu hw hct hf H locs hP hD hS ls hl
            refine lv_iload hx hb dX8_near_37 (lv_at hl 5 rfl) ?_
            refine lv_aload_n hx hb dX8_near_39 rfl (lv_at hl 0 rfl) ?_
            refine va_get (D := D) (ci := 8) (v := .int (nI nl)) (C := RX8) (T := TX8) (N := 19) hx hb hts i_X8 hown hK.1 hP 0 rfl rfl 2 (by decide) f_58 (fun _ h9 => h9) rfl dX8_near_40 ?_
            refine m_cmp_ge (tgt := 77) hx hb dX8_near_43 (by decide) (by omega) (by omega) (fun c_43 => ?_) (fun c_43 => ?_)
            · refine lv_iload hx hb dX8_near_77 (lv_at hl 4 rfl) ?_
              rw [hQ]
              have e9 : w = nl := by omega
              exact m_iwr hx hb hr hlocks ct (⟨by unfold neaR; rw [if_pos K9, if_pos c_25, hf, e9], hct⟩) hP hS dX8_near_79
            · refine lv_iload hx hb dX8_near_46 (lv_at hl 4 rfl) ?_
              refine lv_aload_n hx hb dX8_near_48 rfl (lv_at hl 0 rfl) ?_
              refine lv_iload_n hx hb dX8_near_49 rfl (lv_at hl 1 rfl) ?_
              refine lv_iload_n hx hb dX8_near_50 rfl (lv_at hl 2 rfl) ?_
              refine lv_iload hx hb dX8_near_51 (lv_at hl 5 rfl) ?_
              refine m_wrV (As := [.int (nI (cN ve)), .int (nI (cN a)), .int (nI w)]) (rest := [.int (nI f)]) (wc := [(mo, .inr (8, [.int (nI ps), .ref mpa, .int (nI nl), .int (nI nv), .ref msz, .ref mcd, .ref mbe, .ref mba, .int ol, .int (nI op), .int (nI os), .int (nI svn), .ref ms1, .ref ms2, .ref ms3, .ref ms4, .ref mfa, .ref mim, .ref mik])), (mfa, aN cI 9 ct), (msz, aN cI 80 z), (mcd, aN cI 640 g)]) hcf (k_X8_farOf (l := l) (D := D) (cI := cI) (cZ := cZ) (v := cN ve) (ln := cN a) (ot := w) (mo := mo) (ps := ps) (mpa := mpa) (nl := nl) (nv := nv) (msz := msz) (mcd := mcd) (mbe := mbe) (mba := mba) (ol := ol) (op := op) (os := os) (svn := svn) (ms1 := ms1) (ms2 := ms2) (ms3 := ms3) (ms4 := ms4) (mfa := mfa) (mim := mim) (mik := mik) (fr := ct) (z := z) (g := g) (hz := hz) (hg := hg) (hfr := hct) (hv := by omega) (h1 := by omega) (h2 := by omega)) (cwV 3 hts gX8_near_X8_farOf rfl rfl rfl yd_X8_farOf ⟨Nat.le_of_ble_eq_true rfl, Nat.le_of_ble_eq_true rfl⟩) hK hP hD hS [0, 1, 2, 3] (by decide) rfl rfl rfl rfl hl.1 rfl (Nat.le_of_ble_eq_true rfl) dX8_near_53 ⟨Nat.zero_le _, Nat.zero_le _⟩ (fun _ => rfl) (fun (u : (Nat → Nat)) => [(mo, .inr (8, [.int (nI ps), .ref mpa, .int (nI nl), .int (nI nv), .ref msz, .ref mcd, .ref mbe, .ref mba, .int ol, .int (nI op), .int (nI os), .int (nI svn), .ref ms1, .ref ms2, .ref ms3, .ref ms4, .ref mfa, .ref mim, .ref mik])), (mfa, aN cI 9 u), (msz, aN cI 80 z), (mcd, aN cI 640 g)]) (fun _ => rfl) (fun r u H locs hp_53 hP hD hS => ?_)
              obtain ⟨fru_53, rfl⟩ : ∃ z, z = u := ⟨_, rfl⟩
              have hP : va_P D vwCl [(mo, .inr (8, [.int (nI ps), .ref mpa, .int (nI nl), .int (nI nv), .ref msz, .ref mcd, .ref mbe, .ref mba, .int ol, .int (nI op), .int (nI os), .int (nI svn), .ref ms1, .ref ms2, .ref ms3, .ref ms4, .ref mfa, .ref mim, .ref mik])), (mfa, aN cI 9 fru_53), (msz, aN cI 80 z), (mcd, aN cI 640 g)] H := hP
              have hD : va_D A [(mo, .inr (8, [.int (nI ps), .ref mpa, .int (nI nl), .int (nI nv), .ref msz, .ref mcd, .ref mbe, .ref mba, .int ol, .int (nI op), .int (nI os), .int (nI svn), .ref ms1, .ref ms2, .ref ms3, .ref ms4, .ref mfa, .ref mim, .ref mik])), (mfa, aN cI 9 fru_53), (msz, aN cI 80 z), (mcd, aN cI 640 g)] := hD
              try dsimp only at hp_53
              obtain ⟨hr_hp_53, hp_53⟩ := hp_53
              rw [hr_hp_53]
              have hf9 := faN_le (g := g) hz (cN ve) (cN a) w
              refine lv_iload_n hx hb dX8_near_56 rfl (lv_at hl 3 rfl) ?_
              refine m_cmp_gt (tgt := 67) hx hb dX8_near_57 (by decide) (by omega) (by omega) (fun c_57 => ?_) (fun c_57 => ?_)
              · refine lv_iconst (v := nI 0) hx hb dX8_near_67 (by decide) ?_
                refine m_or hx hb dX8_near_68 ?_
                refine lv_istore (lv' := [(4, .int (nI (f ||| 0))), (0, .ref mo), (1, .int (nI (cN ve))), (2, .int (nI (cN a))), (3, .int (nI (cN co))), (5, .int (nI w))]) hx hb dX8_near_69 hl (by decide) rfl (fun ls hl => ?_)
                refine lv_iinc (v := nI (w + 1)) (lv' := [(5, .int (nI (w + 1))), (4, .int (nI (f ||| 0))), (0, .ref mo), (1, .int (nI (cN ve))), (2, .int (nI (cN a))), (3, .int (nI (cN co)))]) hx hb dX8_near_71 hl (k := 5) rfl ((nI_succ _).symm) (by decide) rfl (fun ls hl => ?_)
                refine lv_goto (tgt := 37) hx hb dX8_near_74 (by decide) ?_
                exact ih_37 (w + 1) _ _ (by omega) (by omega) hp_53 (by rw [Nat.or_zero, hf]; exact mkN_f (decide_eq_false (by omega))) _ _ hP hD hS ls (lv_sub hl [2, 3, 4, 5, 1, 0] rfl)
              · refine lv_iconst (v := nI 1) hx hb dX8_near_60 (by decide) ?_
                refine lv_iload hx hb dX8_near_61 (lv_at hl 5 rfl) ?_
                refine m_shl1 hx hb (by omega) dX8_near_63 ?_
                refine lv_goto (tgt := 68) hx hb dX8_near_64 (by decide) ?_
                refine m_or hx hb dX8_near_68 ?_
                refine lv_istore (lv' := [(4, .int (nI (f ||| (2 ^ w)))), (0, .ref mo), (1, .int (nI (cN ve))), (2, .int (nI (cN a))), (3, .int (nI (cN co))), (5, .int (nI w))]) hx hb dX8_near_69 hl (by decide) rfl (fun ls hl => ?_)
                refine lv_iinc (v := nI (w + 1)) (lv' := [(5, .int (nI (w + 1))), (4, .int (nI (f ||| (2 ^ w)))), (0, .ref mo), (1, .int (nI (cN ve))), (2, .int (nI (cN a))), (3, .int (nI (cN co)))]) hx hb dX8_near_71 hl (k := 5) rfl ((nI_succ _).symm) (by decide) rfl (fun ls hl => ?_)
                refine lv_goto (tgt := 37) hx hb dX8_near_74 (by decide) ?_
                exact ih_37 (w + 1) _ _ (by omega) (by omega) hp_53 (by rw [hf]; exact mkN_t (decide_eq_true (by omega))) _ _ hP hD hS ls (lv_sub hl [2, 3, 4, 5, 1, 0] rfl)
        exact loop_37 (nl + 1) 0 0 fr (by omega) (by omega) hfr rfl _ _ hP hD hS ls (lv_sub hl [2, 3, 4, 5, 1, 0] rfl)
      · refine lv_bipush (v := (-2)) hx hb dX8_near_28 (by decide) ?_
        rw [hQ]
        exact m_iwr hx hb hr hlocks fr (⟨by unfold neaR; rw [if_pos K9, if_neg (by rw [c_25]; decide)], hfr⟩) hP hS dX8_near_30
    · refine lv_iconst (v := (-1)) hx hb dX8_near_16 (by decide) ?_
      rw [hQ]
      exact m_iwr hx hb hr hlocks fr (⟨by unfold neaR; rw [if_neg (by first | (simp [c_5]; done) | (simp [c_13]; done))], hfr⟩) hP hS dX8_near_17

theorem yd_X8_told : yX8_told.cls = RX8 ∧ yX8_told.cls ≠ "java/lang/invoke/MethodHandle" ∧ yX8_told.cls ≠ "java/lang/invoke/VarHandle" ∧ (parseMethodDescriptor yX8_told.desc).map (fun d => d.parameters.length) = some 1 := by decide +kernel
set_option maxHeartbeats 4000000 in
set_option maxRecDepth 100000 in
theorem k_X8_told (l : Launch) (D : va_G) (cI cZ : ClassId) (mo ps mpa nl nv msz mcd mbe mba : Nat) (ol : Int32) (op os svn ms1 ms2 ms3 ms4 mfa mim mik : Nat) (wh : Int32)  : Met l yX8_told wsX8_told ({ frames := 0, cells := 0, slots := 0, locals := 0 }) (mPc [.ref mo, .int wh] D cI cZ [(mo, .inr (8, [.int (nI ps), .ref mpa, .int (nI nl), .int (nI nv), .ref msz, .ref mcd, .ref mbe, .ref mba, .int ol, .int (nI op), .int (nI os), .int (nI svn), .ref ms1, .ref ms2, .ref ms3, .ref ms4, .ref mfa, .ref mim, .ref mik]))]) (QcRead (tolR ps nl nv wh)) 0 0 (fun _ => False) := by
  refine Met.ofW (cc := cX8_told) (maxL := 2) (ret := (some .int)) (by decide) rfl ?_
  intro p e s m args below meth c s₁ BB hml hv
  obtain ⟨hargs, hP, hD0, hK⟩ := hv
  have hx := BB.exec
  have hb := BB.bytes
  have hr := BB.returns
  have hts := atoms_spec (ws := wsX8_told) BB.pre
  have hown : s.vm.findClass RX8 = some m.cls := findClass_of_methodNamed BB.named
  have hlocks := BB.notSynchronized
  have hcf : CallFix p m c cX8_told 2 s args wsX8_told RX8 := ⟨hx, hb, hml, hown, hts⟩
  have hD := hD0
  rw [hargs, lg_entry_eq, ← hargs]
  have hl := lv_entry ([.ref mo, .int wh]) (n := 2) (Nat.le_of_ble_eq_true rfl)
  generalize (lg_sl ([.ref mo, .int wh]) ++ List.replicate (2 - (lg_sl ([.ref mo, .int wh])).length) Slot.unset).toArray = ls at hl ⊢
  have hl : lv_has ls 2 [(0, .ref mo), (1, .int wh)] := hl
  obtain ⟨Q, hQ⟩ : ∃ Q, Q = MQ below (QcRead (tolR ps nl nv wh)) args s 0 0 (fun _ => False) := ⟨_, rfl⟩
  rw [← hQ]
  have i_X8 : ∀ w ∈ u_ws RX8 TX8 19, w ∈ wsX8_told := by decide +kernel
  have f_51 := hts (.fieldLink RX8 51 "SameAgainModel" "versions" "I") (by decide +kernel)
  have f_58 := hts (.fieldLink RX8 58 "SameAgainModel" "lines" "I") (by decide +kernel)
  have f_61 := hts (.fieldLink RX8 61 "SameAgainModel" "signs" "I") (by decide +kernel)
  refine lv_iload_n hx hb dX8_told_0 rfl (lv_at hl 1 rfl) ?_
  refine lv_if_ne (tgt := 11) hx hb dX8_told_1 (by decide) (fun c_1 => ?_) (fun c_1 => ?_)
  · refine lv_iload_n hx hb dX8_told_11 rfl (lv_at hl 1 rfl) ?_
    refine lv_iconst (v := nI 1) hx hb dX8_told_12 (by decide) ?_
    refine lv_icmp_ne (tgt := 23) hx hb dX8_told_13 (by decide) (fun c_13 => ?_) (fun c_13 => ?_)
    · refine lv_iload_n hx hb dX8_told_23 rfl (lv_at hl 1 rfl) ?_
      refine lv_iconst (v := nI 2) hx hb dX8_told_24 (by decide) ?_
      refine lv_icmp_ne (tgt := 35) hx hb dX8_told_25 (by decide) (fun c_25 => ?_) (fun c_25 => ?_)
      · refine lv_bipush (v := (-2)) hx hb dX8_told_35 (by decide) ?_
        rw [hQ]
        exact m_ird hx hb hr hlocks (by unfold tolR; rw [if_neg c_1, if_neg (show ¬ wh = 1 from c_13), if_neg (show ¬ wh = 2 from c_25)]) dX8_told_37
      · refine lv_aload_n hx hb dX8_told_28 rfl (lv_at hl 0 rfl) ?_
        refine va_get (D := D) (ci := 8) (v := .int (nI nv)) (C := RX8) (T := TX8) (N := 19) hx hb hts i_X8 hown hK.1 hP 0 rfl rfl 3 (by decide) f_51 (fun _ h9 => h9) rfl dX8_told_29 ?_
        refine lv_goto (tgt := 37) hx hb dX8_told_32 (by decide) ?_
        rw [hQ]
        exact m_ird hx hb hr hlocks (by unfold tolR; rw [if_neg c_1, if_neg (show ¬ wh = 1 from c_13), if_pos (show wh = 2 from c_25)]) dX8_told_37
    · refine lv_aload_n hx hb dX8_told_16 rfl (lv_at hl 0 rfl) ?_
      refine va_get (D := D) (ci := 8) (v := .int (nI nl)) (C := RX8) (T := TX8) (N := 19) hx hb hts i_X8 hown hK.1 hP 0 rfl rfl 2 (by decide) f_58 (fun _ h9 => h9) rfl dX8_told_17 ?_
      refine lv_goto (tgt := 37) hx hb dX8_told_20 (by decide) ?_
      rw [hQ]
      exact m_ird hx hb hr hlocks (by unfold tolR; rw [if_neg c_1, if_pos (show wh = 1 from c_13)]) dX8_told_37
  · refine lv_aload_n hx hb dX8_told_4 rfl (lv_at hl 0 rfl) ?_
    refine va_get (D := D) (ci := 8) (v := .int (nI ps)) (C := RX8) (T := TX8) (N := 19) hx hb hts i_X8 hown hK.1 hP 0 rfl rfl 0 (by decide) f_61 (fun _ h9 => h9) rfl dX8_told_5 ?_
    refine lv_goto (tgt := 37) hx hb dX8_told_8 (by decide) ?_
    rw [hQ]
    exact m_ird hx hb hr hlocks (by unfold tolR; rw [if_pos c_1]) dX8_told_37
