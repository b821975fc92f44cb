theorem yd_X8_best : yX8_best.cls = RX8 ∧ yX8_best.cls ≠ "java/lang/invoke/MethodHandle" ∧ yX8_best.cls ≠ "java/lang/invoke/VarHandle" ∧ (parseMethodDescriptor yX8_best.desc).map (fun d => d.parameters.length) = some 3 := by decide +kernel
set_option maxHeartbeats 4000000 in
set_option maxRecDepth 100000 in
theorem k_X8_best (l : Launch) (D : va_G) (cI cZ : ClassId) (mo ps mpa nl nv msz mcd mbe mba : Nat) (ol : Int32) (op os svn ms1 ms2 ms3 ms4 mfa mim mik : Nat) (be ba : Nat → Nat) (z g : Nat → Nat) (s1 s2 s3 s4 : Nat → Nat) (ve way wh : Int32) (hnl : nl ≤ 20) (hnv : nv ≤ 4) (hz : ∀ j, z j ≤ 8) (hg : ∀ j, g j ≤ 126) (hbe : ∀ j, be j ≤ 126) (hba : ∀ j, ba j ≤ 126) (hop : op ≤ 100) (hos : os ≤ 126) (hrf : ∀ w n, 1 ≤ n → n ≤ 20 → w + n ≤ nl → rmB (cN way) z g (cN ve) nl w w n ol op os = true) : Met l yX8_best wsX8_best ({ frames := 6, cells := 0, slots := 0, locals := 158 }) (mPc [.ref mo, .int ve, .int way, .int wh] D cI cZ [(mo, .inr (8, [.int (nI ps), .ref mpa, .int (nI nl), .int (nI nv), .ref msz, .ref mcd, .ref mbe, .ref mba, .int ol, .int (nI op), .int (nI os), .int (nI svn), .ref ms1, .ref ms2, .ref ms3, .ref ms4, .ref mfa, .ref mim, .ref mik])), (mbe, aN cI 26 be), (mba, aN cI 26 ba), (msz, aN cI 80 z), (mcd, aN cI 640 g), (ms1, aN cI 400 s1), (ms2, aN cI 400 s2), (ms3, aN cI 400 s3), (ms4, aN cI 400 s4)]) (mQi D (mA [(mo, .inr (8, [.int (nI ps), .ref mpa, .int (nI nl), .int (nI nv), .ref msz, .ref mcd, .ref mbe, .ref mba, .int ol, .int (nI op), .int (nI os), .int (nI svn), .ref ms1, .ref ms2, .ref ms3, .ref ms4, .ref mfa, .ref mim, .ref mik])), (mbe, aN cI 26 be), (mba, aN cI 26 ba), (msz, aN cI 80 z), (mcd, aN cI 640 g), (ms1, aN cI 400 s1), (ms2, aN cI 400 s2), (ms3, aN cI 400 s3), (ms4, aN cI 400 s4)]) (fun (r : Int32) (u : (Nat → Nat) × (Nat → Nat) × Nat × (Nat → Nat) × (Nat → Nat) × (Nat → Nat) × (Nat → Nat)) => r = rfQ nv ve (ixB way 3 && ixB wh 3) (beR (allL (fun n w => mcO z g (cN ve) nl (mkN (fun k => rmB (cN way) z g (cN ve) nl w k n ol op os) (nl + 1 - n)) n w) nl (nl / 2)) wh) ∧ (∀ j, u.1 j ≤ 126) ∧ (∀ j, u.2.1 j ≤ 126)) (fun (u : (Nat → Nat) × (Nat → Nat) × Nat × (Nat → Nat) × (Nat → Nat) × (Nat → Nat) × (Nat → Nat)) => [(mo, .inr (8, [.int (nI ps), .ref mpa, .int (nI nl), .int (nI nv), .ref msz, .ref mcd, .ref mbe, .ref mba, .int ol, .int (nI op), .int (nI os), .int (nI u.2.2.1), .ref ms1, .ref ms2, .ref ms3, .ref ms4, .ref mfa, .ref mim, .ref mik])), (mbe, aN cI 26 u.1), (mba, aN cI 26 u.2.1), (msz, aN cI 80 z), (mcd, aN cI 640 g), (ms1, aN cI 400 u.2.2.2.1), (ms2, aN cI 400 u.2.2.2.2.1), (ms3, aN cI 400 u.2.2.2.2.2.1), (ms4, aN cI 400 u.2.2.2.2.2.2)])) 0 0 (mA [(mo, .inr (8, [.int (nI ps), .ref mpa, .int (nI nl), .int (nI nv), .ref msz, .ref mcd, .ref mbe, .ref mba, .int ol, .int (nI op), .int (nI os), .int (nI svn), .ref ms1, .ref ms2, .ref ms3, .ref ms4, .ref mfa, .ref mim, .ref mik])), (mbe, aN cI 26 be), (mba, aN cI 26 ba), (msz, aN cI 80 z), (mcd, aN cI 640 g), (ms1, aN cI 400 s1), (ms2, aN cI 400 s2), (ms3, aN cI 400 s3), (ms4, aN cI 400 s4)]) := by
  refine Met.ofW (cc := cX8_best) (maxL := 6) (ret := (some .int)) (by decide) rfl ?_
  intro p e s m args below meth c s₁ BB hml hv
  obtain ⟨hargs, hP, hD0, hK⟩ := hv
  have hx := BB.exec
  have hb := BB.bytes
  have hr := BB.returns
  have hts := atoms_spec (ws := wsX8_best) BB.pre
  have hown : s.vm.findClass RX8 = some m.cls := findClass_of_methodNamed BB.named
  have hlocks := BB.notSynchronized
  have hcf : CallFix p m c cX8_best 6 s args wsX8_best RX8 := ⟨hx, hb, hml, hown, hts⟩
  obtain ⟨A, hAe⟩ : ∃ A, A = mA [(mo, .inr (8, [.int (nI ps), .ref mpa, .int (nI nl), .int (nI nv), .ref msz, .ref mcd, .ref mbe, .ref mba, .int ol, .int (nI op), .int (nI os), .int (nI svn), .ref ms1, .ref ms2, .ref ms3, .ref ms4, .ref mfa, .ref mim, .ref mik])), (mbe, aN cI 26 be), (mba, aN cI 26 ba), (msz, aN cI 80 z), (mcd, aN cI 640 g), (ms1, aN cI 400 s1), (ms2, aN cI 400 s2), (ms3, aN cI 400 s3), (ms4, aN cI 400 s4)] := ⟨_, rfl⟩
  have hD : va_D A [(mo, .inr (8, [.int (nI ps), .ref mpa, .int (nI nl), .int (nI nv), .ref msz, .ref mcd, .ref mbe, .ref mba, .int ol, .int (nI op), .int (nI os), .int (nI svn), .ref ms1, .ref ms2, .ref ms3, .ref ms4, .ref mfa, .ref mim, .ref mik])), (mbe, aN cI 26 be), (mba, aN cI 26 ba), (msz, aN cI 80 z), (mcd, aN cI 640 g), (ms1, aN cI 400 s1), (ms2, aN cI 400 s2), (ms3, aN cI 400 s3), (ms4, aN cI 400 s4)] := ⟨hD0.1, fun k q h => by rw [hAe]; exact ⟨k, q.2, h⟩⟩
  have hS : va_S A s.heap s.heap [] := va_S.rf
  rw [← hAe]
  rw [hargs, lg_entry_eq, ← hargs]
  have hl := lv_entry ([.ref mo, .int ve, .int way, .int wh]) (n := 6) (Nat.le_of_ble_eq_true rfl)
  generalize (lg_sl ([.ref mo, .int ve, .int way, .int wh]) ++ List.replicate (6 - (lg_sl ([.ref mo, .int ve, .int way, .int wh])).length) Slot.unset).toArray = ls at hl ⊢
  have hl : lv_has ls 6 [(0, .ref mo), (1, .int ve), (2, .int way), (3, .int wh)] := hl
  obtain ⟨Q, hQ⟩ : ∃ Q, Q = MQ below (mQi D A (fun (r : Int32) (u : (Nat → Nat) × (Nat → Nat) × Nat × (Nat → Nat) × (Nat → Nat) × (Nat → Nat) × (Nat → Nat)) => r = rfQ nv ve (ixB way 3 && ixB wh 3) (beR (allL (fun n w => mcO z g (cN ve) nl (mkN (fun k => rmB (cN way) z g (cN ve) nl w k n ol op os) (nl + 1 - n)) n w) nl (nl / 2)) wh) ∧ (∀ j, u.1 j ≤ 126) ∧ (∀ j, u.2.1 j ≤ 126)) (fun (u : (Nat → Nat) × (Nat → Nat) × Nat × (Nat → Nat) × (Nat → Nat) × (Nat → Nat) × (Nat → Nat)) => [(mo, .inr (8, [.int (nI ps), .ref mpa, .int (nI nl), .int (nI nv), .ref msz, .ref mcd, .ref mbe, .ref mba, .int ol, .int (nI op), .int (nI os), .int (nI u.2.2.1), .ref ms1, .ref ms2, .ref ms3, .ref ms4, .ref mfa, .ref mim, .ref mik])), (mbe, aN cI 26 u.1), (mba, aN cI 26 u.2.1), (msz, aN cI 80 z), (mcd, aN cI 640 g), (ms1, aN cI 400 u.2.2.2.1), (ms2, aN cI 400 u.2.2.2.2.1), (ms3, aN cI 400 u.2.2.2.2.2.1), (ms4, aN cI 400 u.2.2.2.2.2.2)])) args s 0 0 A := ⟨_, rfl⟩
  rw [← hQ]
  have i_X8 : ∀ w ∈ u_ws RX8 TX8 19, w ∈ wsX8_best := by decide +kernel
  have f_152 := hts (.fieldLink RX8 152 "SameAgainModel" "savings" "I") (by decide +kernel)
  have f_35 := hts (.fieldLink RX8 35 "SameAgainModel" "savesLength" "[I") (by decide +kernel)
  have f_32 := hts (.fieldLink RX8 32 "SameAgainModel" "savesStart" "[I") (by decide +kernel)
  have f_29 := hts (.fieldLink RX8 29 "SameAgainModel" "saves" "[I") (by decide +kernel)
  refine lv_aload_n hx hb dX8_best_0 rfl (lv_at hl 0 rfl) ?_
  refine lv_iload_n hx hb dX8_best_1 rfl (lv_at hl 1 rfl) ?_
  refine m_rdV (As := [.int ve]) (rest := []) (wc := [(mo, .inr (8, [.int (nI ps), .ref mpa, .int (nI nl), .int (nI nv), .ref msz, .ref mcd, .ref mbe, .ref mba, .int ol, .int (nI op), .int (nI os), .int (nI svn), .ref ms1, .ref ms2, .ref ms3, .ref ms4, .ref mfa, .ref mim, .ref mik]))]) hcf (k_X8_isVersion (l := l) (D := D) (cI := cI) (cZ := cZ) (x := ve) (mo := mo) (ps := ps) (mpa := mpa) (nl := nl) (nv := nv) (msz := msz) (mcd := mcd) (mbe := mbe) (mba := mba) (ol := ol) (op := op) (os := os) (svn := svn) (ms1 := ms1) (ms2 := ms2) (ms3 := ms3) (ms4 := ms4) (mfa := mfa) (mim := mim) (mik := mik) (hnl := hnl) (hnv := hnv)) (cwV 1 hts gX8_best_X8_isVersion rfl rfl rfl yd_X8_isVersion ⟨Nat.le_of_ble_eq_true rfl, Nat.le_of_ble_eq_true rfl⟩) (m_preV hK hP hD [0] (by decide) rfl rfl rfl) rfl hl.1 rfl (Nat.le_of_ble_eq_true rfl) dX8_best_2 ⟨Nat.zero_le _, Nat.zero_le _⟩ ?_
  refine m_ifB_ne (tgt := 10) hx hb dX8_best_5 (by decide) (fun c_5 => ?_) (fun c_5 => ?_)
  · obtain ⟨e_v, i_v⟩ := ixB_cN (by omega) c_5
    refine lv_iload_n hx hb dX8_best_10 rfl (lv_at hl 2 rfl) ?_
    refine m_rdS (As := [.int way]) (rest := []) (wc := []) hcf (k_X8_isWay (l := l) (D := D) (cI := cI) (cZ := cZ) (x := way) ) (va_cwS 1 hts gX8_best_X8_isWay rfl rfl rfl yd_X8_isWay.2 ⟨Nat.le_of_ble_eq_true rfl, Nat.le_of_ble_eq_true rfl⟩) (m_preS hK hP hD [] (by decide) rfl) rfl hl.1 rfl (Nat.le_of_ble_eq_true rfl) dX8_best_11 ⟨Nat.zero_le _, Nat.zero_le _⟩ ?_
    refine m_ifB_eq (tgt := 26) hx hb dX8_best_14 (by decide) (fun c_14 => ?_) (fun c_14 => ?_)
    · refine lv_bipush (v := (-2)) hx hb dX8_best_26 (by decide) ?_
      rw [hQ]
      exact m_iwr hx hb hr hlocks (be, ba, svn, s1, s2, s3, s4) (⟨by rw [rfQ_o c_5 (by first | (simp [c_14, c_23]; done) | (simp [c_14]; done) | (simp [c_23]; done))], hbe, hba⟩) hP hS dX8_best_28
    · obtain ⟨e_w, i_w⟩ := ixB_cN (by decide) c_14
      refine lv_iload_n hx hb dX8_best_17 rfl (lv_at hl 3 rfl) ?_
      refine lv_iconst (v := nI 0) hx hb dX8_best_18 (by decide) ?_
      refine lv_iconst (v := nI 2) hx hb dX8_best_19 (by decide) ?_
      refine m_rdS (As := [.int wh, .int (nI 0), .int (nI 2)]) (rest := []) (wc := []) hcf (k_X8_in (l := l) (D := D) (cI := cI) (cZ := cZ) (x := wh) (lo := nI 0) (hi := nI 2) ) (va_cwS 3 hts gX8_best_X8_in rfl rfl rfl yd_X8_in.2 ⟨Nat.le_of_ble_eq_true rfl, Nat.le_of_ble_eq_true rfl⟩) (m_preS hK hP hD [] (by decide) rfl) rfl hl.1 rfl (Nat.le_of_ble_eq_true rfl) dX8_best_20 ⟨Nat.zero_le _, Nat.zero_le _⟩ ?_
      refine m_top (y := bI (ixB wh 3)) (by rw [inB_ix0 (by decide)]) ?_
      refine m_ifB_ne (tgt := 29) hx hb dX8_best_23 (by decide) (fun c_23 => ?_) (fun c_23 => ?_)
      · have KI : (ixB way 3 && ixB wh 3) = true := by first | (simp [c_14, c_23]; done) | (simp [c_14]; done) | (simp [c_23]; done)
        have hl : lv_has ls 6 [(0, .ref mo), (1, .int (nI (cN ve))), (2, .int (nI (cN way))), (3, .int wh)] := by rw [← e_v, ← e_w]; exact hl
        refine lv_aload_n hx hb dX8_best_29 rfl (lv_at hl 0 rfl) ?_
        refine lv_iload_n hx hb dX8_best_30 rfl (lv_at hl 1 rfl) ?_
        refine lv_iload_n hx hb dX8_best_31 rfl (lv_at hl 2 rfl) ?_
        refine m_wvV (As := [.int (nI (cN ve)), .int (nI (cN way))]) (rest := []) (wc := [(mo, .inr (8, [.int (nI ps), .ref mpa, .int (nI nl), .int (nI nv), .ref msz, .ref mcd, .ref mbe, .ref mba, .int ol, .int (nI op), .int (nI os), .int (nI svn), .ref ms1, .ref ms2, .ref ms3, .ref ms4, .ref mfa, .ref mim, .ref mik])), (mbe, aN cI 26 be), (mba, aN cI 26 ba), (msz, aN cI 80 z), (mcd, aN cI 640 g), (ms1, aN cI 400 s1), (ms2, aN cI 400 s2), (ms3, aN cI 400 s3), (ms4, aN cI 400 s4)]) hcf (k_X8_laySavings (l := l) (D := D) (cI := cI) (cZ := cZ) (v := cN ve) (way := cN way) (mo := mo) (ps := ps) (mpa := mpa) (nl := nl) (nv := nv) (msz := msz) (mcd := mcd) (mbe := mbe) (mba := mba) (ol := ol) (op := op) (os := os) (svn := svn) (ms1 := ms1) (ms2 := ms2) (ms3 := ms3) (ms4 := ms4) (mfa := mfa) (mim := mim) (mik := mik) (be := be) (ba := ba) (z := z) (g := g) (s1 := s1) (s2 := s2) (s3 := s3) (s4 := s4) (hnl := hnl) (hnv := hnv) (hz := hz) (hg := hg) (hbe := hbe) (hba := hba) (hop := hop) (hos := hos) (hw := by omega) (hv := by omega) (hrf := hrf)) (cwV 2 hts gX8_best_X8_laySavings rfl rfl rfl yd_X8_laySavings ⟨Nat.le_of_ble_eq_true rfl, Nat.le_of_ble_eq_true rfl⟩) hK hP hD hS [0, 1, 2, 3, 4, 5, 6, 7, 8] (by decide) rfl rfl rfl rfl hl.1 rfl (Nat.le_of_ble_eq_true rfl) dX8_best_32 ⟨Nat.zero_le _, Nat.zero_le _⟩ (fun _ => rfl) (fun (u : (Nat → Nat) × (Nat → Nat) × Nat × (Nat → Nat) × (Nat → Nat) × (Nat → Nat) × (Nat → Nat)) => [(mo, .inr (8, [.int (nI ps), .ref mpa, .int (nI nl), .int (nI nv), .ref msz, .ref mcd, .ref mbe, .ref mba, .int ol, .int (nI op), .int (nI os), .int (nI u.2.2.1), .ref ms1, .ref ms2, .ref ms3, .ref ms4, .ref mfa, .ref mim, .ref mik])), (mbe, aN cI 26 u.1), (mba, aN cI 26 u.2.1), (msz, aN cI 80 z), (mcd, aN cI 640 g), (ms1, aN cI 400 u.2.2.2.1), (ms2, aN cI 400 u.2.2.2.2.1), (ms3, aN cI 400 u.2.2.2.2.2.1), (ms4, aN cI 400 u.2.2.2.2.2.2)]) (fun _ => rfl) (fun u H locs hp_32 hP hD hS => ?_)
        obtain ⟨beu_32, bau_32, svu_32, s1u_32, s2u_32, s3u_32, s4u_32⟩ := u
        have hP : va_P D vwCl [(mo, .inr (8, [.int (nI ps), .ref mpa, .int (nI nl), .int (nI nv), .ref msz, .ref mcd, .ref mbe, .ref mba, .int ol, .int (nI op), .int (nI os), .int (nI svu_32), .ref ms1, .ref ms2, .ref ms3, .ref ms4, .ref mfa, .ref mim, .ref mik])), (mbe, aN cI 26 beu_32), (mba, aN cI 26 bau_32), (msz, aN cI 80 z), (mcd, aN cI 640 g), (ms1, aN cI 400 s1u_32), (ms2, aN cI 400 s2u_32), (ms3, aN cI 400 s3u_32), (ms4, aN cI 400 s4u_32)] H := hP
        have hD : va_D A [(mo, .inr (8, [.int (nI ps), .ref mpa, .int (nI nl), .int (nI nv), .ref msz, .ref mcd, .ref mbe, .ref mba, .int ol, .int (nI op), .int (nI os), .int (nI svu_32), .ref ms1, .ref ms2, .ref ms3, .ref ms4, .ref mfa, .ref mim, .ref mik])), (mbe, aN cI 26 beu_32), (mba, aN cI 26 bau_32), (msz, aN cI 80 z), (mcd, aN cI 640 g), (ms1, aN cI 400 s1u_32), (ms2, aN cI 400 s2u_32), (ms3, aN cI 400 s3u_32), (ms4, aN cI 400 s4u_32)] := hD
        try dsimp only at hp_32
        refine lv_bipush (v := (-6)) hx hb dX8_best_35 (by decide) ?_
        refine lv_istore (lv' := [(4, .int (-6)), (0, .ref mo), (1, .int (nI (cN ve))), (2, .int (nI (cN way))), (3, .int wh)]) hx hb dX8_best_37 hl (by decide) rfl (fun ls hl => ?_)
        refine lv_iconst (v := nI 0) hx hb dX8_best_39 (by decide) ?_
        refine lv_istore (lv' := [(5, .int (nI 0)), (4, .int (-6)), (0, .ref mo), (1, .int (nI (cN ve))), (2, .int (nI (cN way))), (3, .int wh)]) hx hb dX8_best_40 hl (by decide) rfl (fun ls hl => ?_)
        have loop_42 : ∀ (fu : Nat) (k : Nat) (bx : Int32) (hfu : svu_32 - k < fu)  (hk : k ≤ svu_32) (hbx : bmI (allL (fun n w => mcO z g (cN ve) nl (mkN (fun k => rmB (cN way) z g (cN ve) nl w k n ol op os) (nl + 1 - n)) n w) nl (nl / 2)) k bx) (H : Heap) (locs : List Loc) (hP : va_P D vwCl [(mo, .inr (8, [.int (nI ps), .ref mpa, .int (nI nl), .int (nI nv), .ref msz, .ref mcd, .ref mbe, .ref mba, .int ol, .int (nI op), .int (nI os), .int (nI svu_32), .ref ms1, .ref ms2, .ref ms3, .ref ms4, .ref mfa, .ref mim, .ref mik])), (mbe, aN cI 26 beu_32), (mba, aN cI 26 bau_32), (msz, aN cI 80 z), (mcd, aN cI 640 g), (ms1, aN cI 400 s1u_32), (ms2, aN cI 400 s2u_32), (ms3, aN cI 400 s3u_32), (ms4, aN cI 400 s4u_32)] H) (hD : va_D A [(mo, .inr (8, [.int (nI ps), .ref mpa, .int (nI nl), .int (nI nv), .ref msz, .ref mcd, .ref mbe, .ref mba, .int ol, .int (nI op), .int (nI os), .int (nI svu_32), .ref ms1, .ref ms2, .ref ms3, .ref ms4, .ref mfa, .ref mim, .ref mik])), (mbe, aN cI 26 beu_32), (mba, aN cI 26 bau_32), (msz, aN cI 80 z), (mcd, aN cI 640 g), (ms1, aN cI 400 s1u_32), (ms2, aN cI 400 s2u_32), (ms3, aN cI 400 s3u_32), (ms4, aN cI 400 s4u_32)]) (hS : va_S A s.heap H locs) (ls : Array Slot) (hl : lv_has ls 6 [(0, .ref mo), (1, .int (nI (cN ve))), (2, .int (nI (cN way))), (3, .int wh), (4, .int bx), (5, .int (nI k))]), W p l e (headSpec wsX8_best { frames := 6, cells := 0, slots := 0, locals := 158 }).room s m args below meth c H locs 0 0 Q (F0 m 42 ls []) := by
          intro fu
          induction fu with
          | zero => intro k bx hfu; exact absurd hfu (Nat.not_lt_zero _)
          | succ fu ih_42 =>
            intro k bx hfu hk hbx H locs hP hD hS ls hl
            refine lv_iload hx hb dX8_best_42 (lv_at hl 5 rfl) ?_
            refine lv_aload_n hx hb dX8_best_44 rfl (lv_at hl 0 rfl) ?_
            refine va_get (D := D) (ci := 8) (v := .int (nI svu_32)) (C := RX8) (T := TX8) (N := 19) hx hb hts i_X8 hown hK.1 hP 0 rfl rfl 11 (by decide) f_152 (fun _ h9 => h9) rfl dX8_best_45 ?_
            refine m_cmp_ge (tgt := 88) hx hb dX8_best_48 (by decide) (by omega) (by omega) (fun c_48 => ?_) (fun c_48 => ?_)
            · refine lv_iload hx hb dX8_best_88 (lv_at hl 4 rfl) ?_
              refine lv_if_ge (tgt := 98) hx hb dX8_best_90 (by decide) (fun c_90 => ?_) (fun c_90 => ?_)
              · obtain ⟨b8, y8, hb8, hy8, e_b8, hm8⟩ := bm_of hbx (fun h => by (rw [fa_lt] at h; have h7 := (fa_le 0 bx).mp c_90; omega))
                obtain ⟨y8b, hy8b, e8, z8⟩ := psM_at hp_32.1 (show b8 < svu_32 by omega)
                have ey8 : y8b = y8 := Option.some.inj (hy8b.symm.trans hy8)
                rw [ey8] at e8 z8
                have hl : lv_has ls 6 [(0, .ref mo), (1, .int (nI (cN ve))), (2, .int (nI (cN way))), (3, .int wh), (4, .int (nI b8)), (5, .int (nI k))] := by rw [← e_b8]; exact hl
                refine lv_iload_n hx hb dX8_best_98 rfl (lv_at hl 3 rfl) ?_
                refine lv_if_ne (tgt := 112) hx hb dX8_best_99 (by decide) (fun c_99 => ?_) (fun c_99 => ?_)
                · refine lv_iload_n hx hb dX8_best_112 rfl (lv_at hl 3 rfl) ?_
                  refine lv_iconst (v := nI 1) hx hb dX8_best_113 (by decide) ?_
                  refine lv_icmp_ne (tgt := 127) hx hb dX8_best_114 (by decide) (fun c_114 => ?_) (fun c_114 => ?_)
                  · refine lv_aload_n hx hb dX8_best_127 rfl (lv_at hl 0 rfl) ?_
                    refine va_get (D := D) (ci := 8) (v := .ref ms3) (C := RX8) (T := TX8) (N := 19) hx hb hts i_X8 hown hK.1 hP 0 rfl rfl 14 (by decide) f_35 (fun _ h9 => h9) rfl dX8_best_128 ?_
                    refine lv_iload hx hb dX8_best_131 (lv_at hl 4 rfl) ?_
                    refine m_ald hx hb hK hP 7 rfl (by decide) (by omega) dX8_best_133 ?_
                    rw [hQ]
                    have E9 : bsF (allL (fun n w => mcO z g (cN ve) nl (mkN (fun k => rmB (cN way) z g (cN ve) nl w k n ol op os) (nl + 1 - n)) n w) nl (nl / 2)) = (y8.1, y8.2.2.1, y8.2.2.2) := by
                      have h9 := hm8
                      rw [List.take_of_length_le (by rw [← hp_32.1.1]; omega)] at h9
                      exact h9
                    exact m_iwr hx hb hr hlocks (beu_32, bau_32, svu_32, s1u_32, s2u_32, s3u_32, s4u_32) (⟨by rw [rfQ_v c_5 KI]; unfold beR; rw [E9, if_neg (show ¬ y8.1 = 0 by omega), if_neg c_99, if_neg (show ¬ wh = 1 from c_114), e8.2.2.2], hp_32.2.2.1, hp_32.2.2.2⟩) hP hS dX8_best_134
                  · refine lv_aload_n hx hb dX8_best_117 rfl (lv_at hl 0 rfl) ?_
                    refine va_get (D := D) (ci := 8) (v := .ref ms2) (C := RX8) (T := TX8) (N := 19) hx hb hts i_X8 hown hK.1 hP 0 rfl rfl 13 (by decide) f_32 (fun _ h9 => h9) rfl dX8_best_118 ?_
                    refine lv_iload hx hb dX8_best_121 (lv_at hl 4 rfl) ?_
                    refine m_ald hx hb hK hP 6 rfl (by decide) (by omega) dX8_best_123 ?_
                    refine lv_goto (tgt := 134) hx hb dX8_best_124 (by decide) ?_
                    rw [hQ]
                    have E9 : bsF (allL (fun n w => mcO z g (cN ve) nl (mkN (fun k => rmB (cN way) z g (cN ve) nl w k n ol op os) (nl + 1 - n)) n w) nl (nl / 2)) = (y8.1, y8.2.2.1, y8.2.2.2) := by
                      have h9 := hm8
                      rw [List.take_of_length_le (by rw [← hp_32.1.1]; omega)] at h9
                      exact h9
                    exact m_iwr hx hb hr hlocks (beu_32, bau_32, svu_32, s1u_32, s2u_32, s3u_32, s4u_32) (⟨by rw [rfQ_v c_5 KI]; unfold beR; rw [E9, if_neg (show ¬ y8.1 = 0 by omega), if_neg c_99, if_pos (show wh = 1 from c_114), e8.2.2.1], hp_32.2.2.1, hp_32.2.2.2⟩) hP hS dX8_best_134
                · refine lv_aload_n hx hb dX8_best_102 rfl (lv_at hl 0 rfl) ?_
                  refine va_get (D := D) (ci := 8) (v := .ref ms1) (C := RX8) (T := TX8) (N := 19) hx hb hts i_X8 hown hK.1 hP 0 rfl rfl 12 (by decide) f_29 (fun _ h9 => h9) rfl dX8_best_103 ?_
                  refine lv_iload hx hb dX8_best_106 (lv_at hl 4 rfl) ?_
                  refine m_ald hx hb hK hP 5 rfl (by decide) (by omega) dX8_best_108 ?_
                  refine lv_goto (tgt := 134) hx hb dX8_best_109 (by decide) ?_
                  rw [hQ]
                  have E9 : bsF (allL (fun n w => mcO z g (cN ve) nl (mkN (fun k => rmB (cN way) z g (cN ve) nl w k n ol op os) (nl + 1 - n)) n w) nl (nl / 2)) = (y8.1, y8.2.2.1, y8.2.2.2) := by
                    have h9 := hm8
                    rw [List.take_of_length_le (by rw [← hp_32.1.1]; omega)] at h9
                    exact h9
                  exact m_iwr hx hb hr hlocks (beu_32, bau_32, svu_32, s1u_32, s2u_32, s3u_32, s4u_32) (⟨by rw [rfQ_v c_5 KI]; unfold beR; rw [E9, if_neg (show ¬ y8.1 = 0 by omega), if_pos c_99, e8.1], hp_32.2.2.1, hp_32.2.2.2⟩) hP hS dX8_best_134
              · refine lv_bipush (v := (-6)) hx hb dX8_best_93 (by decide) ?_
                refine lv_goto (tgt := 134) hx hb dX8_best_95 (by decide) ?_
                rw [hQ]
                have E9 : (allL (fun n w => mcO z g (cN ve) nl (mkN (fun k => rmB (cN way) z g (cN ve) nl w k n ol op os) (nl + 1 - n)) n w) nl (nl / 2)) = [] := by
                  rcases hbx with ⟨-, e0⟩ | ⟨b, y, hb0, -, e0, -⟩
                  · exact List.eq_nil_of_length_eq_zero (by rw [← hp_32.1.1]; omega)
                  · exact absurd (by rw [e0]; exact nI_pos' (by omega)) c_90
                exact m_iwr hx hb hr hlocks (beu_32, bau_32, svu_32, s1u_32, s2u_32, s3u_32, s4u_32) (⟨by rw [rfQ_v c_5 KI, E9]; rfl, hp_32.2.2.1, hp_32.2.2.2⟩) hP hS dX8_best_134
            · obtain ⟨x9, hx9, e9, z9⟩ := psM_at hp_32.1 c_48
              refine lv_iload hx hb dX8_best_51 (lv_at hl 4 rfl) ?_
              refine lv_if_lt (tgt := 73) hx hb dX8_best_53 (by decide) (fun c_53 => ?_) (fun c_53 => ?_)
              · refine lv_iload hx hb dX8_best_73 (lv_at hl 5 rfl) ?_
                refine lv_goto (tgt := 80) hx hb dX8_best_75 (by decide) ?_
                refine lv_istore (lv' := [(4, .int (nI k)), (0, .ref mo), (1, .int (nI (cN ve))), (2, .int (nI (cN way))), (3, .int wh), (5, .int (nI k))]) hx hb dX8_best_80 hl (by decide) rfl (fun ls hl => ?_)
                refine lv_iinc (v := nI (k + 1)) (lv' := [(5, .int (nI (k + 1))), (4, .int (nI k)), (0, .ref mo), (1, .int (nI (cN ve))), (2, .int (nI (cN way))), (3, .int wh)]) hx hb dX8_best_82 hl (k := 5) rfl ((nI_succ _).symm) (by decide) rfl (fun ls hl => ?_)
                refine lv_goto (tgt := 42) hx hb dX8_best_85 (by decide) ?_
                exact ih_42 (k + 1) _ (by omega) (by omega) (by first | exact bm_first hbx (by omega) hx9 z9.1 c_53 | exact bm_new hx9 hy9 hm9 (by omega)) _ _ hP hD hS ls (lv_sub hl [2, 3, 4, 5, 1, 0] rfl)
              · obtain ⟨b9, y9, hb9, hy9, e_b, hm9⟩ := bm_of hbx c_53
                obtain ⟨y9b, hy9b, e9b, z9b⟩ := psM_at hp_32.1 (show b9 < svu_32 by omega)
                have ey9 : y9b = y9 := Option.some.inj (hy9b.symm.trans hy9)
                rw [ey9] at e9b z9b
                have hl : lv_has ls 6 [(0, .ref mo), (1, .int (nI (cN ve))), (2, .int (nI (cN way))), (3, .int wh), (4, .int (nI b9)), (5, .int (nI k))] := by rw [← e_b]; exact hl
                refine lv_aload_n hx hb dX8_best_56 rfl (lv_at hl 0 rfl) ?_
                refine va_get (D := D) (ci := 8) (v := .ref ms1) (C := RX8) (T := TX8) (N := 19) hx hb hts i_X8 hown hK.1 hP 0 rfl rfl 12 (by decide) f_29 (fun _ h9 => h9) rfl dX8_best_57 ?_
                refine lv_iload hx hb dX8_best_60 (lv_at hl 5 rfl) ?_
                refine m_ald hx hb hK hP 5 rfl (by decide) (by omega) dX8_best_62 ?_
                refine lv_aload_n hx hb dX8_best_63 rfl (lv_at hl 0 rfl) ?_
                refine va_get (D := D) (ci := 8) (v := .ref ms1) (C := RX8) (T := TX8) (N := 19) hx hb hts i_X8 hown hK.1 hP 0 rfl rfl 12 (by decide) f_29 (fun _ h9 => h9) rfl dX8_best_64 ?_
                refine lv_iload hx hb dX8_best_67 (lv_at hl 4 rfl) ?_
                refine m_ald hx hb hK hP 5 rfl (by decide) (by omega) dX8_best_69 ?_
                refine m_cmp_le (tgt := 78) hx hb dX8_best_70 (by decide) (by omega) (by omega) (fun c_70 => ?_) (fun c_70 => ?_)
                · refine lv_iload hx hb dX8_best_78 (lv_at hl 4 rfl) ?_
                  refine lv_istore (lv' := [(4, .int (nI b9)), (0, .ref mo), (1, .int (nI (cN ve))), (2, .int (nI (cN way))), (3, .int wh), (5, .int (nI k))]) hx hb dX8_best_80 hl (by decide) rfl (fun ls hl => ?_)
                  refine lv_iinc (v := nI (k + 1)) (lv' := [(5, .int (nI (k + 1))), (4, .int (nI b9)), (0, .ref mo), (1, .int (nI (cN ve))), (2, .int (nI (cN way))), (3, .int wh)]) hx hb dX8_best_82 hl (k := 5) rfl ((nI_succ _).symm) (by decide) rfl (fun ls hl => ?_)
                  refine lv_goto (tgt := 42) hx hb dX8_best_85 (by decide) ?_
                  exact ih_42 (k + 1) _ (by omega) (by omega) (bm_keep hb9 hx9 hy9 hm9 (by omega)) _ _ hP hD hS ls (lv_sub hl [2, 3, 4, 5, 1, 0] rfl)
                · refine lv_iload hx hb dX8_best_73 (lv_at hl 5 rfl) ?_
                  refine lv_goto (tgt := 80) hx hb dX8_best_75 (by decide) ?_
                  refine lv_istore (lv' := [(4, .int (nI k)), (0, .ref mo), (1, .int (nI (cN ve))), (2, .int (nI (cN way))), (3, .int wh), (5, .int (nI k))]) hx hb dX8_best_80 hl (by decide) rfl (fun ls hl => ?_)
                  refine lv_iinc (v := nI (k + 1)) (lv' := [(5, .int (nI (k + 1))), (4, .int (nI k)), (0, .ref mo), (1, .int (nI (cN ve))), (2, .int (nI (cN way))), (3, .int wh)]) hx hb dX8_best_82 hl (k := 5) rfl ((nI_succ _).symm) (by decide) rfl (fun ls hl => ?_)
                  refine lv_goto (tgt := 42) hx hb dX8_best_85 (by decide) ?_
                  exact ih_42 (k + 1) _ (by omega) (by omega) (by first | exact bm_first hbx (by omega) hx9 z9.1 c_53 | exact bm_new hx9 hy9 hm9 (by omega)) _ _ hP hD hS ls (lv_sub hl [2, 3, 4, 5, 1, 0] rfl)
        exact loop_42 (svu_32 + 1) 0 (-6) (by omega) (by omega) (Or.inl ⟨rfl, rfl⟩) _ _ hP hD hS ls (lv_sub hl [2, 3, 4, 5, 1, 0] rfl)
      · refine lv_bipush (v := (-2)) hx hb dX8_best_26 (by decide) ?_
        rw [hQ]
        exact m_iwr hx hb hr hlocks (be, ba, svn, s1, s2, s3, s4) (⟨by rw [rfQ_o c_5 (by first | (simp [c_14, c_23]; done) | (simp [c_14]; done) | (simp [c_23]; done))], hbe, hba⟩) hP hS dX8_best_28
  · refine lv_iconst (v := (-1)) hx hb dX8_best_8 (by decide) ?_
    rw [hQ]
    exact m_iwr hx hb hr hlocks (be, ba, svn, s1, s2, s3, s4) (⟨by rw [rfQ_u c_5], hbe, hba⟩) hP hS dX8_best_9

theorem yd_X8_two : yX8_two.cls = RX8 ∧ yX8_two.cls ≠ "java/lang/invoke/MethodHandle" ∧ yX8_two.cls ≠ "java/lang/invoke/VarHandle" ∧ (parseMethodDescriptor yX8_two.desc).map (fun d => d.parameters.length) = some 2 := by decide +kernel
set_option maxHeartbeats 4000000 in
set_option maxRecDepth 100000 in
theorem k_X8_two (l : Launch) (D : va_G) (cI cZ : ClassId) (mo ps mpa nl nv msz mcd mbe mba : Nat) (ol : Int32) (op os svn ms1 ms2 ms3 ms4 mfa mim mik : Nat) (be ba : Nat → Nat) (z g : Nat → Nat) (s1 s2 s3 s4 : Nat → Nat) (ve way : Int32) (hnl : nl ≤ 20) (hnv : nv ≤ 4) (hz : ∀ j, z j ≤ 8) (hg : ∀ j, g j ≤ 126) (hbe : ∀ j, be j ≤ 126) (hba : ∀ j, ba j ≤ 126) (hop : op ≤ 100) (hos : os ≤ 126) (hrf : ∀ w n, 1 ≤ n → n ≤ 20 → w + n ≤ nl → rmB (cN way) z g (cN ve) nl w w n ol op os = true) : Met l yX8_two wsX8_two ({ frames := 6, cells := 0, slots := 0, locals := 158 }) (mPc [.ref mo, .int ve, .int way] D cI cZ [(mo, .inr (8, [.int (nI ps), .ref mpa, .int (nI nl), .int (nI nv), .ref msz, .ref mcd, .ref mbe, .ref mba, .int ol, .int (nI op), .int (nI os), .int (nI svn), .ref ms1, .ref ms2, .ref ms3, .ref ms4, .ref mfa, .ref mim, .ref mik])), (mbe, aN cI 26 be), (mba, aN cI 26 ba), (msz, aN cI 80 z), (mcd, aN cI 640 g), (ms1, aN cI 400 s1), (ms2, aN cI 400 s2), (ms3, aN cI 400 s3), (ms4, aN cI 400 s4)]) (mQi D (mA [(mo, .inr (8, [.int (nI ps), .ref mpa, .int (nI nl), .int (nI nv), .ref msz, .ref mcd, .ref mbe, .ref mba, .int ol, .int (nI op), .int (nI os), .int (nI svn), .ref ms1, .ref ms2, .ref ms3, .ref ms4, .ref mfa, .ref mim, .ref mik])), (mbe, aN cI 26 be), (mba, aN cI 26 ba), (msz, aN cI 80 z), (mcd, aN cI 640 g), (ms1, aN cI 400 s1), (ms2, aN cI 400 s2), (ms3, aN cI 400 s3), (ms4, aN cI 400 s4)]) (fun (r : Int32) (u : (Nat → Nat) × (Nat → Nat) × Nat × (Nat → Nat) × (Nat → Nat) × (Nat → Nat) × (Nat → Nat)) => r = rfQ nv ve (ixB way 3) (nI (twQ (allL (fun n w => mcO z g (cN ve) nl (mkN (fun k => rmB (cN way) z g (cN ve) nl w k n ol op os) (nl + 1 - n)) n w) nl (nl / 2)))) ∧ (∀ j, u.1 j ≤ 126) ∧ (∀ j, u.2.1 j ≤ 126)) (fun (u : (Nat → Nat) × (Nat → Nat) × Nat × (Nat → Nat) × (Nat → Nat) × (Nat → Nat) × (Nat → Nat)) => [(mo, .inr (8, [.int (nI ps), .ref mpa, .int (nI nl), .int (nI nv), .ref msz, .ref mcd, .ref mbe, .ref mba, .int ol, .int (nI op), .int (nI os), .int (nI u.2.2.1), .ref ms1, .ref ms2, .ref ms3, .ref ms4, .ref mfa, .ref mim, .ref mik])), (mbe, aN cI 26 u.1), (mba, aN cI 26 u.2.1), (msz, aN cI 80 z), (mcd, aN cI 640 g), (ms1, aN cI 400 u.2.2.2.1), (ms2, aN cI 400 u.2.2.2.2.1), (ms3, aN cI 400 u.2.2.2.2.2.1), (ms4, aN cI 400 u.2.2.2.2.2.2)])) 0 0 (mA [(mo, .inr (8, [.int (nI ps), .ref mpa, .int (nI nl), .int (nI nv), .ref msz, .ref mcd, .ref mbe, .ref mba, .int ol, .int (nI op), .int (nI os), .int (nI svn), .ref ms1, .ref ms2, .ref ms3, .ref ms4, .ref mfa, .ref mim, .ref mik])), (mbe, aN cI 26 be), (mba, aN cI 26 ba), (msz, aN cI 80 z), (mcd, aN cI 640 g), (ms1, aN cI 400 s1), (ms2, aN cI 400 s2), (ms3, aN cI 400 s3), (ms4, aN cI 400 s4)]) := by
  refine Met.ofW (cc := cX8_two) (maxL := 7) (ret := (some .int)) (by decide) rfl ?_
  intro p e s m args below meth c s₁ BB hml hv
  obtain ⟨hargs, hP, hD0, hK⟩ := hv
  have hx := BB.exec
  have hb := BB.bytes
  have hr := BB.returns
  have hts := atoms_spec (ws := wsX8_two) BB.pre
  have hown : s.vm.findClass RX8 = some m.cls := findClass_of_methodNamed BB.named
  have hlocks := BB.notSynchronized
  have hcf : CallFix p m c cX8_two 7 s args wsX8_two RX8 := ⟨hx, hb, hml, hown, hts⟩
  obtain ⟨A, hAe⟩ : ∃ A, A = mA [(mo, .inr (8, [.int (nI ps), .ref mpa, .int (nI nl), .int (nI nv), .ref msz, .ref mcd, .ref mbe, .ref mba, .int ol, .int (nI op), .int (nI os), .int (nI svn), .ref ms1, .ref ms2, .ref ms3, .ref ms4, .ref mfa, .ref mim, .ref mik])), (mbe, aN cI 26 be), (mba, aN cI 26 ba), (msz, aN cI 80 z), (mcd, aN cI 640 g), (ms1, aN cI 400 s1), (ms2, aN cI 400 s2), (ms3, aN cI 400 s3), (ms4, aN cI 400 s4)] := ⟨_, rfl⟩
  have hD : va_D A [(mo, .inr (8, [.int (nI ps), .ref mpa, .int (nI nl), .int (nI nv), .ref msz, .ref mcd, .ref mbe, .ref mba, .int ol, .int (nI op), .int (nI os), .int (nI svn), .ref ms1, .ref ms2, .ref ms3, .ref ms4, .ref mfa, .ref mim, .ref mik])), (mbe, aN cI 26 be), (mba, aN cI 26 ba), (msz, aN cI 80 z), (mcd, aN cI 640 g), (ms1, aN cI 400 s1), (ms2, aN cI 400 s2), (ms3, aN cI 400 s3), (ms4, aN cI 400 s4)] := ⟨hD0.1, fun k q h => by rw [hAe]; exact ⟨k, q.2, h⟩⟩
  have hS : va_S A s.heap s.heap [] := va_S.rf
  rw [← hAe]
  rw [hargs, lg_entry_eq, ← hargs]
  have hl := lv_entry ([.ref mo, .int ve, .int way]) (n := 7) (Nat.le_of_ble_eq_true rfl)
  generalize (lg_sl ([.ref mo, .int ve, .int way]) ++ List.replicate (7 - (lg_sl ([.ref mo, .int ve, .int way])).length) Slot.unset).toArray = ls at hl ⊢
  have hl : lv_has ls 7 [(0, .ref mo), (1, .int ve), (2, .int way)] := hl
  obtain ⟨Q, hQ⟩ : ∃ Q, Q = MQ below (mQi D A (fun (r : Int32) (u : (Nat → Nat) × (Nat → Nat) × Nat × (Nat → Nat) × (Nat → Nat) × (Nat → Nat) × (Nat → Nat)) => r = rfQ nv ve (ixB way 3) (nI (twQ (allL (fun n w => mcO z g (cN ve) nl (mkN (fun k => rmB (cN way) z g (cN ve) nl w k n ol op os) (nl + 1 - n)) n w) nl (nl / 2)))) ∧ (∀ j, u.1 j ≤ 126) ∧ (∀ j, u.2.1 j ≤ 126)) (fun (u : (Nat → Nat) × (Nat → Nat) × Nat × (Nat → Nat) × (Nat → Nat) × (Nat → Nat) × (Nat → Nat)) => [(mo, .inr (8, [.int (nI ps), .ref mpa, .int (nI nl), .int (nI nv), .ref msz, .ref mcd, .ref mbe, .ref mba, .int ol, .int (nI op), .int (nI os), .int (nI u.2.2.1), .ref ms1, .ref ms2, .ref ms3, .ref ms4, .ref mfa, .ref mim, .ref mik])), (mbe, aN cI 26 u.1), (mba, aN cI 26 u.2.1), (msz, aN cI 80 z), (mcd, aN cI 640 g), (ms1, aN cI 400 u.2.2.2.1), (ms2, aN cI 400 u.2.2.2.2.1), (ms3, aN cI 400 u.2.2.2.2.2.1), (ms4, aN cI 400 u.2.2.2.2.2.2)])) args s 0 0 A := ⟨_, rfl⟩
  rw [← hQ]
  have i_X8 : ∀ w ∈ u_ws RX8 TX8 19, w ∈ wsX8_two := by decide +kernel
  have f_152 := hts (.fieldLink RX8 152 "SameAgainModel" "savings" "I") (by decide +kernel)
  have f_29 := hts (.fieldLink RX8 29 "SameAgainModel" "saves" "[I") (by decide +kernel)
  have f_38 := hts (.fieldLink RX8 38 "SameAgainModel" "savesLines" "[I") (by decide +kernel)
  refine lv_aload_n hx hb dX8_two_0 rfl (lv_at hl 0 rfl) ?_
  refine lv_iload_n hx hb dX8_two_1 rfl (lv_at hl 1 rfl) ?_
  refine m_rdV (As := [.int ve]) (rest := []) (wc := [(mo, .inr (8, [.int (nI ps), .ref mpa, .int (nI nl), .int (nI nv), .ref msz, .ref mcd, .ref mbe, .ref mba, .int ol, .int (nI op), .int (nI os), .int (nI svn), .ref ms1, .ref ms2, .ref ms3, .ref ms4, .ref mfa, .ref mim, .ref mik]))]) hcf (k_X8_isVersion (l := l) (D := D) (cI := cI) (cZ := cZ) (x := ve) (mo := mo) (ps := ps) (mpa := mpa) (nl := nl) (nv := nv) (msz := msz) (mcd := mcd) (mbe := mbe) (mba := mba) (ol := ol) (op := op) (os := os) (svn := svn) (ms1 := ms1) (ms2 := ms2) (ms3 := ms3) (ms4 := ms4) (mfa := mfa) (mim := mim) (mik := mik) (hnl := hnl) (hnv := hnv)) (cwV 1 hts gX8_two_X8_isVersion rfl rfl rfl yd_X8_isVersion ⟨Nat.le_of_ble_eq_true rfl, Nat.le_of_ble_eq_true rfl⟩) (m_preV hK hP hD [0] (by decide) rfl rfl rfl) rfl hl.1 rfl (Nat.le_of_ble_eq_true rfl) dX8_two_2 ⟨Nat.zero_le _, Nat.zero_le _⟩ ?_
  refine m_ifB_ne (tgt := 10) hx hb dX8_two_5 (by decide) (fun c_5 => ?_) (fun c_5 => ?_)
  · obtain ⟨e_v, i_v⟩ := ixB_cN (by omega) c_5
    refine lv_iload_n hx hb dX8_two_10 rfl (lv_at hl 2 rfl) ?_
    refine m_rdS (As := [.int way]) (rest := []) (wc := []) hcf (k_X8_isWay (l := l) (D := D) (cI := cI) (cZ := cZ) (x := way) ) (va_cwS 1 hts gX8_two_X8_isWay rfl rfl rfl yd_X8_isWay.2 ⟨Nat.le_of_ble_eq_true rfl, Nat.le_of_ble_eq_true rfl⟩) (m_preS hK hP hD [] (by decide) rfl) rfl hl.1 rfl (Nat.le_of_ble_eq_true rfl) dX8_two_11 ⟨Nat.zero_le _, Nat.zero_le _⟩ ?_
    refine m_ifB_ne (tgt := 20) hx hb dX8_two_14 (by decide) (fun c_14 => ?_) (fun c_14 => ?_)
    · obtain ⟨e_w, i_w⟩ := ixB_cN (by decide) c_14
      have hl : lv_has ls 7 [(0, .ref mo), (1, .int (nI (cN ve))), (2, .int (nI (cN way)))] := by rw [← e_v, ← e_w]; exact hl
      refine lv_aload_n hx hb dX8_two_20 rfl (lv_at hl 0 rfl) ?_
      refine lv_iload_n hx hb dX8_two_21 rfl (lv_at hl 1 rfl) ?_
      refine lv_iload_n hx hb dX8_two_22 rfl (lv_at hl 2 rfl) ?_
      refine m_wvV (As := [.int (nI (cN ve)), .int (nI (cN way))]) (rest := []) (wc := [(mo, .inr (8, [.int (nI ps), .ref mpa, .int (nI nl), .int (nI nv), .ref msz, .ref mcd, .ref mbe, .ref mba, .int ol, .int (nI op), .int (nI os), .int (nI svn), .ref ms1, .ref ms2, .ref ms3, .ref ms4, .ref mfa, .ref mim, .ref mik])), (mbe, aN cI 26 be), (mba, aN cI 26 ba), (msz, aN cI 80 z), (mcd, aN cI 640 g), (ms1, aN cI 400 s1), (ms2, aN cI 400 s2), (ms3, aN cI 400 s3), (ms4, aN cI 400 s4)]) hcf (k_X8_laySavings (l := l) (D := D) (cI := cI) (cZ := cZ) (v := cN ve) (way := cN way) (mo := mo) (ps := ps) (mpa := mpa) (nl := nl) (nv := nv) (msz := msz) (mcd := mcd) (mbe := mbe) (mba := mba) (ol := ol) (op := op) (os := os) (svn := svn) (ms1 := ms1) (ms2 := ms2) (ms3 := ms3) (ms4 := ms4) (mfa := mfa) (mim := mim) (mik := mik) (be := be) (ba := ba) (z := z) (g := g) (s1 := s1) (s2 := s2) (s3 := s3) (s4 := s4) (hnl := hnl) (hnv := hnv) (hz := hz) (hg := hg) (hbe := hbe) (hba := hba) (hop := hop) (hos := hos) (hw := by omega) (hv := by omega) (hrf := hrf)) (cwV 2 hts gX8_two_X8_laySavings rfl rfl rfl yd_X8_laySavings ⟨Nat.le_of_ble_eq_true rfl, Nat.le_of_ble_eq_true rfl⟩) hK hP hD hS [0, 1, 2, 3, 4, 5, 6, 7, 8] (by decide) rfl rfl rfl rfl hl.1 rfl (Nat.le_of_ble_eq_true rfl) dX8_two_23 ⟨Nat.zero_le _, Nat.zero_le _⟩ (fun _ => rfl) (fun (u : (Nat → Nat) × (Nat → Nat) × Nat × (Nat → Nat) × (Nat → Nat) × (Nat → Nat) × (Nat → Nat)) => [(mo, .inr (8, [.int (nI ps), .ref mpa, .int (nI nl), .int (nI nv), .ref msz, .ref mcd, .ref mbe, .ref mba, .int ol, .int (nI op), .int (nI os), .int (nI u.2.2.1), .ref ms1, .ref ms2, .ref ms3, .ref ms4, .ref mfa, .ref mim, .ref mik])), (mbe, aN cI 26 u.1), (mba, aN cI 26 u.2.1), (msz, aN cI 80 z), (mcd, aN cI 640 g), (ms1, aN cI 400 u.2.2.2.1), (ms2, aN cI 400 u.2.2.2.2.1), (ms3, aN cI 400 u.2.2.2.2.2.1), (ms4, aN cI 400 u.2.2.2.2.2.2)]) (fun _ => rfl) (fun u H locs hp_23 hP hD hS => ?_)
      obtain ⟨beu_23, bau_23, svu_23, s1u_23, s2u_23, s3u_23, s4u_23⟩ := u
      have hP : va_P D vwCl [(mo, .inr (8, [.int (nI ps), .ref mpa, .int (nI nl), .int (nI nv), .ref msz, .ref mcd, .ref mbe, .ref mba, .int ol, .int (nI op), .int (nI os), .int (nI svu_23), .ref ms1, .ref ms2, .ref ms3, .ref ms4, .ref mfa, .ref mim, .ref mik])), (mbe, aN cI 26 beu_23), (mba, aN cI 26 bau_23), (msz, aN cI 80 z), (mcd, aN cI 640 g), (ms1, aN cI 400 s1u_23), (ms2, aN cI 400 s2u_23), (ms3, aN cI 400 s3u_23), (ms4, aN cI 400 s4u_23)] H := hP
      have hD : va_D A [(mo, .inr (8, [.int (nI ps), .ref mpa, .int (nI nl), .int (nI nv), .ref msz, .ref mcd, .ref mbe, .ref mba, .int ol, .int (nI op), .int (nI os), .int (nI svu_23), .ref ms1, .ref ms2, .ref ms3, .ref ms4, .ref mfa, .ref mim, .ref mik])), (mbe, aN cI 26 beu_23), (mba, aN cI 26 bau_23), (msz, aN cI 80 z), (mcd, aN cI 640 g), (ms1, aN cI 400 s1u_23), (ms2, aN cI 400 s2u_23), (ms3, aN cI 400 s3u_23), (ms4, aN cI 400 s4u_23)] := hD
      try dsimp only at hp_23
      refine lv_iconst (v := nI 0) hx hb dX8_two_26 (by decide) ?_
      refine lv_istore_n (lv' := [(3, .int (nI 0)), (0, .ref mo), (1, .int (nI (cN ve))), (2, .int (nI (cN way)))]) hx hb dX8_two_27 rfl hl (by decide) rfl (fun ls hl => ?_)
      refine lv_iconst (v := nI 0) hx hb dX8_two_28 (by decide) ?_
      refine lv_istore (lv' := [(4, .int (nI 0)), (3, .int (nI 0)), (0, .ref mo), (1, .int (nI (cN ve))), (2, .int (nI (cN way)))]) hx hb dX8_two_29 hl (by decide) rfl (fun ls hl => ?_)
      have loop_31 : ∀ (fu : Nat) (k xq : Nat) (hfu : svu_23 - k < fu)  (hk : k ≤ svu_23) (hxb : xq < 2 ^ 31) (hxq : xq = mxI (fun k => max (s1u_23 k) (mxI (fun j => prF s1u_23 s4u_23 k j) k)) k) (H : Heap) (locs : List Loc) (hP : va_P D vwCl [(mo, .inr (8, [.int (nI ps), .ref mpa, .int (nI nl), .int (nI nv), .ref msz, .ref mcd, .ref mbe, .ref mba, .int ol, .int (nI op), .int (nI os), .int (nI svu_23), .ref ms1, .ref ms2, .ref ms3, .ref ms4, .ref mfa, .ref mim, .ref mik])), (mbe, aN cI 26 beu_23), (mba, aN cI 26 bau_23), (msz, aN cI 80 z), (mcd, aN cI 640 g), (ms1, aN cI 400 s1u_23), (ms2, aN cI 400 s2u_23), (ms3, aN cI 400 s3u_23), (ms4, aN cI 400 s4u_23)] H) (hD : va_D A [(mo, .inr (8, [.int (nI ps), .ref mpa, .int (nI nl), .int (nI nv), .ref msz, .ref mcd, .ref mbe, .ref mba, .int ol, .int (nI op), .int (nI os), .int (nI svu_23), .ref ms1, .ref ms2, .ref ms3, .ref ms4, .ref mfa, .ref mim, .ref mik])), (mbe, aN cI 26 beu_23), (mba, aN cI 26 bau_23), (msz, aN cI 80 z), (mcd, aN cI 640 g), (ms1, aN cI 400 s1u_23), (ms2, aN cI 400 s2u_23), (ms3, aN cI 400 s3u_23), (ms4, aN cI 400 s4u_23)]) (hS : va_S A s.heap H locs) (ls : Array Slot) (hl : lv_has ls 7 [(0, .ref mo), (1, .int (nI (cN ve))), (2, .int (nI (cN way))), (3, .int (nI xq)), (4, .int (nI k))]), W p l e (headSpec wsX8_two { frames := 6, cells := 0, slots := 0, locals := 158 }).room s m args below meth c H locs 0 0 Q (F0 m 31 ls []) := by
        intro fu
        induction fu with
        | zero => intro k xq hfu; exact absurd hfu (Nat.not_lt_zero _)
        | succ fu ih_31 =>
          intro k xq hfu hk hxb hxq H locs hP hD hS ls hl
          refine lv_iload hx hb dX8_two_31 (lv_at hl 4 rfl) ?_
          refine lv_aload_n hx hb dX8_two_33 rfl (lv_at hl 0 rfl) ?_
          refine va_get (D := D) (ci := 8) (v := .int (nI svu_23)) (C := RX8) (T := TX8) (N := 19) hx hb hts i_X8 hown hK.1 hP 0 rfl rfl 11 (by decide) f_152 (fun _ h9 => h9) rfl dX8_two_34 ?_
          refine m_cmp_ge (tgt := 154) hx hb dX8_two_37 (by decide) (by omega) (by omega) (fun c_37 => ?_) (fun c_37 => ?_)
          · refine lv_iload_n hx hb dX8_two_154 rfl (lv_at hl 3 rfl) ?_
            rw [hQ]
            have e9 : k = svu_23 := by omega
            exact m_iwr hx hb hr hlocks (beu_23, bau_23, svu_23, s1u_23, s2u_23, s3u_23, s4u_23) (⟨by rw [rfQ_v c_5 c_14, hxq, e9, twQ_of hp_23.1], hp_23.2.2.1, hp_23.2.2.2⟩) hP hS dX8_two_155
          · obtain ⟨x9, hx9, e9, z9⟩ := psM_at hp_23.1 c_37
            refine lv_aload_n hx hb dX8_two_40 rfl (lv_at hl 0 rfl) ?_
            refine va_get (D := D) (ci := 8) (v := .ref ms1) (C := RX8) (T := TX8) (N := 19) hx hb hts i_X8 hown hK.1 hP 0 rfl rfl 12 (by decide) f_29 (fun _ h9 => h9) rfl dX8_two_41 ?_
            refine lv_iload hx hb dX8_two_44 (lv_at hl 4 rfl) ?_
            refine m_ald hx hb hK hP 5 rfl (by decide) (by omega) dX8_two_46 ?_
            refine lv_iload_n hx hb dX8_two_47 rfl (lv_at hl 3 rfl) ?_
            refine m_cmp_le (tgt := 61) hx hb dX8_two_48 (by decide) (by omega) (by omega) (fun c_48 => ?_) (fun c_48 => ?_)
            · refine lv_iload_n hx hb dX8_two_61 rfl (lv_at hl 3 rfl) ?_
              refine lv_istore_n (lv' := [(3, .int (nI xq)), (0, .ref mo), (1, .int (nI (cN ve))), (2, .int (nI (cN way))), (4, .int (nI k))]) hx hb dX8_two_62 rfl hl (by decide) rfl (fun ls hl => ?_)
              refine lv_iconst (v := nI 0) hx hb dX8_two_63 (by decide) ?_
              refine lv_istore (lv' := [(5, .int (nI 0)), (3, .int (nI xq)), (0, .ref mo), (1, .int (nI (cN ve))), (2, .int (nI (cN way))), (4, .int (nI k))]) hx hb dX8_two_64 hl (by decide) rfl (fun ls hl => ?_)
              have loop_66 : ∀ (fu : Nat) (j y : Nat) (hfu : k - j < fu)  (hj : j ≤ k) (hyb : y < 2 ^ 31) (hy : y = max (max xq (s1u_23 k)) (mxI (fun j => prF s1u_23 s4u_23 k j) j)) (H : Heap) (locs : List Loc) (hP : va_P D vwCl [(mo, .inr (8, [.int (nI ps), .ref mpa, .int (nI nl), .int (nI nv), .ref msz, .ref mcd, .ref mbe, .ref mba, .int ol, .int (nI op), .int (nI os), .int (nI svu_23), .ref ms1, .ref ms2, .ref ms3, .ref ms4, .ref mfa, .ref mim, .ref mik])), (mbe, aN cI 26 beu_23), (mba, aN cI 26 bau_23), (msz, aN cI 80 z), (mcd, aN cI 640 g), (ms1, aN cI 400 s1u_23), (ms2, aN cI 400 s2u_23), (ms3, aN cI 400 s3u_23), (ms4, aN cI 400 s4u_23)] H) (hD : va_D A [(mo, .inr (8, [.int (nI ps), .ref mpa, .int (nI nl), .int (nI nv), .ref msz, .ref mcd, .ref mbe, .ref mba, .int ol, .int (nI op), .int (nI os), .int (nI svu_23), .ref ms1, .ref ms2, .ref ms3, .ref ms4, .ref mfa, .ref mim, .ref mik])), (mbe, aN cI 26 beu_23), (mba, aN cI 26 bau_23), (msz, aN cI 80 z), (mcd, aN cI 640 g), (ms1, aN cI 400 s1u_23), (ms2, aN cI 400 s2u_23), (ms3, aN cI 400 s3u_23), (ms4, aN cI 400 s4u_23)]) (hS : va_S A s.heap H locs) (ls : Array Slot) (hl : lv_has ls 7 [(0, .ref mo), (1, .int (nI (cN ve))), (2, .int (nI (cN way))), (3, .int (nI y)), (4, .int (nI k)), (5, .int (nI j))]), W p l e (headSpec wsX8_two { frames := 6, cells := 0, slots := 0, locals := 158 }).room s m args below meth c H locs 0 0 Q (F0 m 66 ls []) := by
                intro fu
                induction fu with
                | zero => intro j y hfu; exact absurd hfu (Nat.not_lt_zero _)
                | succ fu ih_66 =>
                  intro j y hfu hj hyb hy H locs hP hD hS ls hl
                  refine lv_iload hx hb dX8_two_66 (lv_at hl 5 rfl) ?_
                  refine lv_iload hx hb dX8_two_68 (lv_at hl 4 rfl) ?_
                  refine m_cmp_ge (tgt := 148) hx hb dX8_two_70 (by decide) (by omega) (by omega) (fun c_70 => ?_) (fun c_70 => ?_)
                  · refine lv_iinc (v := nI (k + 1)) (lv' := [(4, .int (nI (k + 1))), (0, .ref mo), (1, .int (nI (cN ve))), (2, .int (nI (cN way))), (3, .int (nI y)), (5, .int (nI j))]) hx hb dX8_two_148 hl (k := 4) rfl ((nI_succ _).symm) (by decide) rfl (fun ls hl => ?_)
                    refine lv_goto (tgt := 31) hx hb dX8_two_151 (by decide) ?_
                    have e7 : j = k := by omega
                    exact ih_31 (k + 1) y (by omega) (by omega) hyb (by rw [hy, e7, hxq]; show max (max (mxI (fun k => max (s1u_23 k) (mxI (fun j => prF s1u_23 s4u_23 k j) k)) k) (s1u_23 k)) (mxI (fun j => prF s1u_23 s4u_23 k j) k) = max (mxI (fun k => max (s1u_23 k) (mxI (fun j => prF s1u_23 s4u_23 k j) k)) k) (max (s1u_23 k) (mxI (fun j => prF s1u_23 s4u_23 k j) k)); omega) _ _ hP hD hS ls (lv_sub hl [1, 2, 3, 4, 0] rfl)
                  · obtain ⟨y9, hy9, e8, z8⟩ := psM_at hp_23.1 (show j < svu_23 by omega)
                    refine lv_aload_n hx hb dX8_two_73 rfl (lv_at hl 0 rfl) ?_
                    refine va_get (D := D) (ci := 8) (v := .ref ms4) (C := RX8) (T := TX8) (N := 19) hx hb hts i_X8 hown hK.1 hP 0 rfl rfl 15 (by decide) f_38 (fun _ h9 => h9) rfl dX8_two_74 ?_
                    refine lv_iload hx hb dX8_two_77 (lv_at hl 4 rfl) ?_
                    refine m_ald hx hb hK hP 8 rfl (by decide) (by omega) dX8_two_79 ?_
                    refine lv_aload_n hx hb dX8_two_80 rfl (lv_at hl 0 rfl) ?_
                    refine va_get (D := D) (ci := 8) (v := .ref ms4) (C := RX8) (T := TX8) (N := 19) hx hb hts i_X8 hown hK.1 hP 0 rfl rfl 15 (by decide) f_38 (fun _ h9 => h9) rfl dX8_two_81 ?_
                    refine lv_iload hx hb dX8_two_84 (lv_at hl 5 rfl) ?_
                    refine m_ald hx hb hK hP 8 rfl (by decide) (by omega) dX8_two_86 ?_
                    refine m_and hx hb dX8_two_87 ?_
                    refine m_if_ne (tgt := 95) hx hb dX8_two_88 (by decide) (Nat.lt_of_le_of_lt Nat.and_le_left (by omega)) (fun c_88 => ?_) (fun c_88 => ?_)
                    · refine lv_iconst (v := nI 0) hx hb dX8_two_95 (by decide) ?_
                      refine lv_istore (lv' := [(6, .int (nI 0)), (0, .ref mo), (1, .int (nI (cN ve))), (2, .int (nI (cN way))), (3, .int (nI y)), (4, .int (nI k)), (5, .int (nI j))]) hx hb dX8_two_96 hl (by decide) rfl (fun ls hl => ?_)
                      refine lv_iload hx hb dX8_two_98 (lv_at hl 0 rfl) ?_
                      refine m_if_eq (tgt := 140) hx hb dX8_two_100 (by decide) (by omega) (fun c_100 => ?_) (fun c_100 => ?_)
                      · refine lv_iload_n hx hb dX8_two_140 rfl (lv_at hl 4 rfl) ?_
                        refine lv_istore_n (lv' := [(3, .int (nI y)), (6, .int (nI 0)), (0, .ref mo), (1, .int (nI (cN ve))), (2, .int (nI (cN way))), (4, .int (nI k)), (5, .int (nI j))]) hx hb dX8_two_141 rfl hl (by decide) rfl (fun ls hl => ?_)
                        refine lv_iinc (v := nI (j + 1)) (lv' := [(5, .int (nI (j + 1))), (3, .int (nI y)), (6, .int (nI 0)), (0, .ref mo), (1, .int (nI (cN ve))), (2, .int (nI (cN way))), (4, .int (nI k))]) hx hb dX8_two_142 hl (k := 6) rfl ((nI_succ _).symm) (by decide) rfl (fun ls hl => ?_)
                        refine lv_goto (tgt := 66) hx hb dX8_two_145 (by decide) ?_
                        exact ih_66 (j + 1) y (by omega) (by omega) hyb (by rw [hy]; show _ = max _ (max _ (prF s1u_23 s4u_23 k j)); first | (rw [prF_f c_88]; omega) | (rw [prF_t c_88]; omega)) _ _ hP hD hS ls (lv_sub hl [3, 4, 5, 1, 6, 0] rfl)
                      · exact absurd c_100 (by decide)
                    · refine lv_iconst (v := nI 1) hx hb dX8_two_91 (by decide) ?_
                      refine lv_goto (tgt := 96) hx hb dX8_two_92 (by decide) ?_
                      refine lv_istore (lv' := [(6, .int (nI 1)), (0, .ref mo), (1, .int (nI (cN ve))), (2, .int (nI (cN way))), (3, .int (nI y)), (4, .int (nI k)), (5, .int (nI j))]) hx hb dX8_two_96 hl (by decide) rfl (fun ls hl => ?_)
                      refine lv_iload hx hb dX8_two_98 (lv_at hl 0 rfl) ?_
                      refine m_if_eq (tgt := 140) hx hb dX8_two_100 (by decide) (by omega) (fun c_100 => ?_) (fun c_100 => ?_)
                      · exact absurd c_100 (by decide)
                      · refine lv_aload_n hx hb dX8_two_103 rfl (lv_at hl 1 rfl) ?_
                        refine va_get (D := D) (ci := 8) (v := .ref ms1) (C := RX8) (T := TX8) (N := 19) hx hb hts i_X8 hown hK.1 hP 0 rfl rfl 12 (by decide) f_29 (fun _ h9 => h9) rfl dX8_two_104 ?_
                        refine lv_iload hx hb dX8_two_107 (lv_at hl 5 rfl) ?_
                        refine m_ald hx hb hK hP 5 rfl (by decide) (by omega) dX8_two_109 ?_
                        refine lv_aload_n hx hb dX8_two_110 rfl (lv_at hl 1 rfl) ?_
                        refine va_get (D := D) (ci := 8) (v := .ref ms1) (C := RX8) (T := TX8) (N := 19) hx hb hts i_X8 hown hK.1 hP 0 rfl rfl 12 (by decide) f_29 (fun _ h9 => h9) rfl dX8_two_111 ?_
                        refine lv_iload hx hb dX8_two_114 (lv_at hl 6 rfl) ?_
                        refine m_ald hx hb hK hP 5 rfl (by decide) (by omega) dX8_two_116 ?_
                        refine m_add hx hb dX8_two_117 ?_
                        refine lv_iload_n hx hb dX8_two_118 rfl (lv_at hl 4 rfl) ?_
                        refine m_cmp_le (tgt := 140) hx hb dX8_two_119 (by decide) (by omega) (by omega) (fun c_119 => ?_) (fun c_119 => ?_)
                        · refine lv_iload_n hx hb dX8_two_140 rfl (lv_at hl 4 rfl) ?_
                          refine lv_istore_n (lv' := [(3, .int (nI y)), (6, .int (nI 1)), (0, .ref mo), (1, .int (nI (cN ve))), (2, .int (nI (cN way))), (4, .int (nI k)), (5, .int (nI j))]) hx hb dX8_two_141 rfl hl (by decide) rfl (fun ls hl => ?_)
                          refine lv_iinc (v := nI (j + 1)) (lv' := [(5, .int (nI (j + 1))), (3, .int (nI y)), (6, .int (nI 1)), (0, .ref mo), (1, .int (nI (cN ve))), (2, .int (nI (cN way))), (4, .int (nI k))]) hx hb dX8_two_142 hl (k := 6) rfl ((nI_succ _).symm) (by decide) rfl (fun ls hl => ?_)
                          refine lv_goto (tgt := 66) hx hb dX8_two_145 (by decide) ?_
                          exact ih_66 (j + 1) y (by omega) (by omega) hyb (by rw [hy]; show _ = max _ (max _ (prF s1u_23 s4u_23 k j)); first | (rw [prF_f c_88]; omega) | (rw [prF_t c_88]; omega)) _ _ hP hD hS ls (lv_sub hl [3, 4, 5, 1, 6, 0] rfl)
                        · refine lv_aload_n hx hb dX8_two_122 rfl (lv_at hl 1 rfl) ?_
                          refine va_get (D := D) (ci := 8) (v := .ref ms1) (C := RX8) (T := TX8) (N := 19) hx hb hts i_X8 hown hK.1 hP 0 rfl rfl 12 (by decide) f_29 (fun _ h9 => h9) rfl dX8_two_123 ?_
                          refine lv_iload hx hb dX8_two_126 (lv_at hl 5 rfl) ?_
                          refine m_ald hx hb hK hP 5 rfl (by decide) (by omega) dX8_two_128 ?_
                          refine lv_aload_n hx hb dX8_two_129 rfl (lv_at hl 1 rfl) ?_
                          refine va_get (D := D) (ci := 8) (v := .ref ms1) (C := RX8) (T := TX8) (N := 19) hx hb hts i_X8 hown hK.1 hP 0 rfl rfl 12 (by decide) f_29 (fun _ h9 => h9) rfl dX8_two_130 ?_
                          refine lv_iload hx hb dX8_two_133 (lv_at hl 6 rfl) ?_
                          refine m_ald hx hb hK hP 5 rfl (by decide) (by omega) dX8_two_135 ?_
                          refine m_add hx hb dX8_two_136 ?_
                          refine lv_goto (tgt := 141) hx hb dX8_two_137 (by decide) ?_
                          refine lv_istore_n (lv' := [(3, .int (nI ((s1u_23 k) + (s1u_23 j)))), (6, .int (nI 1)), (0, .ref mo), (1, .int (nI (cN ve))), (2, .int (nI (cN way))), (4, .int (nI k)), (5, .int (nI j))]) hx hb dX8_two_141 rfl hl (by decide) rfl (fun ls hl => ?_)
                          refine lv_iinc (v := nI (j + 1)) (lv' := [(5, .int (nI (j + 1))), (3, .int (nI ((s1u_23 k) + (s1u_23 j)))), (6, .int (nI 1)), (0, .ref mo), (1, .int (nI (cN ve))), (2, .int (nI (cN way))), (4, .int (nI k))]) hx hb dX8_two_142 hl (k := 6) rfl ((nI_succ _).symm) (by decide) rfl (fun ls hl => ?_)
                          refine lv_goto (tgt := 66) hx hb dX8_two_145 (by decide) ?_
                          exact ih_66 (j + 1) _ (by omega) (by omega) (by omega) (by show _ = max _ (max _ (prF s1u_23 s4u_23 k j)); rw [prF_t c_88]; omega) _ _ hP hD hS ls (lv_sub hl [3, 4, 5, 1, 6, 0] rfl)
              exact loop_66 (k + 1) 0 _ (by omega) (by omega) (by omega) (by show _ = max _ 0; omega) _ _ hP hD hS ls (lv_sub hl [2, 3, 4, 1, 5, 0] rfl)
            · refine lv_aload_n hx hb dX8_two_51 rfl (lv_at hl 0 rfl) ?_
              refine va_get (D := D) (ci := 8) (v := .ref ms1) (C := RX8) (T := TX8) (N := 19) hx hb hts i_X8 hown hK.1 hP 0 rfl rfl 12 (by decide) f_29 (fun _ h9 => h9) rfl dX8_two_52 ?_
              refine lv_iload hx hb dX8_two_55 (lv_at hl 4 rfl) ?_
              refine m_ald hx hb hK hP 5 rfl (by decide) (by omega) dX8_two_57 ?_
              refine lv_goto (tgt := 62) hx hb dX8_two_58 (by decide) ?_
              refine lv_istore_n (lv' := [(3, .int (nI (s1u_23 k))), (0, .ref mo), (1, .int (nI (cN ve))), (2, .int (nI (cN way))), (4, .int (nI k))]) hx hb dX8_two_62 rfl hl (by decide) rfl (fun ls hl => ?_)
              refine lv_iconst (v := nI 0) hx hb dX8_two_63 (by decide) ?_
              refine lv_istore (lv' := [(5, .int (nI 0)), (3, .int (nI (s1u_23 k))), (0, .ref mo), (1, .int (nI (cN ve))), (2, .int (nI (cN way))), (4, .int (nI k))]) hx hb dX8_two_64 hl (by decide) rfl (fun ls hl => ?_)
              have loop_66 : ∀ (fu : Nat) (j y : Nat) (hfu : k - j < fu)  (hj : j ≤ k) (hyb : y < 2 ^ 31) (hy : y = max (max xq (s1u_23 k)) (mxI (fun j => prF s1u_23 s4u_23 k j) j)) (H : Heap) (locs : List Loc) (hP : va_P D vwCl [(mo, .inr (8, [.int (nI ps), .ref mpa, .int (nI nl), .int (nI nv), .ref msz, .ref mcd, .ref mbe, .ref mba, .int ol, .int (nI op), .int (nI os), .int (nI svu_23), .ref ms1, .ref ms2, .ref ms3, .ref ms4, .ref mfa, .ref mim, .ref mik])), (mbe, aN cI 26 beu_23), (mba, aN cI 26 bau_23), (msz, aN cI 80 z), (mcd, aN cI 640 g), (ms1, aN cI 400 s1u_23), (ms2, aN cI 400 s2u_23), (ms3, aN cI 400 s3u_23), (ms4, aN cI 400 s4u_23)] H) (hD : va_D A [(mo, .inr (8, [.int (nI ps), .ref mpa, .int (nI nl), .int (nI nv), .ref msz, .ref mcd, .ref mbe, .ref mba, .int ol, .int (nI op), .int (nI os), .int (nI svu_23), .ref ms1, .ref ms2, .ref ms3, .ref ms4, .ref mfa, .ref mim, .ref mik])), (mbe, aN cI 26 beu_23), (mba, aN cI 26 bau_23), (msz, aN cI 80 z), (mcd, aN cI 640 g), (ms1, aN cI 400 s1u_23), (ms2, aN cI 400 s2u_23), (ms3, aN cI 400 s3u_23), (ms4, aN cI 400 s4u_23)]) (hS : va_S A s.heap H locs) (ls : Array Slot) (hl : lv_has ls 7 [(0, .ref mo), (1, .int (nI (cN ve))), (2, .int (nI (cN way))), (3, .int (nI y)), (4, .int (nI k)), (5, .int (nI j))]), W p l e (headSpec wsX8_two { frames := 6, cells := 0, slots := 0, locals := 158 }).room s m args below meth c H locs 0 0 Q (F0 m 66 ls []) := by
                intro fu
                induction fu with
                | zero => intro j y hfu; exact absurd hfu (Nat.not_lt_zero _)
                | succ fu ih_66 =>
                  intro j y hfu hj hyb hy H locs hP hD hS ls hl
                  refine lv_iload hx hb dX8_two_66 (lv_at hl 5 rfl) ?_
                  refine lv_iload hx hb dX8_two_68 (lv_at hl 4 rfl) ?_
                  refine m_cmp_ge (tgt := 148) hx hb dX8_two_70 (by decide) (by omega) (by omega) (fun c_70 => ?_) (fun c_70 => ?_)
                  · refine lv_iinc (v := nI (k + 1)) (lv' := [(4, .int (nI (k + 1))), (0, .ref mo), (1, .int (nI (cN ve))), (2, .int (nI (cN way))), (3, .int (nI y)), (5, .int (nI j))]) hx hb dX8_two_148 hl (k := 4) rfl ((nI_succ _).symm) (by decide) rfl (fun ls hl => ?_)
                    refine lv_goto (tgt := 31) hx hb dX8_two_151 (by decide) ?_
                    have e7 : j = k := by omega
                    exact ih_31 (k + 1) y (by omega) (by omega) hyb (by rw [hy, e7, hxq]; show max (max (mxI (fun k => max (s1u_23 k) (mxI (fun j => prF s1u_23 s4u_23 k j) k)) k) (s1u_23 k)) (mxI (fun j => prF s1u_23 s4u_23 k j) k) = max (mxI (fun k => max (s1u_23 k) (mxI (fun j => prF s1u_23 s4u_23 k j) k)) k) (max (s1u_23 k) (mxI (fun j => prF s1u_23 s4u_23 k j) k)); omega) _ _ hP hD hS ls (lv_sub hl [1, 2, 3, 4, 0] rfl)
                  · obtain ⟨y9, hy9, e8, z8⟩ := psM_at hp_23.1 (show j < svu_23 by omega)
                    refine lv_aload_n hx hb dX8_two_73 rfl (lv_at hl 0 rfl) ?_
                    refine va_get (D := D) (ci := 8) (v := .ref ms4) (C := RX8) (T := TX8) (N := 19) hx hb hts i_X8 hown hK.1 hP 0 rfl rfl 15 (by decide) f_38 (fun _ h9 => h9) rfl dX8_two_74 ?_
                    refine lv_iload hx hb dX8_two_77 (lv_at hl 4 rfl) ?_
                    refine m_ald hx hb hK hP 8 rfl (by decide) (by omega) dX8_two_79 ?_
                    refine lv_aload_n hx hb dX8_two_80 rfl (lv_at hl 0 rfl) ?_
                    refine va_get (D := D) (ci := 8) (v := .ref ms4) (C := RX8) (T := TX8) (N := 19) hx hb hts i_X8 hown hK.1 hP 0 rfl rfl 15 (by decide) f_38 (fun _ h9 => h9) rfl dX8_two_81 ?_
                    refine lv_iload hx hb dX8_two_84 (lv_at hl 5 rfl) ?_
                    refine m_ald hx hb hK hP 8 rfl (by decide) (by omega) dX8_two_86 ?_
                    refine m_and hx hb dX8_two_87 ?_
                    refine m_if_ne (tgt := 95) hx hb dX8_two_88 (by decide) (Nat.lt_of_le_of_lt Nat.and_le_left (by omega)) (fun c_88 => ?_) (fun c_88 => ?_)
                    · refine lv_iconst (v := nI 0) hx hb dX8_two_95 (by decide) ?_
                      refine lv_istore (lv' := [(6, .int (nI 0)), (0, .ref mo), (1, .int (nI (cN ve))), (2, .int (nI (cN way))), (3, .int (nI y)), (4, .int (nI k)), (5, .int (nI j))]) hx hb dX8_two_96 hl (by decide) rfl (fun ls hl => ?_)
                      refine lv_iload hx hb dX8_two_98 (lv_at hl 0 rfl) ?_
                      refine m_if_eq (tgt := 140) hx hb dX8_two_100 (by decide) (by omega) (fun c_100 => ?_) (fun c_100 => ?_)
                      · refine lv_iload_n hx hb dX8_two_140 rfl (lv_at hl 4 rfl) ?_
                        refine lv_istore_n (lv' := [(3, .int (nI y)), (6, .int (nI 0)), (0, .ref mo), (1, .int (nI (cN ve))), (2, .int (nI (cN way))), (4, .int (nI k)), (5, .int (nI j))]) hx hb dX8_two_141 rfl hl (by decide) rfl (fun ls hl => ?_)
                        refine lv_iinc (v := nI (j + 1)) (lv' := [(5, .int (nI (j + 1))), (3, .int (nI y)), (6, .int (nI 0)), (0, .ref mo), (1, .int (nI (cN ve))), (2, .int (nI (cN way))), (4, .int (nI k))]) hx hb dX8_two_142 hl (k := 6) rfl ((nI_succ _).symm) (by decide) rfl (fun ls hl => ?_)
                        refine lv_goto (tgt := 66) hx hb dX8_two_145 (by decide) ?_
                        exact ih_66 (j + 1) y (by omega) (by omega) hyb (by rw [hy]; show _ = max _ (max _ (prF s1u_23 s4u_23 k j)); first | (rw [prF_f c_88]; omega) | (rw [prF_t c_88]; omega)) _ _ hP hD hS ls (lv_sub hl [3, 4, 5, 1, 6, 0] rfl)
                      · exact absurd c_100 (by decide)
                    · refine lv_iconst (v := nI 1) hx hb dX8_two_91 (by decide) ?_
                      refine lv_goto (tgt := 96) hx hb dX8_two_92 (by decide) ?_
                      refine lv_istore (lv' := [(6, .int (nI 1)), (0, .ref mo), (1, .int (nI (cN ve))), (2, .int (nI (cN way))), (3, .int (nI y)), (4, .int (nI k)), (5, .int (nI j))]) hx hb dX8_two_96 hl (by decide) rfl (fun ls hl => ?_)
                      refine lv_iload hx hb dX8_two_98 (lv_at hl 0 rfl) ?_
                      refine m_if_eq (tgt := 140) hx hb dX8_two_100 (by decide) (by omega) (fun c_100 => ?_) (fun c_100 => ?_)
                      · exact absurd c_100 (by decide)
                      · refine lv_aload_n hx hb dX8_two_103 rfl (lv_at hl 1 rfl) ?_
                        refine va_get (D := D) (ci := 8) (v := .ref ms1) (C := RX8) (T := TX8) (N := 19) hx hb hts i_X8 hown hK.1 hP 0 rfl rfl 12 (by decide) f_29 (fun _ h9 => h9) rfl dX8_two_104 ?_
                        refine lv_iload hx hb dX8_two_107 (lv_at hl 5 rfl) ?_
                        refine m_ald hx hb hK hP 5 rfl (by decide) (by omega) dX8_two_109 ?_
                        refine lv_aload_n hx hb dX8_two_110 rfl (lv_at hl 1 rfl) ?_
                        refine va_get (D := D) (ci := 8) (v := .ref ms1) (C := RX8) (T := TX8) (N := 19) hx hb hts i_X8 hown hK.1 hP 0 rfl rfl 12 (by decide) f_29 (fun _ h9 => h9) rfl dX8_two_111 ?_
                        refine lv_iload hx hb dX8_two_114 (lv_at hl 6 rfl) ?_
                        refine m_ald hx hb hK hP 5 rfl (by decide) (by omega) dX8_two_116 ?_
                        refine m_add hx hb dX8_two_117 ?_
                        refine lv_iload_n hx hb dX8_two_118 rfl (lv_at hl 4 rfl) ?_
                        refine m_cmp_le (tgt := 140) hx hb dX8_two_119 (by decide) (by omega) (by omega) (fun c_119 => ?_) (fun c_119 => ?_)
                        · refine lv_iload_n hx hb dX8_two_140 rfl (lv_at hl 4 rfl) ?_
                          refine lv_istore_n (lv' := [(3, .int (nI y)), (6, .int (nI 1)), (0, .ref mo), (1, .int (nI (cN ve))), (2, .int (nI (cN way))), (4, .int (nI k)), (5, .int (nI j))]) hx hb dX8_two_141 rfl hl (by decide) rfl (fun ls hl => ?_)
                          refine lv_iinc (v := nI (j + 1)) (lv' := [(5, .int (nI (j + 1))), (3, .int (nI y)), (6, .int (nI 1)), (0, .ref mo), (1, .int (nI (cN ve))), (2, .int (nI (cN way))), (4, .int (nI k))]) hx hb dX8_two_142 hl (k := 6) rfl ((nI_succ _).symm) (by decide) rfl (fun ls hl => ?_)
                          refine lv_goto (tgt := 66) hx hb dX8_two_145 (by decide) ?_
                          exact ih_66 (j + 1) y (by omega) (by omega) hyb (by rw [hy]; show _ = max _ (max _ (prF s1u_23 s4u_23 k j)); first | (rw [prF_f c_88]; omega) | (rw [prF_t c_88]; omega)) _ _ hP hD hS ls (lv_sub hl [3, 4, 5, 1, 6, 0] rfl)
                        · refine lv_aload_n hx hb dX8_two_122 rfl (lv_at hl 1 rfl) ?_
                          refine va_get (D := D) (ci := 8) (v := .ref ms1) (C := RX8) (T := TX8) (N := 19) hx hb hts i_X8 hown hK.1 hP 0 rfl rfl 12 (by decide) f_29 (fun _ h9 => h9) rfl dX8_two_123 ?_
                          refine lv_iload hx hb dX8_two_126 (lv_at hl 5 rfl) ?_
                          refine m_ald hx hb hK hP 5 rfl (by decide) (by omega) dX8_two_128 ?_
                          refine lv_aload_n hx hb dX8_two_129 rfl (lv_at hl 1 rfl) ?_
                          refine va_get (D := D) (ci := 8) (v := .ref ms1) (C := RX8) (T := TX8) (N := 19) hx hb hts i_X8 hown hK.1 hP 0 rfl rfl 12 (by decide) f_29 (fun _ h9 => h9) rfl dX8_two_130 ?_
                          refine lv_iload hx hb dX8_two_133 (lv_at hl 6 rfl) ?_
                          refine m_ald hx hb hK hP 5 rfl (by decide) (by omega) dX8_two_135 ?_
                          refine m_add hx hb dX8_two_136 ?_
                          refine lv_goto (tgt := 141) hx hb dX8_two_137 (by decide) ?_
                          refine lv_istore_n (lv' := [(3, .int (nI ((s1u_23 k) + (s1u_23 j)))), (6, .int (nI 1)), (0, .ref mo), (1, .int (nI (cN ve))), (2, .int (nI (cN way))), (4, .int (nI k)), (5, .int (nI j))]) hx hb dX8_two_141 rfl hl (by decide) rfl (fun ls hl => ?_)
                          refine lv_iinc (v := nI (j + 1)) (lv' := [(5, .int (nI (j + 1))), (3, .int (nI ((s1u_23 k) + (s1u_23 j)))), (6, .int (nI 1)), (0, .ref mo), (1, .int (nI (cN ve))), (2, .int (nI (cN way))), (4, .int (nI k))]) hx hb dX8_two_142 hl (k := 6) rfl ((nI_succ _).symm) (by decide) rfl (fun ls hl => ?_)
                          refine lv_goto (tgt := 66) hx hb dX8_two_145 (by decide) ?_
                          exact ih_66 (j + 1) _ (by omega) (by omega) (by omega) (by show _ = max _ (max _ (prF s1u_23 s4u_23 k j)); rw [prF_t c_88]; omega) _ _ hP hD hS ls (lv_sub hl [3, 4, 5, 1, 6, 0] rfl)
              exact loop_66 (k + 1) 0 _ (by omega) (by omega) (by omega) (by show _ = max _ 0; omega) _ _ hP hD hS ls (lv_sub hl [2, 3, 4, 1, 5, 0] rfl)
      exact loop_31 (svu_23 + 1) 0 0 (by omega) (by omega) (by decide) rfl _ _ hP hD hS ls (lv_sub hl [2, 3, 4, 1, 0] rfl)
    · refine lv_bipush (v := (-2)) hx hb dX8_two_17 (by decide) ?_
      rw [hQ]
      exact m_iwr hx hb hr hlocks (be, ba, svn, s1, s2, s3, s4) (⟨by rw [rfQ_o c_5 c_14], hbe, hba⟩) hP hS dX8_two_19
  · refine lv_iconst (v := (-1)) hx hb dX8_two_8 (by decide) ?_
    rw [hQ]
    exact m_iwr hx hb hr hlocks (be, ba, svn, s1, s2, s3, s4) (⟨by rw [rfQ_u c_5], hbe, hba⟩) hP hS dX8_two_9
