def whQ (S A B : Nat) : Int32 := if bcN S < 2 then -5 else if A = S ∨ (0 < lsN S ∧ B = S >>> 1) then 0 else 1
theorem lm_end {way : Nat} {z g : Nat → Nat} {v nl sta n : Nat} {ol : Int32} {op os t : Nat} (h : (mkN (fun k => rmB way z g v nl sta k n ol op os) (nl + 1 - n)).testBit t = true) : t + n ≤ nl ∧ sta + n ≤ nl ∧ rmB way z g v nl sta t n ol op os = true := by
  rw [mkN_bit, Bool.and_eq_true] at h
  have h2 := h.2
  unfold rmB at h2
  rw [Bool.and_eq_true, Bool.and_eq_true, decide_eq_true_iff, decide_eq_true_iff] at h2
  exact ⟨h2.1.2, h2.1.1, h.2⟩

theorem yd_X8_whole : yX8_whole.cls = RX8 ∧ yX8_whole.cls ≠ "java/lang/invoke/MethodHandle" ∧ yX8_whole.cls ≠ "java/lang/invoke/VarHandle" ∧ (parseMethodDescriptor yX8_whole.desc).map (fun d => d.parameters.length) = some 4 := by decide +kernel
set_option maxHeartbeats 4000000 in
set_option maxRecDepth 100000 in
theorem k_X8_whole (l : Launch) (D : va_G) (cI cZ : ClassId) (mo ps mpa nl nv msz mcd mbe mba : Nat) (ol : Int32) (op os svn ms1 ms2 ms3 ms4 mfa mim mik : Nat) (be ba : Nat → Nat) (z g : Nat → Nat) (ve way sta n : Int32) (hnl : nl ≤ 20) (hnv : nv ≤ 4) (hz : ∀ j, z j ≤ 8) (hg : ∀ j, g j ≤ 126) (hbe : ∀ j, be j ≤ 126) (hba : ∀ j, ba j ≤ 126) (hop : op ≤ 100) (hos : os ≤ 126) : Met l yX8_whole wsX8_whole ({ frames := 5, cells := 0, slots := 0, locals := 119 }) (mPc [.ref mo, .int ve, .int way, .int sta, .int n] D cI cZ [(mo, .inr (8, [.int (nI ps), .ref mpa, .int (nI nl), .int (nI nv), .ref msz, .ref mcd, .ref mbe, .ref mba, .int ol, .int (nI op), .int (nI os), .int (nI svn), .ref ms1, .ref ms2, .ref ms3, .ref ms4, .ref mfa, .ref mim, .ref mik])), (mbe, aN cI 26 be), (mba, aN cI 26 ba), (msz, aN cI 80 z), (mcd, aN cI 640 g)]) (mQi D (mA [(mo, .inr (8, [.int (nI ps), .ref mpa, .int (nI nl), .int (nI nv), .ref msz, .ref mcd, .ref mbe, .ref mba, .int ol, .int (nI op), .int (nI os), .int (nI svn), .ref ms1, .ref ms2, .ref ms3, .ref ms4, .ref mfa, .ref mim, .ref mik])), (mbe, aN cI 26 be), (mba, aN cI 26 ba), (msz, aN cI 80 z), (mcd, aN cI 640 g)]) (fun (r : Int32) (u : (Nat → Nat) × (Nat → Nat)) => r = rfQ nv ve (ixB way 3 && ixB sta 20 && lnB n) (whQ (mkN (fun k => rmB (cN way) z g (cN ve) nl (cN sta) k (cN n) ol op os) (nl + 1 - (cN n))) (mkN (fun k => rmB (cN way) z g (cN ve) nl (lsN (mkN (fun k => rmB (cN way) z g (cN ve) nl (cN sta) k (cN n) ol op os) (nl + 1 - (cN n)))) k (cN n + 1) ol op os) (nl + 1 - (cN n + 1))) (mkN (fun k => rmB (cN way) z g (cN ve) nl (lsN (mkN (fun k => rmB (cN way) z g (cN ve) nl (cN sta) k (cN n) ol op os) (nl + 1 - (cN n))) - 1) k (cN n + 1) ol op os) (nl + 1 - (cN n + 1)))) ∧ (∀ j, u.1 j ≤ 126) ∧ (∀ j, u.2 j ≤ 126)) (fun (u : (Nat → Nat) × (Nat → Nat)) => [(mo, .inr (8, [.int (nI ps), .ref mpa, .int (nI nl), .int (nI nv), .ref msz, .ref mcd, .ref mbe, .ref mba, .int ol, .int (nI op), .int (nI os), .int (nI svn), .ref ms1, .ref ms2, .ref ms3, .ref ms4, .ref mfa, .ref mim, .ref mik])), (mbe, aN cI 26 u.1), (mba, aN cI 26 u.2), (msz, aN cI 80 z), (mcd, aN cI 640 g)])) 0 0 (mA [(mo, .inr (8, [.int (nI ps), .ref mpa, .int (nI nl), .int (nI nv), .ref msz, .ref mcd, .ref mbe, .ref mba, .int ol, .int (nI op), .int (nI os), .int (nI svn), .ref ms1, .ref ms2, .ref ms3, .ref ms4, .ref mfa, .ref mim, .ref mik])), (mbe, aN cI 26 be), (mba, aN cI 26 ba), (msz, aN cI 80 z), (mcd, aN cI 640 g)]) := by
  refine Met.ofW (cc := cX8_whole) (maxL := 9) (ret := (some .int)) (by decide) rfl ?_
  intro p e s m args below meth c s₁ BB hml hv
  obtain ⟨hargs, hP, hD0, hK⟩ := hv
  have hx := BB.exec
  have hb := BB.bytes
  have hr := BB.returns
  have hts := atoms_spec (ws := wsX8_whole) BB.pre
  have hown : s.vm.findClass RX8 = some m.cls := findClass_of_methodNamed BB.named
  have hlocks := BB.notSynchronized
  have hcf : CallFix p m c cX8_whole 9 s args wsX8_whole RX8 := ⟨hx, hb, hml, hown, hts⟩
  obtain ⟨A, hAe⟩ : ∃ A, A = mA [(mo, .inr (8, [.int (nI ps), .ref mpa, .int (nI nl), .int (nI nv), .ref msz, .ref mcd, .ref mbe, .ref mba, .int ol, .int (nI op), .int (nI os), .int (nI svn), .ref ms1, .ref ms2, .ref ms3, .ref ms4, .ref mfa, .ref mim, .ref mik])), (mbe, aN cI 26 be), (mba, aN cI 26 ba), (msz, aN cI 80 z), (mcd, aN cI 640 g)] := ⟨_, rfl⟩
  have hD : va_D A [(mo, .inr (8, [.int (nI ps), .ref mpa, .int (nI nl), .int (nI nv), .ref msz, .ref mcd, .ref mbe, .ref mba, .int ol, .int (nI op), .int (nI os), .int (nI svn), .ref ms1, .ref ms2, .ref ms3, .ref ms4, .ref mfa, .ref mim, .ref mik])), (mbe, aN cI 26 be), (mba, aN cI 26 ba), (msz, aN cI 80 z), (mcd, aN cI 640 g)] := ⟨hD0.1, fun k q h => by rw [hAe]; exact ⟨k, q.2, h⟩⟩
  have hS : va_S A s.heap s.heap [] := va_S.rf
  rw [← hAe]
  rw [hargs, lg_entry_eq, ← hargs]
  have hl := lv_entry ([.ref mo, .int ve, .int way, .int sta, .int n]) (n := 9) (Nat.le_of_ble_eq_true rfl)
  generalize (lg_sl ([.ref mo, .int ve, .int way, .int sta, .int n]) ++ List.replicate (9 - (lg_sl ([.ref mo, .int ve, .int way, .int sta, .int n])).length) Slot.unset).toArray = ls at hl ⊢
  have hl : lv_has ls 9 [(0, .ref mo), (1, .int ve), (2, .int way), (3, .int sta), (4, .int n)] := hl
  obtain ⟨Q, hQ⟩ : ∃ Q, Q = MQ below (mQi D A (fun (r : Int32) (u : (Nat → Nat) × (Nat → Nat)) => r = rfQ nv ve (ixB way 3 && ixB sta 20 && lnB n) (whQ (mkN (fun k => rmB (cN way) z g (cN ve) nl (cN sta) k (cN n) ol op os) (nl + 1 - (cN n))) (mkN (fun k => rmB (cN way) z g (cN ve) nl (lsN (mkN (fun k => rmB (cN way) z g (cN ve) nl (cN sta) k (cN n) ol op os) (nl + 1 - (cN n)))) k (cN n + 1) ol op os) (nl + 1 - (cN n + 1))) (mkN (fun k => rmB (cN way) z g (cN ve) nl (lsN (mkN (fun k => rmB (cN way) z g (cN ve) nl (cN sta) k (cN n) ol op os) (nl + 1 - (cN n))) - 1) k (cN n + 1) ol op os) (nl + 1 - (cN n + 1)))) ∧ (∀ j, u.1 j ≤ 126) ∧ (∀ j, u.2 j ≤ 126)) (fun (u : (Nat → Nat) × (Nat → Nat)) => [(mo, .inr (8, [.int (nI ps), .ref mpa, .int (nI nl), .int (nI nv), .ref msz, .ref mcd, .ref mbe, .ref mba, .int ol, .int (nI op), .int (nI os), .int (nI svn), .ref ms1, .ref ms2, .ref ms3, .ref ms4, .ref mfa, .ref mim, .ref mik])), (mbe, aN cI 26 u.1), (mba, aN cI 26 u.2), (msz, aN cI 80 z), (mcd, aN cI 640 g)])) args s 0 0 A := ⟨_, rfl⟩
  rw [← hQ]
  refine lv_aload_n hx hb dX8_whole_0 rfl (lv_at hl 0 rfl) ?_
  refine lv_iload_n hx hb dX8_whole_1 rfl (lv_at hl 1 rfl) ?_
  refine m_rdV (As := [.int ve]) (rest := []) (wc := [(mo, .inr (8, [.int (nI ps), .ref mpa, .int (nI nl), .int (nI nv), .ref msz, .ref mcd, .ref mbe, .ref mba, .int ol, .int (nI op), .int (nI os), .int (nI svn), .ref ms1, .ref ms2, .ref ms3, .ref ms4, .ref mfa, .ref mim, .ref mik]))]) hcf (k_X8_isVersion (l := l) (D := D) (cI := cI) (cZ := cZ) (x := ve) (mo := mo) (ps := ps) (mpa := mpa) (nl := nl) (nv := nv) (msz := msz) (mcd := mcd) (mbe := mbe) (mba := mba) (ol := ol) (op := op) (os := os) (svn := svn) (ms1 := ms1) (ms2 := ms2) (ms3 := ms3) (ms4 := ms4) (mfa := mfa) (mim := mim) (mik := mik) (hnl := hnl) (hnv := hnv)) (cwV 1 hts gX8_whole_X8_isVersion rfl rfl rfl yd_X8_isVersion ⟨Nat.le_of_ble_eq_true rfl, Nat.le_of_ble_eq_true rfl⟩) (m_preV hK hP hD [0] (by decide) rfl rfl rfl) rfl hl.1 rfl (Nat.le_of_ble_eq_true rfl) dX8_whole_2 ⟨Nat.zero_le _, Nat.zero_le _⟩ ?_
  refine m_ifB_ne (tgt := 10) hx hb dX8_whole_5 (by decide) (fun c_5 => ?_) (fun c_5 => ?_)
  · obtain ⟨e_v, i_v⟩ := ixB_cN (by omega) c_5
    refine lv_iload_n hx hb dX8_whole_10 rfl (lv_at hl 2 rfl) ?_
    refine m_rdS (As := [.int way]) (rest := []) (wc := []) hcf (k_X8_isWay (l := l) (D := D) (cI := cI) (cZ := cZ) (x := way) ) (va_cwS 1 hts gX8_whole_X8_isWay rfl rfl rfl yd_X8_isWay.2 ⟨Nat.le_of_ble_eq_true rfl, Nat.le_of_ble_eq_true rfl⟩) (m_preS hK hP hD [] (by decide) rfl) rfl hl.1 rfl (Nat.le_of_ble_eq_true rfl) dX8_whole_11 ⟨Nat.zero_le _, Nat.zero_le _⟩ ?_
    refine m_ifB_eq (tgt := 32) hx hb dX8_whole_14 (by decide) (fun c_14 => ?_) (fun c_14 => ?_)
    · refine lv_bipush (v := (-2)) hx hb dX8_whole_32 (by decide) ?_
      rw [hQ]
      exact m_iwr hx hb hr hlocks (be, ba) (⟨by rw [rfQ_o c_5 (by first | (simp [c_14, c_21, c_29]; done) | (simp [c_14]; done) | (simp [c_21]; done) | (simp [c_29]; done))], hbe, hba⟩) hP hS dX8_whole_34
    · obtain ⟨e_w, i_w⟩ := ixB_cN (by decide) c_14
      refine lv_iload_n hx hb dX8_whole_17 rfl (lv_at hl 3 rfl) ?_
      refine m_rdS (As := [.int sta]) (rest := []) (wc := []) hcf (k_X8_isStart (l := l) (D := D) (cI := cI) (cZ := cZ) (x := sta) ) (va_cwS 1 hts gX8_whole_X8_isStart rfl rfl rfl yd_X8_isStart.2 ⟨Nat.le_of_ble_eq_true rfl, Nat.le_of_ble_eq_true rfl⟩) (m_preS hK hP hD [] (by decide) rfl) rfl hl.1 rfl (Nat.le_of_ble_eq_true rfl) dX8_whole_18 ⟨Nat.zero_le _, Nat.zero_le _⟩ ?_
      refine m_ifB_eq (tgt := 32) hx hb dX8_whole_21 (by decide) (fun c_21 => ?_) (fun c_21 => ?_)
      · refine lv_bipush (v := (-2)) hx hb dX8_whole_32 (by decide) ?_
        rw [hQ]
        exact m_iwr hx hb hr hlocks (be, ba) (⟨by rw [rfQ_o c_5 (by first | (simp [c_14, c_21, c_29]; done) | (simp [c_14]; done) | (simp [c_21]; done) | (simp [c_29]; done))], hbe, hba⟩) hP hS dX8_whole_34
      · obtain ⟨e_s, i_s⟩ := ixB_cN (by decide) c_21
        refine lv_iload hx hb dX8_whole_24 (lv_at hl 4 rfl) ?_
        refine m_rdS (As := [.int n]) (rest := []) (wc := []) hcf (k_X8_isLength (l := l) (D := D) (cI := cI) (cZ := cZ) (x := n) ) (va_cwS 1 hts gX8_whole_X8_isLength rfl rfl rfl yd_X8_isLength.2 ⟨Nat.le_of_ble_eq_true rfl, Nat.le_of_ble_eq_true rfl⟩) (m_preS hK hP hD [] (by decide) rfl) rfl hl.1 rfl (Nat.le_of_ble_eq_true rfl) dX8_whole_26 ⟨Nat.zero_le _, Nat.zero_le _⟩ ?_
        refine m_ifB_ne (tgt := 35) hx hb dX8_whole_29 (by decide) (fun c_29 => ?_) (fun c_29 => ?_)
        · obtain ⟨e_n, i_n, j_n⟩ := lnB_cN c_29
          have KI : (ixB way 3 && ixB sta 20 && lnB n) = true := by first | (simp [c_14, c_21, c_29]; done) | (simp [c_14]; done) | (simp [c_21]; done) | (simp [c_29]; done)
          have hl : lv_has ls 9 [(0, .ref mo), (1, .int (nI (cN ve))), (2, .int (nI (cN way))), (3, .int (nI (cN sta))), (4, .int (nI (cN n)))] := by rw [← e_v, ← e_w, ← e_s, ← e_n]; exact hl
          refine lv_aload_n hx hb dX8_whole_35 rfl (lv_at hl 0 rfl) ?_
          refine lv_iload_n hx hb dX8_whole_36 rfl (lv_at hl 1 rfl) ?_
          refine lv_iload_n hx hb dX8_whole_37 rfl (lv_at hl 2 rfl) ?_
          refine lv_iload_n hx hb dX8_whole_38 rfl (lv_at hl 3 rfl) ?_
          refine lv_iload hx hb dX8_whole_39 (lv_at hl 4 rfl) ?_
          refine m_wrV (As := [.int (nI (cN ve)), .int (nI (cN way)), .int (nI (cN sta)), .int (nI (cN n))]) (rest := []) (wc := [(mo, .inr (8, [.int (nI ps), .ref mpa, .int (nI nl), .int (nI nv), .ref msz, .ref mcd, .ref mbe, .ref mba, .int ol, .int (nI op), .int (nI os), .int (nI svn), .ref ms1, .ref ms2, .ref ms3, .ref ms4, .ref mfa, .ref mim, .ref mik])), (mbe, aN cI 26 be), (mba, aN cI 26 ba), (msz, aN cI 80 z), (mcd, aN cI 640 g)]) hcf (k_X8_likeOf (l := l) (D := D) (cI := cI) (cZ := cZ) (v := cN ve) (way := cN way) (sta := cN sta) (n := cN n) (mo := mo) (ps := ps) (mpa := mpa) (nl := nl) (nv := nv) (msz := msz) (mcd := mcd) (mbe := mbe) (mba := mba) (ol := ol) (op := op) (os := os) (svn := svn) (ms1 := ms1) (ms2 := ms2) (ms3 := ms3) (ms4 := ms4) (mfa := mfa) (mim := mim) (mik := mik) (be := be) (ba := ba) (z := z) (g := g) (hnl := hnl) (hnv := hnv) (hz := hz) (hg := hg) (hbe := hbe) (hba := hba) (hop := hop) (hos := hos) (hw := by omega) (hv := by omega) (h1 := by omega) (hn := by omega) (hn1 := by omega)) (cwV 4 hts gX8_whole_X8_likeOf rfl rfl rfl yd_X8_likeOf ⟨Nat.le_of_ble_eq_true rfl, Nat.le_of_ble_eq_true rfl⟩) hK hP hD hS [0, 1, 2, 3, 4] (by decide) rfl rfl rfl rfl hl.1 rfl (Nat.le_of_ble_eq_true rfl) dX8_whole_41 ⟨Nat.zero_le _, Nat.zero_le _⟩ (fun _ => rfl) (fun (u : (Nat → Nat) × (Nat → Nat)) => [(mo, .inr (8, [.int (nI ps), .ref mpa, .int (nI nl), .int (nI nv), .ref msz, .ref mcd, .ref mbe, .ref mba, .int ol, .int (nI op), .int (nI os), .int (nI svn), .ref ms1, .ref ms2, .ref ms3, .ref ms4, .ref mfa, .ref mim, .ref mik])), (mbe, aN cI 26 u.1), (mba, aN cI 26 u.2), (msz, aN cI 80 z), (mcd, aN cI 640 g)]) (fun _ => rfl) (fun r u H locs hp_41 hP hD hS => ?_)
          obtain ⟨beu_41, bau_41⟩ := u
          have hP : va_P D vwCl [(mo, .inr (8, [.int (nI ps), .ref mpa, .int (nI nl), .int (nI nv), .ref msz, .ref mcd, .ref mbe, .ref mba, .int ol, .int (nI op), .int (nI os), .int (nI svn), .ref ms1, .ref ms2, .ref ms3, .ref ms4, .ref mfa, .ref mim, .ref mik])), (mbe, aN cI 26 beu_41), (mba, aN cI 26 bau_41), (msz, aN cI 80 z), (mcd, aN cI 640 g)] H := hP
          have hD : va_D A [(mo, .inr (8, [.int (nI ps), .ref mpa, .int (nI nl), .int (nI nv), .ref msz, .ref mcd, .ref mbe, .ref mba, .int ol, .int (nI op), .int (nI os), .int (nI svn), .ref ms1, .ref ms2, .ref ms3, .ref ms4, .ref mfa, .ref mim, .ref mik])), (mbe, aN cI 26 beu_41), (mba, aN cI 26 bau_41), (msz, aN cI 80 z), (mcd, aN cI 640 g)] := hD
          try dsimp only at hp_41
          obtain ⟨hr_hp_41, hp_41⟩ := hp_41
          rw [hr_hp_41]
          refine lv_istore (lv' := [(5, .int (nI (mkN (fun k => rmB (cN way) z g (cN ve) nl (cN sta) k (cN n) ol op os) (nl + 1 - (cN n))))), (0, .ref mo), (1, .int (nI (cN ve))), (2, .int (nI (cN way))), (3, .int (nI (cN sta))), (4, .int (nI (cN n)))]) hx hb dX8_whole_44 hl (by decide) rfl (fun ls hl => ?_)
          refine lv_iload hx hb dX8_whole_46 (lv_at hl 0 rfl) ?_
          have hbc := bcN_le (mkN (fun k => rmB (cN way) z g (cN ve) nl (cN sta) k (cN n) ol op os) (nl + 1 - (cN n)))
          have hls := lsN_le (mkN (fun k => rmB (cN way) z g (cN ve) nl (cN sta) k (cN n) ol op os) (nl + 1 - (cN n)))
          have hS9 : mkN (fun k => rmB (cN way) z g (cN ve) nl (cN sta) k (cN n) ol op os) (nl + 1 - (cN n)) < 2 ^ 20 := lm_lt hnl i_n
          have hS8 := shr_le (mkN (fun k => rmB (cN way) z g (cN ve) nl (cN sta) k (cN n) ol op os) (nl + 1 - (cN n))) 1
          refine m_rdS (As := [.int (nI (mkN (fun k => rmB (cN way) z g (cN ve) nl (cN sta) k (cN n) ol op os) (nl + 1 - (cN n))))]) (rest := []) (wc := []) hcf (k_X8_bits (l := l) (D := D) (cI := cI) (cZ := cZ) (x := mkN (fun k => rmB (cN way) z g (cN ve) nl (cN sta) k (cN n) ol op os) (nl + 1 - (cN n))) (hx2 := hS9)) (va_cwS 1 hts gX8_whole_X8_bits rfl rfl rfl yd_X8_bits.2 ⟨Nat.le_of_ble_eq_true rfl, Nat.le_of_ble_eq_true rfl⟩) (m_preS hK hP hD [] (by decide) rfl) rfl hl.1 rfl (Nat.le_of_ble_eq_true rfl) dX8_whole_48 ⟨Nat.zero_le _, Nat.zero_le _⟩ ?_
          refine lv_iconst (v := nI 2) hx hb dX8_whole_51 (by decide) ?_
          refine m_cmp_ge (tgt := 58) hx hb dX8_whole_52 (by decide) (by omega) (by omega) (fun c_52 => ?_) (fun c_52 => ?_)
          · refine lv_iload hx hb dX8_whole_58 (lv_at hl 0 rfl) ?_
            refine m_rdS (As := [.int (nI (mkN (fun k => rmB (cN way) z g (cN ve) nl (cN sta) k (cN n) ol op os) (nl + 1 - (cN n))))]) (rest := []) (wc := []) hcf (k_X8_least (l := l) (D := D) (cI := cI) (cZ := cZ) (x := mkN (fun k => rmB (cN way) z g (cN ve) nl (cN sta) k (cN n) ol op os) (nl + 1 - (cN n))) (hx2 := hS9) (hx3 := bc_ex (by omega))) (va_cwS 1 hts gX8_whole_X8_least rfl rfl rfl yd_X8_least.2 ⟨Nat.le_of_ble_eq_true rfl, Nat.le_of_ble_eq_true rfl⟩) (m_preS hK hP hD [] (by decide) rfl) rfl hl.1 rfl (Nat.le_of_ble_eq_true rfl) dX8_whole_60 ⟨Nat.zero_le _, Nat.zero_le _⟩ ?_
            refine lv_istore (lv' := [(6, .int (nI (lsN (mkN (fun k => rmB (cN way) z g (cN ve) nl (cN sta) k (cN n) ol op os) (nl + 1 - (cN n)))))), (5, .int (nI (mkN (fun k => rmB (cN way) z g (cN ve) nl (cN sta) k (cN n) ol op os) (nl + 1 - (cN n))))), (0, .ref mo), (1, .int (nI (cN ve))), (2, .int (nI (cN way))), (3, .int (nI (cN sta))), (4, .int (nI (cN n)))]) hx hb dX8_whole_63 hl (by decide) rfl (fun ls hl => ?_)
            refine lv_aload_n hx hb dX8_whole_65 rfl (lv_at hl 2 rfl) ?_
            refine lv_iload_n hx hb dX8_whole_66 rfl (lv_at hl 3 rfl) ?_
            refine lv_iload_n hx hb dX8_whole_67 rfl (lv_at hl 4 rfl) ?_
            refine lv_iload hx hb dX8_whole_68 (lv_at hl 0 rfl) ?_
            refine lv_iload hx hb dX8_whole_70 (lv_at hl 6 rfl) ?_
            refine lv_iconst (v := nI 1) hx hb dX8_whole_72 (by decide) ?_
            refine m_add hx hb dX8_whole_73 ?_
            refine m_wrV (As := [.int (nI (cN ve)), .int (nI (cN way)), .int (nI (lsN (mkN (fun k => rmB (cN way) z g (cN ve) nl (cN sta) k (cN n) ol op os) (nl + 1 - (cN n))))), .int (nI ((cN n) + 1))]) (rest := []) (wc := [(mo, .inr (8, [.int (nI ps), .ref mpa, .int (nI nl), .int (nI nv), .ref msz, .ref mcd, .ref mbe, .ref mba, .int ol, .int (nI op), .int (nI os), .int (nI svn), .ref ms1, .ref ms2, .ref ms3, .ref ms4, .ref mfa, .ref mim, .ref mik])), (mbe, aN cI 26 beu_41), (mba, aN cI 26 bau_41), (msz, aN cI 80 z), (mcd, aN cI 640 g)]) hcf (k_X8_likeOf (l := l) (D := D) (cI := cI) (cZ := cZ) (v := cN ve) (way := cN way) (sta := lsN (mkN (fun k => rmB (cN way) z g (cN ve) nl (cN sta) k (cN n) ol op os) (nl + 1 - (cN n)))) (n := (cN n) + 1) (mo := mo) (ps := ps) (mpa := mpa) (nl := nl) (nv := nv) (msz := msz) (mcd := mcd) (mbe := mbe) (mba := mba) (ol := ol) (op := op) (os := os) (svn := svn) (ms1 := ms1) (ms2 := ms2) (ms3 := ms3) (ms4 := ms4) (mfa := mfa) (mim := mim) (mik := mik) (be := beu_41) (ba := bau_41) (z := z) (g := g) (hnl := hnl) (hnv := hnv) (hz := hz) (hg := hg) (hbe := hp_41.1) (hba := hp_41.2) (hop := hop) (hos := hos) (hw := by omega) (hv := by omega) (h1 := by omega) (hn := by omega) (hn1 := by omega)) (cwV 4 hts gX8_whole_X8_likeOf rfl rfl rfl yd_X8_likeOf ⟨Nat.le_of_ble_eq_true rfl, Nat.le_of_ble_eq_true rfl⟩) hK hP hD hS [0, 1, 2, 3, 4] (by decide) rfl rfl rfl rfl hl.1 rfl (Nat.le_of_ble_eq_true rfl) dX8_whole_74 ⟨Nat.zero_le _, Nat.zero_le _⟩ (fun _ => rfl) (fun (u : (Nat → Nat) × (Nat → Nat)) => [(mo, .inr (8, [.int (nI ps), .ref mpa, .int (nI nl), .int (nI nv), .ref msz, .ref mcd, .ref mbe, .ref mba, .int ol, .int (nI op), .int (nI os), .int (nI svn), .ref ms1, .ref ms2, .ref ms3, .ref ms4, .ref mfa, .ref mim, .ref mik])), (mbe, aN cI 26 u.1), (mba, aN cI 26 u.2), (msz, aN cI 80 z), (mcd, aN cI 640 g)]) (fun _ => rfl) (fun r u H locs hp_74 hP hD hS => ?_)
            obtain ⟨beu_74, bau_74⟩ := u
            have hP : va_P D vwCl [(mo, .inr (8, [.int (nI ps), .ref mpa, .int (nI nl), .int (nI nv), .ref msz, .ref mcd, .ref mbe, .ref mba, .int ol, .int (nI op), .int (nI os), .int (nI svn), .ref ms1, .ref ms2, .ref ms3, .ref ms4, .ref mfa, .ref mim, .ref mik])), (mbe, aN cI 26 beu_74), (mba, aN cI 26 bau_74), (msz, aN cI 80 z), (mcd, aN cI 640 g)] H := hP
            have hD : va_D A [(mo, .inr (8, [.int (nI ps), .ref mpa, .int (nI nl), .int (nI nv), .ref msz, .ref mcd, .ref mbe, .ref mba, .int ol, .int (nI op), .int (nI os), .int (nI svn), .ref ms1, .ref ms2, .ref ms3, .ref ms4, .ref mfa, .ref mim, .ref mik])), (mbe, aN cI 26 beu_74), (mba, aN cI 26 bau_74), (msz, aN cI 80 z), (mcd, aN cI 640 g)] := hD
            try dsimp only at hp_74
            obtain ⟨hr_hp_74, hp_74⟩ := hp_74
            rw [hr_hp_74]
            refine lv_iload hx hb dX8_whole_77 (lv_at hl 1 rfl) ?_
            refine m_cmp_ne (tgt := 86) hx hb dX8_whole_79 (by decide) (Nat.lt_trans (lm_lt hnl (by omega)) (by decide)) (by omega) (fun c_79 => ?_) (fun c_79 => ?_)
            · refine lv_iconst (v := nI 0) hx hb dX8_whole_86 (by decide) ?_
              refine lv_istore (lv' := [(7, .int (nI 0)), (6, .int (nI (lsN (mkN (fun k => rmB (cN way) z g (cN ve) nl (cN sta) k (cN n) ol op os) (nl + 1 - (cN n)))))), (5, .int (nI (mkN (fun k => rmB (cN way) z g (cN ve) nl (cN sta) k (cN n) ol op os) (nl + 1 - (cN n))))), (0, .ref mo), (1, .int (nI (cN ve))), (2, .int (nI (cN way))), (3, .int (nI (cN sta))), (4, .int (nI (cN n)))]) hx hb dX8_whole_87 hl (by decide) rfl (fun ls hl => ?_)
              refine lv_iload hx hb dX8_whole_89 (lv_at hl 1 rfl) ?_
              refine m_if_le (tgt := 119) hx hb dX8_whole_91 (by decide) (by omega) (fun c_91 => ?_) (fun c_91 => ?_)
              · refine lv_iconst (v := nI 0) hx hb dX8_whole_119 (by decide) ?_
                refine lv_istore (lv' := [(8, .int (nI 0)), (7, .int (nI 0)), (6, .int (nI (lsN (mkN (fun k => rmB (cN way) z g (cN ve) nl (cN sta) k (cN n) ol op os) (nl + 1 - (cN n)))))), (5, .int (nI (mkN (fun k => rmB (cN way) z g (cN ve) nl (cN sta) k (cN n) ol op os) (nl + 1 - (cN n))))), (0, .ref mo), (1, .int (nI (cN ve))), (2, .int (nI (cN way))), (3, .int (nI (cN sta))), (4, .int (nI (cN n)))]) hx hb dX8_whole_120 hl (by decide) rfl (fun ls hl => ?_)
                refine lv_iload hx hb dX8_whole_122 (lv_at hl 1 rfl) ?_
                refine m_if_ne (tgt := 132) hx hb dX8_whole_124 (by decide) (by omega) (fun c_124 => ?_) (fun c_124 => ?_)
                · exact absurd c_124 (by decide)
                · refine lv_iload hx hb dX8_whole_127 (lv_at hl 0 rfl) ?_
                  refine m_if_eq (tgt := 136) hx hb dX8_whole_129 (by decide) (by omega) (fun c_129 => ?_) (fun c_129 => ?_)
                  · refine lv_iconst (v := nI 1) hx hb dX8_whole_136 (by decide) ?_
                    rw [hQ]
                    have K9 : whQ (mkN (fun k => rmB (cN way) z g (cN ve) nl (cN sta) k (cN n) ol op os) (nl + 1 - (cN n))) (mkN (fun k => rmB (cN way) z g (cN ve) nl (lsN (mkN (fun k => rmB (cN way) z g (cN ve) nl (cN sta) k (cN n) ol op os) (nl + 1 - (cN n)))) k (cN n + 1) ol op os) (nl + 1 - (cN n + 1))) (mkN (fun k => rmB (cN way) z g (cN ve) nl (lsN (mkN (fun k => rmB (cN way) z g (cN ve) nl (cN sta) k (cN n) ol op os) (nl + 1 - (cN n))) - 1) k (cN n + 1) ol op os) (nl + 1 - (cN n + 1))) = 1 := by
                      unfold whQ
                      rw [if_neg (by omega), if_neg (by rintro (h | h); exact c_79 h; first | exact c_112 h.2 | omega)]
                    exact m_iwr hx hb hr hlocks (beu_74, bau_74) (⟨by rw [rfQ_v c_5 KI, K9]; rfl, hp_74.1, hp_74.2⟩) hP hS dX8_whole_137
                  · exact absurd c_129 (by decide)
              · refine lv_aload_n hx hb dX8_whole_94 rfl (lv_at hl 3 rfl) ?_
                refine lv_iload_n hx hb dX8_whole_95 rfl (lv_at hl 4 rfl) ?_
                refine lv_iload_n hx hb dX8_whole_96 rfl (lv_at hl 5 rfl) ?_
                refine lv_iload hx hb dX8_whole_97 (lv_at hl 1 rfl) ?_
                refine lv_iconst (v := nI 1) hx hb dX8_whole_99 (by decide) ?_
                refine m_sub hx hb (by omega) dX8_whole_100 ?_
                refine lv_iload hx hb dX8_whole_101 (lv_at hl 7 rfl) ?_
                refine lv_iconst (v := nI 1) hx hb dX8_whole_103 (by decide) ?_
                refine m_add hx hb dX8_whole_104 ?_
                refine m_wrV (As := [.int (nI (cN ve)), .int (nI (cN way)), .int (nI ((lsN (mkN (fun k => rmB (cN way) z g (cN ve) nl (cN sta) k (cN n) ol op os) (nl + 1 - (cN n)))) - 1)), .int (nI ((cN n) + 1))]) (rest := []) (wc := [(mo, .inr (8, [.int (nI ps), .ref mpa, .int (nI nl), .int (nI nv), .ref msz, .ref mcd, .ref mbe, .ref mba, .int ol, .int (nI op), .int (nI os), .int (nI svn), .ref ms1, .ref ms2, .ref ms3, .ref ms4, .ref mfa, .ref mim, .ref mik])), (mbe, aN cI 26 beu_74), (mba, aN cI 26 bau_74), (msz, aN cI 80 z), (mcd, aN cI 640 g)]) hcf (k_X8_likeOf (l := l) (D := D) (cI := cI) (cZ := cZ) (v := cN ve) (way := cN way) (sta := (lsN (mkN (fun k => rmB (cN way) z g (cN ve) nl (cN sta) k (cN n) ol op os) (nl + 1 - (cN n)))) - 1) (n := (cN n) + 1) (mo := mo) (ps := ps) (mpa := mpa) (nl := nl) (nv := nv) (msz := msz) (mcd := mcd) (mbe := mbe) (mba := mba) (ol := ol) (op := op) (os := os) (svn := svn) (ms1 := ms1) (ms2 := ms2) (ms3 := ms3) (ms4 := ms4) (mfa := mfa) (mim := mim) (mik := mik) (be := beu_74) (ba := bau_74) (z := z) (g := g) (hnl := hnl) (hnv := hnv) (hz := hz) (hg := hg) (hbe := hp_74.1) (hba := hp_74.2) (hop := hop) (hos := hos) (hw := by omega) (hv := by omega) (h1 := by omega) (hn := by omega) (hn1 := by omega)) (cwV 4 hts gX8_whole_X8_likeOf rfl rfl rfl yd_X8_likeOf ⟨Nat.le_of_ble_eq_true rfl, Nat.le_of_ble_eq_true rfl⟩) hK hP hD hS [0, 1, 2, 3, 4] (by decide) rfl rfl rfl rfl hl.1 rfl (Nat.le_of_ble_eq_true rfl) dX8_whole_105 ⟨Nat.zero_le _, Nat.zero_le _⟩ (fun _ => rfl) (fun (u : (Nat → Nat) × (Nat → Nat)) => [(mo, .inr (8, [.int (nI ps), .ref mpa, .int (nI nl), .int (nI nv), .ref msz, .ref mcd, .ref mbe, .ref mba, .int ol, .int (nI op), .int (nI os), .int (nI svn), .ref ms1, .ref ms2, .ref ms3, .ref ms4, .ref mfa, .ref mim, .ref mik])), (mbe, aN cI 26 u.1), (mba, aN cI 26 u.2), (msz, aN cI 80 z), (mcd, aN cI 640 g)]) (fun _ => rfl) (fun r u H locs hp_105 hP hD hS => ?_)
                obtain ⟨beu_105, bau_105⟩ := u
                have hP : va_P D vwCl [(mo, .inr (8, [.int (nI ps), .ref mpa, .int (nI nl), .int (nI nv), .ref msz, .ref mcd, .ref mbe, .ref mba, .int ol, .int (nI op), .int (nI os), .int (nI svn), .ref ms1, .ref ms2, .ref ms3, .ref ms4, .ref mfa, .ref mim, .ref mik])), (mbe, aN cI 26 beu_105), (mba, aN cI 26 bau_105), (msz, aN cI 80 z), (mcd, aN cI 640 g)] H := hP
                have hD : va_D A [(mo, .inr (8, [.int (nI ps), .ref mpa, .int (nI nl), .int (nI nv), .ref msz, .ref mcd, .ref mbe, .ref mba, .int ol, .int (nI op), .int (nI os), .int (nI svn), .ref ms1, .ref ms2, .ref ms3, .ref ms4, .ref mfa, .ref mim, .ref mik])), (mbe, aN cI 26 beu_105), (mba, aN cI 26 bau_105), (msz, aN cI 80 z), (mcd, aN cI 640 g)] := hD
                try dsimp only at hp_105
                obtain ⟨hr_hp_105, hp_105⟩ := hp_105
                rw [hr_hp_105]
                refine lv_iload hx hb dX8_whole_108 (lv_at hl 2 rfl) ?_
                refine lv_iconst (v := nI 1) hx hb dX8_whole_110 (by decide) ?_
                refine m_shr hx hb (by omega) (by omega) dX8_whole_111 ?_
                refine m_cmp_ne (tgt := 119) hx hb dX8_whole_112 (by decide) (Nat.lt_trans (lm_lt hnl (by omega)) (by decide)) (by omega) (fun c_112 => ?_) (fun c_112 => ?_)
                · refine lv_iconst (v := nI 0) hx hb dX8_whole_119 (by decide) ?_
                  refine lv_istore (lv' := [(8, .int (nI 0)), (7, .int (nI 0)), (6, .int (nI (lsN (mkN (fun k => rmB (cN way) z g (cN ve) nl (cN sta) k (cN n) ol op os) (nl + 1 - (cN n)))))), (5, .int (nI (mkN (fun k => rmB (cN way) z g (cN ve) nl (cN sta) k (cN n) ol op os) (nl + 1 - (cN n))))), (0, .ref mo), (1, .int (nI (cN ve))), (2, .int (nI (cN way))), (3, .int (nI (cN sta))), (4, .int (nI (cN n)))]) hx hb dX8_whole_120 hl (by decide) rfl (fun ls hl => ?_)
                  refine lv_iload hx hb dX8_whole_122 (lv_at hl 1 rfl) ?_
                  refine m_if_ne (tgt := 132) hx hb dX8_whole_124 (by decide) (by omega) (fun c_124 => ?_) (fun c_124 => ?_)
                  · exact absurd c_124 (by decide)
                  · refine lv_iload hx hb dX8_whole_127 (lv_at hl 0 rfl) ?_
                    refine m_if_eq (tgt := 136) hx hb dX8_whole_129 (by decide) (by omega) (fun c_129 => ?_) (fun c_129 => ?_)
                    · refine lv_iconst (v := nI 1) hx hb dX8_whole_136 (by decide) ?_
                      rw [hQ]
                      have K9 : whQ (mkN (fun k => rmB (cN way) z g (cN ve) nl (cN sta) k (cN n) ol op os) (nl + 1 - (cN n))) (mkN (fun k => rmB (cN way) z g (cN ve) nl (lsN (mkN (fun k => rmB (cN way) z g (cN ve) nl (cN sta) k (cN n) ol op os) (nl + 1 - (cN n)))) k (cN n + 1) ol op os) (nl + 1 - (cN n + 1))) (mkN (fun k => rmB (cN way) z g (cN ve) nl (lsN (mkN (fun k => rmB (cN way) z g (cN ve) nl (cN sta) k (cN n) ol op os) (nl + 1 - (cN n))) - 1) k (cN n + 1) ol op os) (nl + 1 - (cN n + 1))) = 1 := by
                        unfold whQ
                        rw [if_neg (by omega), if_neg (by rintro (h | h); exact c_79 h; first | exact c_112 h.2 | omega)]
                      exact m_iwr hx hb hr hlocks (beu_105, bau_105) (⟨by rw [rfQ_v c_5 KI, K9]; rfl, hp_105.1, hp_105.2⟩) hP hS dX8_whole_137
                    · exact absurd c_129 (by decide)
                · refine lv_iconst (v := nI 1) hx hb dX8_whole_115 (by decide) ?_
                  refine lv_goto (tgt := 120) hx hb dX8_whole_116 (by decide) ?_
                  refine lv_istore (lv' := [(8, .int (nI 1)), (7, .int (nI 0)), (6, .int (nI (lsN (mkN (fun k => rmB (cN way) z g (cN ve) nl (cN sta) k (cN n) ol op os) (nl + 1 - (cN n)))))), (5, .int (nI (mkN (fun k => rmB (cN way) z g (cN ve) nl (cN sta) k (cN n) ol op os) (nl + 1 - (cN n))))), (0, .ref mo), (1, .int (nI (cN ve))), (2, .int (nI (cN way))), (3, .int (nI (cN sta))), (4, .int (nI (cN n)))]) hx hb dX8_whole_120 hl (by decide) rfl (fun ls hl => ?_)
                  refine lv_iload hx hb dX8_whole_122 (lv_at hl 1 rfl) ?_
                  refine m_if_ne (tgt := 132) hx hb dX8_whole_124 (by decide) (by omega) (fun c_124 => ?_) (fun c_124 => ?_)
                  · exact absurd c_124 (by decide)
                  · refine lv_iload hx hb dX8_whole_127 (lv_at hl 0 rfl) ?_
                    refine m_if_eq (tgt := 136) hx hb dX8_whole_129 (by decide) (by omega) (fun c_129 => ?_) (fun c_129 => ?_)
                    · exact absurd c_129 (by decide)
                    · refine lv_iconst (v := nI 0) hx hb dX8_whole_132 (by decide) ?_
                      refine lv_goto (tgt := 137) hx hb dX8_whole_133 (by decide) ?_
                      rw [hQ]
                      have K9 : whQ (mkN (fun k => rmB (cN way) z g (cN ve) nl (cN sta) k (cN n) ol op os) (nl + 1 - (cN n))) (mkN (fun k => rmB (cN way) z g (cN ve) nl (lsN (mkN (fun k => rmB (cN way) z g (cN ve) nl (cN sta) k (cN n) ol op os) (nl + 1 - (cN n)))) k (cN n + 1) ol op os) (nl + 1 - (cN n + 1))) (mkN (fun k => rmB (cN way) z g (cN ve) nl (lsN (mkN (fun k => rmB (cN way) z g (cN ve) nl (cN sta) k (cN n) ol op os) (nl + 1 - (cN n))) - 1) k (cN n + 1) ol op os) (nl + 1 - (cN n + 1))) = 0 := by
                        unfold whQ
                        rw [if_neg (by omega), if_pos (by first | exact Or.inl c_79 | exact Or.inr ⟨c_91, c_112⟩)]
                      exact m_iwr hx hb hr hlocks (beu_105, bau_105) (⟨by rw [rfQ_v c_5 KI, K9]; rfl, hp_105.1, hp_105.2⟩) hP hS dX8_whole_137
            · refine lv_iconst (v := nI 1) hx hb dX8_whole_82 (by decide) ?_
              refine lv_goto (tgt := 87) hx hb dX8_whole_83 (by decide) ?_
              refine lv_istore (lv' := [(7, .int (nI 1)), (6, .int (nI (lsN (mkN (fun k => rmB (cN way) z g (cN ve) nl (cN sta) k (cN n) ol op os) (nl + 1 - (cN n)))))), (5, .int (nI (mkN (fun k => rmB (cN way) z g (cN ve) nl (cN sta) k (cN n) ol op os) (nl + 1 - (cN n))))), (0, .ref mo), (1, .int (nI (cN ve))), (2, .int (nI (cN way))), (3, .int (nI (cN sta))), (4, .int (nI (cN n)))]) hx hb dX8_whole_87 hl (by decide) rfl (fun ls hl => ?_)
              refine lv_iload hx hb dX8_whole_89 (lv_at hl 1 rfl) ?_
              refine m_if_le (tgt := 119) hx hb dX8_whole_91 (by decide) (by omega) (fun c_91 => ?_) (fun c_91 => ?_)
              · refine lv_iconst (v := nI 0) hx hb dX8_whole_119 (by decide) ?_
                refine lv_istore (lv' := [(8, .int (nI 0)), (7, .int (nI 1)), (6, .int (nI (lsN (mkN (fun k => rmB (cN way) z g (cN ve) nl (cN sta) k (cN n) ol op os) (nl + 1 - (cN n)))))), (5, .int (nI (mkN (fun k => rmB (cN way) z g (cN ve) nl (cN sta) k (cN n) ol op os) (nl + 1 - (cN n))))), (0, .ref mo), (1, .int (nI (cN ve))), (2, .int (nI (cN way))), (3, .int (nI (cN sta))), (4, .int (nI (cN n)))]) hx hb dX8_whole_120 hl (by decide) rfl (fun ls hl => ?_)
                refine lv_iload hx hb dX8_whole_122 (lv_at hl 1 rfl) ?_
                refine m_if_ne (tgt := 132) hx hb dX8_whole_124 (by decide) (by omega) (fun c_124 => ?_) (fun c_124 => ?_)
                · refine lv_iconst (v := nI 0) hx hb dX8_whole_132 (by decide) ?_
                  refine lv_goto (tgt := 137) hx hb dX8_whole_133 (by decide) ?_
                  rw [hQ]
                  have K9 : whQ (mkN (fun k => rmB (cN way) z g (cN ve) nl (cN sta) k (cN n) ol op os) (nl + 1 - (cN n))) (mkN (fun k => rmB (cN way) z g (cN ve) nl (lsN (mkN (fun k => rmB (cN way) z g (cN ve) nl (cN sta) k (cN n) ol op os) (nl + 1 - (cN n)))) k (cN n + 1) ol op os) (nl + 1 - (cN n + 1))) (mkN (fun k => rmB (cN way) z g (cN ve) nl (lsN (mkN (fun k => rmB (cN way) z g (cN ve) nl (cN sta) k (cN n) ol op os) (nl + 1 - (cN n))) - 1) k (cN n + 1) ol op os) (nl + 1 - (cN n + 1))) = 0 := by
                    unfold whQ
                    rw [if_neg (by omega), if_pos (by first | exact Or.inl c_79 | exact Or.inr ⟨c_91, c_112⟩)]
                  exact m_iwr hx hb hr hlocks (beu_74, bau_74) (⟨by rw [rfQ_v c_5 KI, K9]; rfl, hp_74.1, hp_74.2⟩) hP hS dX8_whole_137
                · exact absurd c_124 (by decide)
              · refine lv_aload_n hx hb dX8_whole_94 rfl (lv_at hl 3 rfl) ?_
                refine lv_iload_n hx hb dX8_whole_95 rfl (lv_at hl 4 rfl) ?_
                refine lv_iload_n hx hb dX8_whole_96 rfl (lv_at hl 5 rfl) ?_
                refine lv_iload hx hb dX8_whole_97 (lv_at hl 1 rfl) ?_
                refine lv_iconst (v := nI 1) hx hb dX8_whole_99 (by decide) ?_
                refine m_sub hx hb (by omega) dX8_whole_100 ?_
                refine lv_iload hx hb dX8_whole_101 (lv_at hl 7 rfl) ?_
                refine lv_iconst (v := nI 1) hx hb dX8_whole_103 (by decide) ?_
                refine m_add hx hb dX8_whole_104 ?_
                refine m_wrV (As := [.int (nI (cN ve)), .int (nI (cN way)), .int (nI ((lsN (mkN (fun k => rmB (cN way) z g (cN ve) nl (cN sta) k (cN n) ol op os) (nl + 1 - (cN n)))) - 1)), .int (nI ((cN n) + 1))]) (rest := []) (wc := [(mo, .inr (8, [.int (nI ps), .ref mpa, .int (nI nl), .int (nI nv), .ref msz, .ref mcd, .ref mbe, .ref mba, .int ol, .int (nI op), .int (nI os), .int (nI svn), .ref ms1, .ref ms2, .ref ms3, .ref ms4, .ref mfa, .ref mim, .ref mik])), (mbe, aN cI 26 beu_74), (mba, aN cI 26 bau_74), (msz, aN cI 80 z), (mcd, aN cI 640 g)]) hcf (k_X8_likeOf (l := l) (D := D) (cI := cI) (cZ := cZ) (v := cN ve) (way := cN way) (sta := (lsN (mkN (fun k => rmB (cN way) z g (cN ve) nl (cN sta) k (cN n) ol op os) (nl + 1 - (cN n)))) - 1) (n := (cN n) + 1) (mo := mo) (ps := ps) (mpa := mpa) (nl := nl) (nv := nv) (msz := msz) (mcd := mcd) (mbe := mbe) (mba := mba) (ol := ol) (op := op) (os := os) (svn := svn) (ms1 := ms1) (ms2 := ms2) (ms3 := ms3) (ms4 := ms4) (mfa := mfa) (mim := mim) (mik := mik) (be := beu_74) (ba := bau_74) (z := z) (g := g) (hnl := hnl) (hnv := hnv) (hz := hz) (hg := hg) (hbe := hp_74.1) (hba := hp_74.2) (hop := hop) (hos := hos) (hw := by omega) (hv := by omega) (h1 := by omega) (hn := by omega) (hn1 := by omega)) (cwV 4 hts gX8_whole_X8_likeOf rfl rfl rfl yd_X8_likeOf ⟨Nat.le_of_ble_eq_true rfl, Nat.le_of_ble_eq_true rfl⟩) hK hP hD hS [0, 1, 2, 3, 4] (by decide) rfl rfl rfl rfl hl.1 rfl (Nat.le_of_ble_eq_true rfl) dX8_whole_105 ⟨Nat.zero_le _, Nat.zero_le _⟩ (fun _ => rfl) (fun (u : (Nat → Nat) × (Nat → Nat)) => [(mo, .inr (8, [.int (nI ps), .ref mpa, .int (nI nl), .int (nI nv), .ref msz, .ref mcd, .ref mbe, .ref mba, .int ol, .int (nI op), .int (nI os), .int (nI svn), .ref ms1, .ref ms2, .ref ms3, .ref ms4, .ref mfa, .ref mim, .ref mik])), (mbe, aN cI 26 u.1), (mba, aN cI 26 u.2), (msz, aN cI 80 z), (mcd, aN cI 640 g)]) (fun _ => rfl) (fun r u H locs hp_105 hP hD hS => ?_)
                obtain ⟨beu_105, bau_105⟩ := u
                have hP : va_P D vwCl [(mo, .inr (8, [.int (nI ps), .ref mpa, .int (nI nl), .int (nI nv), .ref msz, .ref mcd, .ref mbe, .ref mba, .int ol, .int (nI op), .int (nI os), .int (nI svn), .ref ms1, .ref ms2, .ref ms3, .ref ms4, .ref mfa, .ref mim, .ref mik])), (mbe, aN cI 26 beu_105), (mba, aN cI 26 bau_105), (msz, aN cI 80 z), (mcd, aN cI 640 g)] H := hP
                have hD : va_D A [(mo, .inr (8, [.int (nI ps), .ref mpa, .int (nI nl), .int (nI nv), .ref msz, .ref mcd, .ref mbe, .ref mba, .int ol, .int (nI op), .int (nI os), .int (nI svn), .ref ms1, .ref ms2, .ref ms3, .ref ms4, .ref mfa, .ref mim, .ref mik])), (mbe, aN cI 26 beu_105), (mba, aN cI 26 bau_105), (msz, aN cI 80 z), (mcd, aN cI 640 g)] := hD
                try dsimp only at hp_105
                obtain ⟨hr_hp_105, hp_105⟩ := hp_105
                rw [hr_hp_105]
                refine lv_iload hx hb dX8_whole_108 (lv_at hl 2 rfl) ?_
                refine lv_iconst (v := nI 1) hx hb dX8_whole_110 (by decide) ?_
                refine m_shr hx hb (by omega) (by omega) dX8_whole_111 ?_
                refine m_cmp_ne (tgt := 119) hx hb dX8_whole_112 (by decide) (Nat.lt_trans (lm_lt hnl (by omega)) (by decide)) (by omega) (fun c_112 => ?_) (fun c_112 => ?_)
                · refine lv_iconst (v := nI 0) hx hb dX8_whole_119 (by decide) ?_
                  refine lv_istore (lv' := [(8, .int (nI 0)), (7, .int (nI 1)), (6, .int (nI (lsN (mkN (fun k => rmB (cN way) z g (cN ve) nl (cN sta) k (cN n) ol op os) (nl + 1 - (cN n)))))), (5, .int (nI (mkN (fun k => rmB (cN way) z g (cN ve) nl (cN sta) k (cN n) ol op os) (nl + 1 - (cN n))))), (0, .ref mo), (1, .int (nI (cN ve))), (2, .int (nI (cN way))), (3, .int (nI (cN sta))), (4, .int (nI (cN n)))]) hx hb dX8_whole_120 hl (by decide) rfl (fun ls hl => ?_)
                  refine lv_iload hx hb dX8_whole_122 (lv_at hl 1 rfl) ?_
                  refine m_if_ne (tgt := 132) hx hb dX8_whole_124 (by decide) (by omega) (fun c_124 => ?_) (fun c_124 => ?_)
                  · refine lv_iconst (v := nI 0) hx hb dX8_whole_132 (by decide) ?_
                    refine lv_goto (tgt := 137) hx hb dX8_whole_133 (by decide) ?_
                    rw [hQ]
                    have K9 : whQ (mkN (fun k => rmB (cN way) z g (cN ve) nl (cN sta) k (cN n) ol op os) (nl + 1 - (cN n))) (mkN (fun k => rmB (cN way) z g (cN ve) nl (lsN (mkN (fun k => rmB (cN way) z g (cN ve) nl (cN sta) k (cN n) ol op os) (nl + 1 - (cN n)))) k (cN n + 1) ol op os) (nl + 1 - (cN n + 1))) (mkN (fun k => rmB (cN way) z g (cN ve) nl (lsN (mkN (fun k => rmB (cN way) z g (cN ve) nl (cN sta) k (cN n) ol op os) (nl + 1 - (cN n))) - 1) k (cN n + 1) ol op os) (nl + 1 - (cN n + 1))) = 0 := by
                      unfold whQ
                      rw [if_neg (by omega), if_pos (by first | exact Or.inl c_79 | exact Or.inr ⟨c_91, c_112⟩)]
                    exact m_iwr hx hb hr hlocks (beu_105, bau_105) (⟨by rw [rfQ_v c_5 KI, K9]; rfl, hp_105.1, hp_105.2⟩) hP hS dX8_whole_137
                  · exact absurd c_124 (by decide)
                · refine lv_iconst (v := nI 1) hx hb dX8_whole_115 (by decide) ?_
                  refine lv_goto (tgt := 120) hx hb dX8_whole_116 (by decide) ?_
                  refine lv_istore (lv' := [(8, .int (nI 1)), (7, .int (nI 1)), (6, .int (nI (lsN (mkN (fun k => rmB (cN way) z g (cN ve) nl (cN sta) k (cN n) ol op os) (nl + 1 - (cN n)))))), (5, .int (nI (mkN (fun k => rmB (cN way) z g (cN ve) nl (cN sta) k (cN n) ol op os) (nl + 1 - (cN n))))), (0, .ref mo), (1, .int (nI (cN ve))), (2, .int (nI (cN way))), (3, .int (nI (cN sta))), (4, .int (nI (cN n)))]) hx hb dX8_whole_120 hl (by decide) rfl (fun ls hl => ?_)
                  refine lv_iload hx hb dX8_whole_122 (lv_at hl 1 rfl) ?_
                  refine m_if_ne (tgt := 132) hx hb dX8_whole_124 (by decide) (by omega) (fun c_124 => ?_) (fun c_124 => ?_)
                  · refine lv_iconst (v := nI 0) hx hb dX8_whole_132 (by decide) ?_
                    refine lv_goto (tgt := 137) hx hb dX8_whole_133 (by decide) ?_
                    rw [hQ]
                    have K9 : whQ (mkN (fun k => rmB (cN way) z g (cN ve) nl (cN sta) k (cN n) ol op os) (nl + 1 - (cN n))) (mkN (fun k => rmB (cN way) z g (cN ve) nl (lsN (mkN (fun k => rmB (cN way) z g (cN ve) nl (cN sta) k (cN n) ol op os) (nl + 1 - (cN n)))) k (cN n + 1) ol op os) (nl + 1 - (cN n + 1))) (mkN (fun k => rmB (cN way) z g (cN ve) nl (lsN (mkN (fun k => rmB (cN way) z g (cN ve) nl (cN sta) k (cN n) ol op os) (nl + 1 - (cN n))) - 1) k (cN n + 1) ol op os) (nl + 1 - (cN n + 1))) = 0 := by
                      unfold whQ
                      rw [if_neg (by omega), if_pos (by first | exact Or.inl c_79 | exact Or.inr ⟨c_91, c_112⟩)]
                    exact m_iwr hx hb hr hlocks (beu_105, bau_105) (⟨by rw [rfQ_v c_5 KI, K9]; rfl, hp_105.1, hp_105.2⟩) hP hS dX8_whole_137
                  · exact absurd c_124 (by decide)
          · refine lv_bipush (v := (-5)) hx hb dX8_whole_55 (by decide) ?_
            rw [hQ]
            exact m_iwr hx hb hr hlocks (beu_41, bau_41) (⟨by rw [rfQ_v c_5 KI]; unfold whQ; rw [if_pos c_52], hp_41.1, hp_41.2⟩) hP hS dX8_whole_57
        · refine lv_bipush (v := (-2)) hx hb dX8_whole_32 (by decide) ?_
          rw [hQ]
          exact m_iwr hx hb hr hlocks (be, ba) (⟨by rw [rfQ_o c_5 (by first | (simp [c_14, c_21, c_29]; done) | (simp [c_14]; done) | (simp [c_21]; done) | (simp [c_29]; done))], hbe, hba⟩) hP hS dX8_whole_34
  · refine lv_iconst (v := (-1)) hx hb dX8_whole_8 (by decide) ?_
    rw [hQ]
    exact m_iwr hx hb hr hlocks (be, ba) (⟨by rw [rfQ_u c_5], hbe, hba⟩) hP hS dX8_whole_9

theorem yd_X8_takenOf : yX8_takenOf.cls = RX8 ∧ yX8_takenOf.cls ≠ "java/lang/invoke/MethodHandle" ∧ yX8_takenOf.cls ≠ "java/lang/invoke/VarHandle" ∧ (parseMethodDescriptor yX8_takenOf.desc).map (fun d => d.parameters.length) = some 2 := by decide +kernel
set_option maxHeartbeats 4000000 in
set_option maxRecDepth 100000 in
theorem k_X8_takenOf (l : Launch) (D : va_G) (cI cZ : ClassId) (mo ps mpa nl nv msz mcd mbe mba : Nat) (ol : Int32) (op os svn ms1 ms2 ms3 ms4 mfa mim mik : Nat) (gr n : Nat) (hnl : nl ≤ 20) (hgr : gr < 2 ^ 20) (hn : n ≤ 20) : Met l yX8_takenOf wsX8_takenOf ({ frames := 0, cells := 0, slots := 0, locals := 0 }) (mPc [.ref mo, .int (nI gr), .int (nI n)] D cI cZ [(mo, .inr (8, [.int (nI ps), .ref mpa, .int (nI nl), .int (nI nv), .ref msz, .ref mcd, .ref mbe, .ref mba, .int ol, .int (nI op), .int (nI os), .int (nI svn), .ref ms1, .ref ms2, .ref ms3, .ref ms4, .ref mfa, .ref mim, .ref mik]))]) (QcRead (nI ((tkF gr n nl).1))) 0 0 (fun _ => False) := by
  refine Met.ofW (cc := cX8_takenOf) (maxL := 6) (ret := (some .int)) (by decide) rfl ?_
  intro p e s m args below meth c s₁ BB hml hv
  obtain ⟨hargs, hP, hD0, hK⟩ := hv
  have hx := BB.exec
  have hb := BB.bytes
  have hr := BB.returns
  have hts := atoms_spec (ws := wsX8_takenOf) BB.pre
  have hown : s.vm.findClass RX8 = some m.cls := findClass_of_methodNamed BB.named
  have hlocks := BB.notSynchronized
  have hcf : CallFix p m c cX8_takenOf 6 s args wsX8_takenOf RX8 := ⟨hx, hb, hml, hown, hts⟩
  have hD := hD0
  rw [hargs, lg_entry_eq, ← hargs]
  have hl := lv_entry ([.ref mo, .int (nI gr), .int (nI n)]) (n := 6) (Nat.le_of_ble_eq_true rfl)
  generalize (lg_sl ([.ref mo, .int (nI gr), .int (nI n)]) ++ List.replicate (6 - (lg_sl ([.ref mo, .int (nI gr), .int (nI n)])).length) Slot.unset).toArray = ls at hl ⊢
  have hl : lv_has ls 6 [(0, .ref mo), (1, .int (nI gr)), (2, .int (nI n))] := hl
  obtain ⟨Q, hQ⟩ : ∃ Q, Q = MQ below (QcRead (nI ((tkF gr n nl).1))) args s 0 0 (fun _ => False) := ⟨_, rfl⟩
  rw [← hQ]
  have i_X8 : ∀ w ∈ u_ws RX8 TX8 19, w ∈ wsX8_takenOf := by decide +kernel
  have f_58 := hts (.fieldLink RX8 58 "SameAgainModel" "lines" "I") (by decide +kernel)
  refine lv_iconst (v := nI 0) hx hb dX8_takenOf_0 (by decide) ?_
  refine lv_istore_n (lv' := [(3, .int (nI 0)), (0, .ref mo), (1, .int (nI gr)), (2, .int (nI n))]) hx hb dX8_takenOf_1 rfl hl (by decide) rfl (fun ls hl => ?_)
  refine lv_iconst (v := nI 0) hx hb dX8_takenOf_2 (by decide) ?_
  refine lv_istore (lv' := [(4, .int (nI 0)), (3, .int (nI 0)), (0, .ref mo), (1, .int (nI gr)), (2, .int (nI n))]) hx hb dX8_takenOf_3 hl (by decide) rfl (fun ls hl => ?_)
  refine lv_iconst (v := nI 0) hx hb dX8_takenOf_5 (by decide) ?_
  refine lv_istore (lv' := [(5, .int (nI 0)), (4, .int (nI 0)), (3, .int (nI 0)), (0, .ref mo), (1, .int (nI gr)), (2, .int (nI n))]) hx hb dX8_takenOf_6 hl (by decide) rfl (fun ls hl => ?_)
  have loop_8 : ∀ (fu : Nat) (k t f : Nat) (hfu : nl - k < fu)  (hk : k ≤ nl) (hf : f ≤ 40) (e1 : t = (tkF gr n k).1) (e2 : f = (tkF gr n k).2.1) (ls : Array Slot) (hl : lv_has ls 6 [(0, .ref mo), (1, .int (nI gr)), (2, .int (nI n)), (3, .int (nI t)), (4, .int (nI f)), (5, .int (nI k))]), W p l e (headSpec wsX8_takenOf { frames := 0, cells := 0, slots := 0, locals := 0 }).room s m args below meth c s.heap [] 0 0 Q (F0 m 8 ls []) := by
    intro fu
    induction fu with
    | zero => intro k t f hfu; exact absurd hfu (Nat.not_lt_zero _)
    | succ fu ih_8 =>
      intro k t f hfu hk hf e1 e2 ls hl
      refine lv_iload hx hb dX8_takenOf_8 (lv_at hl 5 rfl) ?_
      refine lv_aload_n hx hb dX8_takenOf_10 rfl (lv_at hl 0 rfl) ?_
      refine va_get (D := D) (ci := 8) (v := .int (nI nl)) (C := RX8) (T := TX8) (N := 19) hx hb hts i_X8 hown hK.1 hP 0 rfl rfl 2 (by decide) f_58 (fun _ h9 => h9) rfl dX8_takenOf_11 ?_
      refine m_cmp_ge (tgt := 53) hx hb dX8_takenOf_14 (by decide) (by omega) (by omega) (fun c_14 => ?_) (fun c_14 => ?_)
      · refine lv_iload_n hx hb dX8_takenOf_53 rfl (lv_at hl 3 rfl) ?_
        rw [hQ]
        have e9 : k = nl := by omega
        exact m_ird hx hb hr hlocks (by rw [e1, e9]) dX8_takenOf_54
      · refine lv_iload_n hx hb dX8_takenOf_17 rfl (lv_at hl 1 rfl) ?_
        refine lv_iload hx hb dX8_takenOf_18 (lv_at hl 5 rfl) ?_
        refine m_shr hx hb (by omega) (by omega) dX8_takenOf_20 ?_
        refine lv_iconst (v := nI 1) hx hb dX8_takenOf_21 (by decide) ?_
        refine m_and hx hb dX8_takenOf_22 ?_
        refine lv_iconst (v := nI 1) hx hb dX8_takenOf_23 (by decide) ?_
        refine m_cmp_ne (tgt := 47) hx hb dX8_takenOf_24 (by decide) (Nat.lt_of_le_of_lt (bit1_le _ _) (by decide)) (by omega) (fun c_24 => ?_) (fun c_24 => ?_)
        · refine lv_iinc (v := nI (k + 1)) (lv' := [(5, .int (nI (k + 1))), (0, .ref mo), (1, .int (nI gr)), (2, .int (nI n)), (3, .int (nI t)), (4, .int (nI f))]) hx hb dX8_takenOf_47 hl (k := 5) rfl ((nI_succ _).symm) (by decide) rfl (fun ls hl => ?_)
          refine lv_goto (tgt := 8) hx hb dX8_takenOf_50 (by decide) ?_
          have X9 : tkF gr n (k + 1) = tkF gr n k := tkF_f (by first | (intro q; have h9 := q.1; rw [bit1_0 (by have := bit1_le gr k; omega)] at h9; cases h9) | (intro q; omega))
          exact ih_8 (k + 1) _ _ (by omega) (by omega) hf (by rw [X9]; exact e1) (by rw [X9]; exact e2)  ls (lv_sub hl [1, 2, 3, 4, 5, 0] rfl)
        · refine lv_iload hx hb dX8_takenOf_27 (lv_at hl 5 rfl) ?_
          refine lv_iload hx hb dX8_takenOf_29 (lv_at hl 4 rfl) ?_
          refine m_cmp_lt (tgt := 47) hx hb dX8_takenOf_31 (by decide) (by omega) (by omega) (fun c_31 => ?_) (fun c_31 => ?_)
          · refine lv_iinc (v := nI (k + 1)) (lv' := [(5, .int (nI (k + 1))), (0, .ref mo), (1, .int (nI gr)), (2, .int (nI n)), (3, .int (nI t)), (4, .int (nI f))]) hx hb dX8_takenOf_47 hl (k := 5) rfl ((nI_succ _).symm) (by decide) rfl (fun ls hl => ?_)
            refine lv_goto (tgt := 8) hx hb dX8_takenOf_50 (by decide) ?_
            have X9 : tkF gr n (k + 1) = tkF gr n k := tkF_f (by first | (intro q; have h9 := q.1; rw [bit1_0 (by have := bit1_le gr k; omega)] at h9; cases h9) | (intro q; omega))
            exact ih_8 (k + 1) _ _ (by omega) (by omega) hf (by rw [X9]; exact e1) (by rw [X9]; exact e2)  ls (lv_sub hl [1, 2, 3, 4, 5, 0] rfl)
          · refine lv_iload_n hx hb dX8_takenOf_34 rfl (lv_at hl 3 rfl) ?_
            refine lv_iconst (v := nI 1) hx hb dX8_takenOf_35 (by decide) ?_
            refine lv_iload hx hb dX8_takenOf_36 (lv_at hl 5 rfl) ?_
            refine m_shl1 hx hb (by omega) dX8_takenOf_38 ?_
            refine m_or hx hb dX8_takenOf_39 ?_
            refine lv_istore_n (lv' := [(3, .int (nI (t ||| (2 ^ k)))), (0, .ref mo), (1, .int (nI gr)), (2, .int (nI n)), (4, .int (nI f)), (5, .int (nI k))]) hx hb dX8_takenOf_40 rfl hl (by decide) rfl (fun ls hl => ?_)
            refine lv_iload hx hb dX8_takenOf_41 (lv_at hl 5 rfl) ?_
            refine lv_iload_n hx hb dX8_takenOf_43 rfl (lv_at hl 3 rfl) ?_
            refine m_add hx hb dX8_takenOf_44 ?_
            refine lv_istore (lv' := [(4, .int (nI (k + n))), (3, .int (nI (t ||| (2 ^ k)))), (0, .ref mo), (1, .int (nI gr)), (2, .int (nI n)), (5, .int (nI k))]) hx hb dX8_takenOf_45 hl (by decide) rfl (fun ls hl => ?_)
            refine lv_iinc (v := nI (k + 1)) (lv' := [(5, .int (nI (k + 1))), (4, .int (nI (k + n))), (3, .int (nI (t ||| (2 ^ k)))), (0, .ref mo), (1, .int (nI gr)), (2, .int (nI n))]) hx hb dX8_takenOf_47 hl (k := 5) rfl ((nI_succ _).symm) (by decide) rfl (fun ls hl => ?_)
            refine lv_goto (tgt := 8) hx hb dX8_takenOf_50 (by decide) ?_
            have X9 := tkF_t (gr := gr) (n := n) (k := k) (bit1_1 (by omega)) (by omega)
            exact ih_8 (k + 1) _ _ (by omega) (by omega) (by omega) (by rw [X9, e1]) (by rw [X9])  ls (lv_sub hl [3, 4, 5, 2, 1, 0] rfl)
  exact loop_8 (nl + 1) 0 0 0 (by omega) (by omega) (by omega) rfl rfl  ls (lv_sub hl [3, 4, 5, 2, 1, 0] rfl)

theorem yd_X8_isSame : yX8_isSame.cls = RX8 ∧ yX8_isSame.cls ≠ "java/lang/invoke/MethodHandle" ∧ yX8_isSame.cls ≠ "java/lang/invoke/VarHandle" ∧ (parseMethodDescriptor yX8_isSame.desc).map (fun d => d.parameters.length) = some 4 := by decide +kernel
set_option maxHeartbeats 4000000 in
set_option maxRecDepth 100000 in
theorem k_X8_isSame (l : Launch) (D : va_G) (cI cZ : ClassId) (mo ps mpa nl nv msz mcd mbe mba : Nat) (ol : Int32) (op os svn ms1 ms2 ms3 ms4 mfa mim mik : Nat) (g : Nat → Nat) (n v tk line pl : Nat) (hnl : nl ≤ 20) (hg : ∀ j, g j ≤ 126) (htk : tk < 2 ^ 20) (hte : ∀ t, tk.testBit t = true → t + n ≤ nl) (hv : v < 4) (hx3 : ∃ t, t < 20 ∧ tk.testBit t = true) (hln : line < n) (hp : pl < 8) : Met l yX8_isSame wsX8_isSame ({ frames := 1, cells := 0, slots := 0, locals := 23 }) (mPc [.ref mo, .int (nI v), .int (nI tk), .int (nI line), .int (nI pl)] D cI cZ [(mo, .inr (8, [.int (nI ps), .ref mpa, .int (nI nl), .int (nI nv), .ref msz, .ref mcd, .ref mbe, .ref mba, .int ol, .int (nI op), .int (nI os), .int (nI svn), .ref ms1, .ref ms2, .ref ms3, .ref ms4, .ref mfa, .ref mim, .ref mik])), (mcd, aN cI 640 g)]) (QcRead (bI (allB nl (sqP g v tk line pl)))) 0 0 (fun _ => False) := by
  refine Met.ofW (cc := cX8_isSame) (maxL := 8) (ret := (some .boolean)) (by decide) rfl ?_
  intro p e s m args below meth c s₁ BB hml hv
  obtain ⟨hargs, hP, hD0, hK⟩ := hv
  have hx := BB.exec
  have hb := BB.bytes
  have hr := BB.returns
  have hts := atoms_spec (ws := wsX8_isSame) BB.pre
  have hown : s.vm.findClass RX8 = some m.cls := findClass_of_methodNamed BB.named
  have hlocks := BB.notSynchronized
  have hcf : CallFix p m c cX8_isSame 8 s args wsX8_isSame RX8 := ⟨hx, hb, hml, hown, hts⟩
  have hD := hD0
  rw [hargs, lg_entry_eq, ← hargs]
  have hl := lv_entry ([.ref mo, .int (nI v), .int (nI tk), .int (nI line), .int (nI pl)]) (n := 8) (Nat.le_of_ble_eq_true rfl)
  generalize (lg_sl ([.ref mo, .int (nI v), .int (nI tk), .int (nI line), .int (nI pl)]) ++ List.replicate (8 - (lg_sl ([.ref mo, .int (nI v), .int (nI tk), .int (nI line), .int (nI pl)])).length) Slot.unset).toArray = ls at hl ⊢
  have hl : lv_has ls 8 [(0, .ref mo), (1, .int (nI v)), (2, .int (nI tk)), (3, .int (nI line)), (4, .int (nI pl))] := hl
  obtain ⟨Q, hQ⟩ : ∃ Q, Q = MQ below (QcRead (bI (allB nl (sqP g v tk line pl)))) args s 0 0 (fun _ => False) := ⟨_, rfl⟩
  rw [← hQ]
  have i_X8 : ∀ w ∈ u_ws RX8 TX8 19, w ∈ wsX8_isSame := by decide +kernel
  have f_58 := hts (.fieldLink RX8 58 "SameAgainModel" "lines" "I") (by decide +kernel)
  have hls := ls_lt hx3
  have hle := hte _ hls.2
  refine lv_aload_n hx hb dX8_isSame_0 rfl (lv_at hl 0 rfl) ?_
  refine lv_iload_n hx hb dX8_isSame_1 rfl (lv_at hl 1 rfl) ?_
  refine lv_iload_n hx hb dX8_isSame_2 rfl (lv_at hl 2 rfl) ?_
  refine m_rdS (As := [.int (nI tk)]) (rest := [.int (nI v), .ref mo]) (wc := []) hcf (k_X8_least (l := l) (D := D) (cI := cI) (cZ := cZ) (x := tk) (hx2 := htk) (hx3 := hx3)) (va_cwS 1 hts gX8_isSame_X8_least rfl rfl rfl yd_X8_least.2 ⟨Nat.le_of_ble_eq_true rfl, Nat.le_of_ble_eq_true rfl⟩) (m_preS hK hP hD [] (by decide) rfl) rfl hl.1 rfl (Nat.le_of_ble_eq_true rfl) dX8_isSame_3 ⟨Nat.zero_le _, Nat.zero_le _⟩ ?_
  refine lv_iload_n hx hb dX8_isSame_6 rfl (lv_at hl 3 rfl) ?_
  refine m_add hx hb dX8_isSame_7 ?_
  refine lv_iload hx hb dX8_isSame_8 (lv_at hl 4 rfl) ?_
  refine m_rdV (As := [.int (nI v), .int (nI ((lsN tk) + line)), .int (nI pl)]) (rest := []) (wc := [(mo, .inr (8, [.int (nI ps), .ref mpa, .int (nI nl), .int (nI nv), .ref msz, .ref mcd, .ref mbe, .ref mba, .int ol, .int (nI op), .int (nI os), .int (nI svn), .ref ms1, .ref ms2, .ref ms3, .ref ms4, .ref mfa, .ref mim, .ref mik])), (mcd, aN cI 640 g)]) hcf (k_X8_signAt (l := l) (D := D) (cI := cI) (cZ := cZ) (v := v) (ln := (lsN tk) + line) (k := pl) (mo := mo) (ps := ps) (mpa := mpa) (nl := nl) (nv := nv) (msz := msz) (mcd := mcd) (mbe := mbe) (mba := mba) (ol := ol) (op := op) (os := os) (svn := svn) (ms1 := ms1) (ms2 := ms2) (ms3 := ms3) (ms4 := ms4) (mfa := mfa) (mim := mim) (mik := mik) (g := g) (hv := hv) (hln := by omega) (hk := hp)) (cwV 3 hts gX8_isSame_X8_signAt rfl rfl rfl yd_X8_signAt ⟨Nat.le_of_ble_eq_true rfl, Nat.le_of_ble_eq_true rfl⟩) (m_preV hK hP hD [0, 1] (by decide) rfl rfl rfl) rfl hl.1 rfl (Nat.le_of_ble_eq_true rfl) dX8_isSame_10 ⟨Nat.zero_le _, Nat.zero_le _⟩ ?_
  refine m_top (y := nI (rgN g v (lsN tk + line) pl)) rfl ?_
  refine lv_istore (lv' := [(5, .int (nI (rgN g v (lsN tk + line) pl))), (0, .ref mo), (1, .int (nI v)), (2, .int (nI tk)), (3, .int (nI line)), (4, .int (nI pl))]) hx hb dX8_isSame_13 hl (by decide) rfl (fun ls hl => ?_)
  refine lv_iconst (v := nI 1) hx hb dX8_isSame_15 (by decide) ?_
  refine lv_istore (lv' := [(6, .int (nI 1)), (5, .int (nI (rgN g v (lsN tk + line) pl))), (0, .ref mo), (1, .int (nI v)), (2, .int (nI tk)), (3, .int (nI line)), (4, .int (nI pl))]) hx hb dX8_isSame_16 hl (by decide) rfl (fun ls hl => ?_)
  refine lv_iconst (v := nI 0) hx hb dX8_isSame_18 (by decide) ?_
  refine lv_istore (lv' := [(7, .int (nI 0)), (6, .int (nI 1)), (5, .int (nI (rgN g v (lsN tk + line) pl))), (0, .ref mo), (1, .int (nI v)), (2, .int (nI tk)), (3, .int (nI line)), (4, .int (nI pl))]) hx hb dX8_isSame_19 hl (by decide) rfl (fun ls hl => ?_)
  have loop_21 : ∀ (fu : Nat) (k : Nat) (w : Bool) (hfu : nl - k < fu)  (hk : k ≤ nl) (hw : w = allB k (sqP g v tk line pl)) (ls : Array Slot) (hl : lv_has ls 8 [(0, .ref mo), (1, .int (nI v)), (2, .int (nI tk)), (3, .int (nI line)), (4, .int (nI pl)), (5, .int (nI (rgN g v (lsN tk + line) pl))), (6, .int (bI w)), (7, .int (nI k))]), W p l e (headSpec wsX8_isSame { frames := 1, cells := 0, slots := 0, locals := 23 }).room s m args below meth c s.heap [] 0 0 Q (F0 m 21 ls []) := by
    intro fu
    induction fu with
    | zero => intro k w hfu; exact absurd hfu (Nat.not_lt_zero _)
    | succ fu ih_21 =>
      intro k w hfu hk hw ls hl
      refine lv_iload hx hb dX8_isSame_21 (lv_at hl 7 rfl) ?_
      refine lv_aload_n hx hb dX8_isSame_23 rfl (lv_at hl 0 rfl) ?_
      refine va_get (D := D) (ci := 8) (v := .int (nI nl)) (C := RX8) (T := TX8) (N := 19) hx hb hts i_X8 hown hK.1 hP 0 rfl rfl 2 (by decide) f_58 (fun _ h9 => h9) rfl dX8_isSame_24 ?_
      refine m_cmp_ge (tgt := 73) hx hb dX8_isSame_27 (by decide) (by omega) (by omega) (fun c_27 => ?_) (fun c_27 => ?_)
      · refine lv_iload hx hb dX8_isSame_73 (lv_at hl 6 rfl) ?_
        rw [hQ]
        have e9 : k = nl := by omega
        exact m_zrd hx hb hr hlocks (by rw [hw, e9]) dX8_isSame_75
      · refine lv_iload hx hb dX8_isSame_30 (lv_at hl 6 rfl) ?_
        refine m_ifB_eq (tgt := 64) hx hb dX8_isSame_32 (by decide) (fun c_32 => ?_) (fun c_32 => ?_)
        · refine lv_iconst (v := nI 0) hx hb dX8_isSame_64 (by decide) ?_
          refine lv_istore (lv' := [(6, .int (nI 0)), (0, .ref mo), (1, .int (nI v)), (2, .int (nI tk)), (3, .int (nI line)), (4, .int (nI pl)), (5, .int (nI (rgN g v (lsN tk + line) pl))), (7, .int (nI k))]) hx hb dX8_isSame_65 hl (by decide) rfl (fun ls hl => ?_)
          refine lv_iinc (v := nI (k + 1)) (lv' := [(7, .int (nI (k + 1))), (6, .int (nI 0)), (0, .ref mo), (1, .int (nI v)), (2, .int (nI tk)), (3, .int (nI line)), (4, .int (nI pl)), (5, .int (nI (rgN g v (lsN tk + line) pl)))]) hx hb dX8_isSame_67 hl (k := 7) rfl ((nI_succ _).symm) (by decide) rfl (fun ls hl => ?_)
          refine lv_goto (tgt := 21) hx hb dX8_isSame_70 (by decide) ?_
          exact ih_21 (k + 1) false (by omega) (by omega) (by rw [allB_s, ← hw]; first | (rw [c_32]; rfl) | (rw [sqP_y (bit1_1 c_41), decide_eq_false c_57, Bool.and_false]))  ls (lv_sub hl [2, 3, 4, 5, 6, 7, 1, 0] rfl)
        · refine lv_iload_n hx hb dX8_isSame_35 rfl (lv_at hl 2 rfl) ?_
          refine lv_iload hx hb dX8_isSame_36 (lv_at hl 7 rfl) ?_
          refine m_shr hx hb (by omega) (by omega) dX8_isSame_38 ?_
          refine lv_iconst (v := nI 1) hx hb dX8_isSame_39 (by decide) ?_
          refine m_and hx hb dX8_isSame_40 ?_
          refine m_if_eq (tgt := 60) hx hb dX8_isSame_41 (by decide) (Nat.lt_of_le_of_lt (bit1_le _ _) (by decide)) (fun c_41 => ?_) (fun c_41 => ?_)
          · refine lv_iconst (v := nI 1) hx hb dX8_isSame_60 (by decide) ?_
            refine lv_goto (tgt := 65) hx hb dX8_isSame_61 (by decide) ?_
            refine lv_istore (lv' := [(6, .int (nI 1)), (0, .ref mo), (1, .int (nI v)), (2, .int (nI tk)), (3, .int (nI line)), (4, .int (nI pl)), (5, .int (nI (rgN g v (lsN tk + line) pl))), (7, .int (nI k))]) hx hb dX8_isSame_65 hl (by decide) rfl (fun ls hl => ?_)
            refine lv_iinc (v := nI (k + 1)) (lv' := [(7, .int (nI (k + 1))), (6, .int (nI 1)), (0, .ref mo), (1, .int (nI v)), (2, .int (nI tk)), (3, .int (nI line)), (4, .int (nI pl)), (5, .int (nI (rgN g v (lsN tk + line) pl)))]) hx hb dX8_isSame_67 hl (k := 7) rfl ((nI_succ _).symm) (by decide) rfl (fun ls hl => ?_)
            refine lv_goto (tgt := 21) hx hb dX8_isSame_70 (by decide) ?_
            exact ih_21 (k + 1) true (by omega) (by omega) (by rw [allB_s, ← hw, c_32]; first | (rw [sqP_n (bit1_0 c_41)]; rfl) | (rw [sqP_y (bit1_1 c_41), decide_eq_true c_57]; rfl) | rfl)  ls (lv_sub hl [2, 3, 4, 5, 6, 7, 1, 0] rfl)
          · have hk9 := hte k (bit1_1 c_41)
            refine lv_aload_n hx hb dX8_isSame_44 rfl (lv_at hl 0 rfl) ?_
            refine lv_iload_n hx hb dX8_isSame_45 rfl (lv_at hl 1 rfl) ?_
            refine lv_iload hx hb dX8_isSame_46 (lv_at hl 7 rfl) ?_
            refine lv_iload_n hx hb dX8_isSame_48 rfl (lv_at hl 3 rfl) ?_
            refine m_add hx hb dX8_isSame_49 ?_
            refine lv_iload hx hb dX8_isSame_50 (lv_at hl 4 rfl) ?_
            refine m_rdV (As := [.int (nI v), .int (nI (k + line)), .int (nI pl)]) (rest := []) (wc := [(mo, .inr (8, [.int (nI ps), .ref mpa, .int (nI nl), .int (nI nv), .ref msz, .ref mcd, .ref mbe, .ref mba, .int ol, .int (nI op), .int (nI os), .int (nI svn), .ref ms1, .ref ms2, .ref ms3, .ref ms4, .ref mfa, .ref mim, .ref mik])), (mcd, aN cI 640 g)]) hcf (k_X8_signAt (l := l) (D := D) (cI := cI) (cZ := cZ) (v := v) (ln := k + line) (k := pl) (mo := mo) (ps := ps) (mpa := mpa) (nl := nl) (nv := nv) (msz := msz) (mcd := mcd) (mbe := mbe) (mba := mba) (ol := ol) (op := op) (os := os) (svn := svn) (ms1 := ms1) (ms2 := ms2) (ms3 := ms3) (ms4 := ms4) (mfa := mfa) (mim := mim) (mik := mik) (g := g) (hv := hv) (hln := by omega) (hk := hp)) (cwV 3 hts gX8_isSame_X8_signAt rfl rfl rfl yd_X8_signAt ⟨Nat.le_of_ble_eq_true rfl, Nat.le_of_ble_eq_true rfl⟩) (m_preV hK hP hD [0, 1] (by decide) rfl rfl rfl) rfl hl.1 rfl (Nat.le_of_ble_eq_true rfl) dX8_isSame_52 ⟨Nat.zero_le _, Nat.zero_le _⟩ ?_
            refine m_top (y := nI (rgN g v (k + line) pl)) rfl ?_
            refine lv_iload hx hb dX8_isSame_55 (lv_at hl 5 rfl) ?_
            refine m_cmp_ne (tgt := 64) hx hb dX8_isSame_57 (by decide) (Nat.lt_of_le_of_lt (hg _) (by decide)) (Nat.lt_of_le_of_lt (hg _) (by decide)) (fun c_57 => ?_) (fun c_57 => ?_)
            · refine lv_iconst (v := nI 0) hx hb dX8_isSame_64 (by decide) ?_
              refine lv_istore (lv' := [(6, .int (nI 0)), (0, .ref mo), (1, .int (nI v)), (2, .int (nI tk)), (3, .int (nI line)), (4, .int (nI pl)), (5, .int (nI (rgN g v (lsN tk + line) pl))), (7, .int (nI k))]) hx hb dX8_isSame_65 hl (by decide) rfl (fun ls hl => ?_)
              refine lv_iinc (v := nI (k + 1)) (lv' := [(7, .int (nI (k + 1))), (6, .int (nI 0)), (0, .ref mo), (1, .int (nI v)), (2, .int (nI tk)), (3, .int (nI line)), (4, .int (nI pl)), (5, .int (nI (rgN g v (lsN tk + line) pl)))]) hx hb dX8_isSame_67 hl (k := 7) rfl ((nI_succ _).symm) (by decide) rfl (fun ls hl => ?_)
              refine lv_goto (tgt := 21) hx hb dX8_isSame_70 (by decide) ?_
              exact ih_21 (k + 1) false (by omega) (by omega) (by rw [allB_s, ← hw]; first | (rw [c_32]; rfl) | (rw [sqP_y (bit1_1 c_41), decide_eq_false c_57, Bool.and_false]))  ls (lv_sub hl [2, 3, 4, 5, 6, 7, 1, 0] rfl)
            · refine lv_iconst (v := nI 1) hx hb dX8_isSame_60 (by decide) ?_
              refine lv_goto (tgt := 65) hx hb dX8_isSame_61 (by decide) ?_
              refine lv_istore (lv' := [(6, .int (nI 1)), (0, .ref mo), (1, .int (nI v)), (2, .int (nI tk)), (3, .int (nI line)), (4, .int (nI pl)), (5, .int (nI (rgN g v (lsN tk + line) pl))), (7, .int (nI k))]) hx hb dX8_isSame_65 hl (by decide) rfl (fun ls hl => ?_)
              refine lv_iinc (v := nI (k + 1)) (lv' := [(7, .int (nI (k + 1))), (6, .int (nI 1)), (0, .ref mo), (1, .int (nI v)), (2, .int (nI tk)), (3, .int (nI line)), (4, .int (nI pl)), (5, .int (nI (rgN g v (lsN tk + line) pl)))]) hx hb dX8_isSame_67 hl (k := 7) rfl ((nI_succ _).symm) (by decide) rfl (fun ls hl => ?_)
              refine lv_goto (tgt := 21) hx hb dX8_isSame_70 (by decide) ?_
              exact ih_21 (k + 1) true (by omega) (by omega) (by rw [allB_s, ← hw, c_32]; first | (rw [sqP_n (bit1_0 c_41)]; rfl) | (rw [sqP_y (bit1_1 c_41), decide_eq_true c_57]; rfl) | rfl)  ls (lv_sub hl [2, 3, 4, 5, 6, 7, 1, 0] rfl)
  exact loop_21 (nl + 1) 0 true (by omega) (by omega) allB_0.symm  ls (lv_sub hl [3, 4, 5, 6, 7, 2, 1, 0] rfl)

theorem yd_X8_areOne : yX8_areOne.cls = RX8 ∧ yX8_areOne.cls ≠ "java/lang/invoke/MethodHandle" ∧ yX8_areOne.cls ≠ "java/lang/invoke/VarHandle" ∧ (parseMethodDescriptor yX8_areOne.desc).map (fun d => d.parameters.length) = some 6 := by decide +kernel
set_option maxHeartbeats 4000000 in
set_option maxRecDepth 100000 in
theorem k_X8_areOne (l : Launch) (D : va_G) (cI cZ : ClassId) (mo ps mpa nl nv msz mcd mbe mba : Nat) (ol : Int32) (op os svn ms1 ms2 ms3 ms4 mfa mim mik : Nat) (g : Nat → Nat) (n v tk line pl to ax : Nat) (hnl : nl ≤ 20) (hg : ∀ j, g j ≤ 126) (htk : tk < 2 ^ 20) (hte : ∀ t, tk.testBit t = true → t + n ≤ nl) (hv : v < 4) (hln : line < n) (hp : pl < 8) (hl2 : to < n) (hp2 : ax < 8) : Met l yX8_areOne wsX8_areOne ({ frames := 1, cells := 0, slots := 0, locals := 23 }) (mPc [.ref mo, .int (nI v), .int (nI tk), .int (nI line), .int (nI pl), .int (nI to), .int (nI ax)] D cI cZ [(mo, .inr (8, [.int (nI ps), .ref mpa, .int (nI nl), .int (nI nv), .ref msz, .ref mcd, .ref mbe, .ref mba, .int ol, .int (nI op), .int (nI os), .int (nI svn), .ref ms1, .ref ms2, .ref ms3, .ref ms4, .ref mfa, .ref mim, .ref mik])), (mcd, aN cI 640 g)]) (QcRead (bI (allB nl (oqP g v tk line pl to ax)))) 0 0 (fun _ => False) := by
  refine Met.ofW (cc := cX8_areOne) (maxL := 9) (ret := (some .boolean)) (by decide) rfl ?_
  intro p e s m args below meth c s₁ BB hml hv
  obtain ⟨hargs, hP, hD0, hK⟩ := hv
  have hx := BB.exec
  have hb := BB.bytes
  have hr := BB.returns
  have hts := atoms_spec (ws := wsX8_areOne) BB.pre
  have hown : s.vm.findClass RX8 = some m.cls := findClass_of_methodNamed BB.named
  have hlocks := BB.notSynchronized
  have hcf : CallFix p m c cX8_areOne 9 s args wsX8_areOne RX8 := ⟨hx, hb, hml, hown, hts⟩
  have hD := hD0
  rw [hargs, lg_entry_eq, ← hargs]
  have hl := lv_entry ([.ref mo, .int (nI v), .int (nI tk), .int (nI line), .int (nI pl), .int (nI to), .int (nI ax)]) (n := 9) (Nat.le_of_ble_eq_true rfl)
  generalize (lg_sl ([.ref mo, .int (nI v), .int (nI tk), .int (nI line), .int (nI pl), .int (nI to), .int (nI ax)]) ++ List.replicate (9 - (lg_sl ([.ref mo, .int (nI v), .int (nI tk), .int (nI line), .int (nI pl), .int (nI to), .int (nI ax)])).length) Slot.unset).toArray = ls at hl ⊢
  have hl : lv_has ls 9 [(0, .ref mo), (1, .int (nI v)), (2, .int (nI tk)), (3, .int (nI line)), (4, .int (nI pl)), (5, .int (nI to)), (6, .int (nI ax))] := hl
  obtain ⟨Q, hQ⟩ : ∃ Q, Q = MQ below (QcRead (bI (allB nl (oqP g v tk line pl to ax)))) args s 0 0 (fun _ => False) := ⟨_, rfl⟩
  rw [← hQ]
  have i_X8 : ∀ w ∈ u_ws RX8 TX8 19, w ∈ wsX8_areOne := by decide +kernel
  have f_58 := hts (.fieldLink RX8 58 "SameAgainModel" "lines" "I") (by decide +kernel)
  refine lv_iconst (v := nI 1) hx hb dX8_areOne_0 (by decide) ?_
  refine lv_istore (lv' := [(7, .int (nI 1)), (0, .ref mo), (1, .int (nI v)), (2, .int (nI tk)), (3, .int (nI line)), (4, .int (nI pl)), (5, .int (nI to)), (6, .int (nI ax))]) hx hb dX8_areOne_1 hl (by decide) rfl (fun ls hl => ?_)
  refine lv_iconst (v := nI 0) hx hb dX8_areOne_3 (by decide) ?_
  refine lv_istore (lv' := [(8, .int (nI 0)), (7, .int (nI 1)), (0, .ref mo), (1, .int (nI v)), (2, .int (nI tk)), (3, .int (nI line)), (4, .int (nI pl)), (5, .int (nI to)), (6, .int (nI ax))]) hx hb dX8_areOne_4 hl (by decide) rfl (fun ls hl => ?_)
  have loop_6 : ∀ (fu : Nat) (k : Nat) (w : Bool) (hfu : nl - k < fu)  (hk : k ≤ nl) (hw : w = allB k (oqP g v tk line pl to ax)) (ls : Array Slot) (hl : lv_has ls 9 [(0, .ref mo), (1, .int (nI v)), (2, .int (nI tk)), (3, .int (nI line)), (4, .int (nI pl)), (5, .int (nI to)), (6, .int (nI ax)), (7, .int (bI w)), (8, .int (nI k))]), W p l e (headSpec wsX8_areOne { frames := 1, cells := 0, slots := 0, locals := 23 }).room s m args below meth c s.heap [] 0 0 Q (F0 m 6 ls []) := by
    intro fu
    induction fu with
    | zero => intro k w hfu; exact absurd hfu (Nat.not_lt_zero _)
    | succ fu ih_6 =>
      intro k w hfu hk hw ls hl
      refine lv_iload hx hb dX8_areOne_6 (lv_at hl 8 rfl) ?_
      refine lv_aload_n hx hb dX8_areOne_8 rfl (lv_at hl 0 rfl) ?_
      refine va_get (D := D) (ci := 8) (v := .int (nI nl)) (C := RX8) (T := TX8) (N := 19) hx hb hts i_X8 hown hK.1 hP 0 rfl rfl 2 (by decide) f_58 (fun _ h9 => h9) rfl dX8_areOne_9 ?_
      refine m_cmp_ge (tgt := 68) hx hb dX8_areOne_12 (by decide) (by omega) (by omega) (fun c_12 => ?_) (fun c_12 => ?_)
      · refine lv_iload hx hb dX8_areOne_68 (lv_at hl 7 rfl) ?_
        rw [hQ]
        have e9 : k = nl := by omega
        exact m_zrd hx hb hr hlocks (by rw [hw, e9]) dX8_areOne_70
      · refine lv_iload hx hb dX8_areOne_15 (lv_at hl 7 rfl) ?_
        refine m_ifB_eq (tgt := 59) hx hb dX8_areOne_17 (by decide) (fun c_17 => ?_) (fun c_17 => ?_)
        · refine lv_iconst (v := nI 0) hx hb dX8_areOne_59 (by decide) ?_
          refine lv_istore (lv' := [(7, .int (nI 0)), (0, .ref mo), (1, .int (nI v)), (2, .int (nI tk)), (3, .int (nI line)), (4, .int (nI pl)), (5, .int (nI to)), (6, .int (nI ax)), (8, .int (nI k))]) hx hb dX8_areOne_60 hl (by decide) rfl (fun ls hl => ?_)
          refine lv_iinc (v := nI (k + 1)) (lv' := [(8, .int (nI (k + 1))), (7, .int (nI 0)), (0, .ref mo), (1, .int (nI v)), (2, .int (nI tk)), (3, .int (nI line)), (4, .int (nI pl)), (5, .int (nI to)), (6, .int (nI ax))]) hx hb dX8_areOne_62 hl (k := 8) rfl ((nI_succ _).symm) (by decide) rfl (fun ls hl => ?_)
          refine lv_goto (tgt := 6) hx hb dX8_areOne_65 (by decide) ?_
          exact ih_6 (k + 1) false (by omega) (by omega) (by rw [allB_s, ← hw]; first | (rw [c_17]; rfl) | (rw [oqP_y (bit1_1 c_26), decide_eq_false c_52, Bool.and_false]))  ls (lv_sub hl [2, 3, 4, 5, 6, 7, 8, 1, 0] rfl)
        · refine lv_iload_n hx hb dX8_areOne_20 rfl (lv_at hl 2 rfl) ?_
          refine lv_iload hx hb dX8_areOne_21 (lv_at hl 8 rfl) ?_
          refine m_shr hx hb (by omega) (by omega) dX8_areOne_23 ?_
          refine lv_iconst (v := nI 1) hx hb dX8_areOne_24 (by decide) ?_
          refine m_and hx hb dX8_areOne_25 ?_
          refine m_if_eq (tgt := 55) hx hb dX8_areOne_26 (by decide) (Nat.lt_of_le_of_lt (bit1_le _ _) (by decide)) (fun c_26 => ?_) (fun c_26 => ?_)
          · refine lv_iconst (v := nI 1) hx hb dX8_areOne_55 (by decide) ?_
            refine lv_goto (tgt := 60) hx hb dX8_areOne_56 (by decide) ?_
            refine lv_istore (lv' := [(7, .int (nI 1)), (0, .ref mo), (1, .int (nI v)), (2, .int (nI tk)), (3, .int (nI line)), (4, .int (nI pl)), (5, .int (nI to)), (6, .int (nI ax)), (8, .int (nI k))]) hx hb dX8_areOne_60 hl (by decide) rfl (fun ls hl => ?_)
            refine lv_iinc (v := nI (k + 1)) (lv' := [(8, .int (nI (k + 1))), (7, .int (nI 1)), (0, .ref mo), (1, .int (nI v)), (2, .int (nI tk)), (3, .int (nI line)), (4, .int (nI pl)), (5, .int (nI to)), (6, .int (nI ax))]) hx hb dX8_areOne_62 hl (k := 8) rfl ((nI_succ _).symm) (by decide) rfl (fun ls hl => ?_)
            refine lv_goto (tgt := 6) hx hb dX8_areOne_65 (by decide) ?_
            exact ih_6 (k + 1) true (by omega) (by omega) (by rw [allB_s, ← hw, c_17]; first | (rw [oqP_n (bit1_0 c_26)]; rfl) | (rw [oqP_y (bit1_1 c_26), decide_eq_true c_52]; rfl) | rfl)  ls (lv_sub hl [2, 3, 4, 5, 6, 7, 8, 1, 0] rfl)
          · have hk9 := hte k (bit1_1 c_26)
            refine lv_aload_n hx hb dX8_areOne_29 rfl (lv_at hl 0 rfl) ?_
            refine lv_iload_n hx hb dX8_areOne_30 rfl (lv_at hl 1 rfl) ?_
            refine lv_iload hx hb dX8_areOne_31 (lv_at hl 8 rfl) ?_
            refine lv_iload_n hx hb dX8_areOne_33 rfl (lv_at hl 3 rfl) ?_
            refine m_add hx hb dX8_areOne_34 ?_
            refine lv_iload hx hb dX8_areOne_35 (lv_at hl 4 rfl) ?_
            refine m_rdV (As := [.int (nI v), .int (nI (k + line)), .int (nI pl)]) (rest := []) (wc := [(mo, .inr (8, [.int (nI ps), .ref mpa, .int (nI nl), .int (nI nv), .ref msz, .ref mcd, .ref mbe, .ref mba, .int ol, .int (nI op), .int (nI os), .int (nI svn), .ref ms1, .ref ms2, .ref ms3, .ref ms4, .ref mfa, .ref mim, .ref mik])), (mcd, aN cI 640 g)]) hcf (k_X8_signAt (l := l) (D := D) (cI := cI) (cZ := cZ) (v := v) (ln := k + line) (k := pl) (mo := mo) (ps := ps) (mpa := mpa) (nl := nl) (nv := nv) (msz := msz) (mcd := mcd) (mbe := mbe) (mba := mba) (ol := ol) (op := op) (os := os) (svn := svn) (ms1 := ms1) (ms2 := ms2) (ms3 := ms3) (ms4 := ms4) (mfa := mfa) (mim := mim) (mik := mik) (g := g) (hv := hv) (hln := by omega) (hk := hp)) (cwV 3 hts gX8_areOne_X8_signAt rfl rfl rfl yd_X8_signAt ⟨Nat.le_of_ble_eq_true rfl, Nat.le_of_ble_eq_true rfl⟩) (m_preV hK hP hD [0, 1] (by decide) rfl rfl rfl) rfl hl.1 rfl (Nat.le_of_ble_eq_true rfl) dX8_areOne_37 ⟨Nat.zero_le _, Nat.zero_le _⟩ ?_
            refine m_top (y := nI (rgN g v (k + line) pl)) rfl ?_
            refine lv_aload_n hx hb dX8_areOne_40 rfl (lv_at hl 0 rfl) ?_
            refine lv_iload_n hx hb dX8_areOne_41 rfl (lv_at hl 1 rfl) ?_
            refine lv_iload hx hb dX8_areOne_42 (lv_at hl 8 rfl) ?_
            refine lv_iload hx hb dX8_areOne_44 (lv_at hl 5 rfl) ?_
            refine m_add hx hb dX8_areOne_46 ?_
            refine lv_iload hx hb dX8_areOne_47 (lv_at hl 6 rfl) ?_
            refine m_rdV (As := [.int (nI v), .int (nI (k + to)), .int (nI ax)]) (rest := [.int (nI (rgN g v (k + line) pl))]) (wc := [(mo, .inr (8, [.int (nI ps), .ref mpa, .int (nI nl), .int (nI nv), .ref msz, .ref mcd, .ref mbe, .ref mba, .int ol, .int (nI op), .int (nI os), .int (nI svn), .ref ms1, .ref ms2, .ref ms3, .ref ms4, .ref mfa, .ref mim, .ref mik])), (mcd, aN cI 640 g)]) hcf (k_X8_signAt (l := l) (D := D) (cI := cI) (cZ := cZ) (v := v) (ln := k + to) (k := ax) (mo := mo) (ps := ps) (mpa := mpa) (nl := nl) (nv := nv) (msz := msz) (mcd := mcd) (mbe := mbe) (mba := mba) (ol := ol) (op := op) (os := os) (svn := svn) (ms1 := ms1) (ms2 := ms2) (ms3 := ms3) (ms4 := ms4) (mfa := mfa) (mim := mim) (mik := mik) (g := g) (hv := hv) (hln := by omega) (hk := hp2)) (cwV 3 hts gX8_areOne_X8_signAt rfl rfl rfl yd_X8_signAt ⟨Nat.le_of_ble_eq_true rfl, Nat.le_of_ble_eq_true rfl⟩) (m_preV hK hP hD [0, 1] (by decide) rfl rfl rfl) rfl hl.1 rfl (Nat.le_of_ble_eq_true rfl) dX8_areOne_49 ⟨Nat.zero_le _, Nat.zero_le _⟩ ?_
            refine m_top (y := nI (rgN g v (k + to) ax)) rfl ?_
            refine m_cmp_ne (tgt := 59) hx hb dX8_areOne_52 (by decide) (Nat.lt_of_le_of_lt (hg _) (by decide)) (Nat.lt_of_le_of_lt (hg _) (by decide)) (fun c_52 => ?_) (fun c_52 => ?_)
            · refine lv_iconst (v := nI 0) hx hb dX8_areOne_59 (by decide) ?_
              refine lv_istore (lv' := [(7, .int (nI 0)), (0, .ref mo), (1, .int (nI v)), (2, .int (nI tk)), (3, .int (nI line)), (4, .int (nI pl)), (5, .int (nI to)), (6, .int (nI ax)), (8, .int (nI k))]) hx hb dX8_areOne_60 hl (by decide) rfl (fun ls hl => ?_)
              refine lv_iinc (v := nI (k + 1)) (lv' := [(8, .int (nI (k + 1))), (7, .int (nI 0)), (0, .ref mo), (1, .int (nI v)), (2, .int (nI tk)), (3, .int (nI line)), (4, .int (nI pl)), (5, .int (nI to)), (6, .int (nI ax))]) hx hb dX8_areOne_62 hl (k := 8) rfl ((nI_succ _).symm) (by decide) rfl (fun ls hl => ?_)
              refine lv_goto (tgt := 6) hx hb dX8_areOne_65 (by decide) ?_
              exact ih_6 (k + 1) false (by omega) (by omega) (by rw [allB_s, ← hw]; first | (rw [c_17]; rfl) | (rw [oqP_y (bit1_1 c_26), decide_eq_false c_52, Bool.and_false]))  ls (lv_sub hl [2, 3, 4, 5, 6, 7, 8, 1, 0] rfl)
            · refine lv_iconst (v := nI 1) hx hb dX8_areOne_55 (by decide) ?_
              refine lv_goto (tgt := 60) hx hb dX8_areOne_56 (by decide) ?_
              refine lv_istore (lv' := [(7, .int (nI 1)), (0, .ref mo), (1, .int (nI v)), (2, .int (nI tk)), (3, .int (nI line)), (4, .int (nI pl)), (5, .int (nI to)), (6, .int (nI ax)), (8, .int (nI k))]) hx hb dX8_areOne_60 hl (by decide) rfl (fun ls hl => ?_)
              refine lv_iinc (v := nI (k + 1)) (lv' := [(8, .int (nI (k + 1))), (7, .int (nI 1)), (0, .ref mo), (1, .int (nI v)), (2, .int (nI tk)), (3, .int (nI line)), (4, .int (nI pl)), (5, .int (nI to)), (6, .int (nI ax))]) hx hb dX8_areOne_62 hl (k := 8) rfl ((nI_succ _).symm) (by decide) rfl (fun ls hl => ?_)
              refine lv_goto (tgt := 6) hx hb dX8_areOne_65 (by decide) ?_
              exact ih_6 (k + 1) true (by omega) (by omega) (by rw [allB_s, ← hw, c_17]; first | (rw [oqP_n (bit1_0 c_26)]; rfl) | (rw [oqP_y (bit1_1 c_26), decide_eq_true c_52]; rfl) | rfl)  ls (lv_sub hl [2, 3, 4, 5, 6, 7, 8, 1, 0] rfl)
  exact loop_6 (nl + 1) 0 true (by omega) (by omega) allB_0.symm  ls (lv_sub hl [2, 3, 4, 5, 6, 7, 8, 1, 0] rfl)

theorem yd_X8_isTold : yX8_isTold.cls = RX8 ∧ yX8_isTold.cls ≠ "java/lang/invoke/MethodHandle" ∧ yX8_isTold.cls ≠ "java/lang/invoke/VarHandle" ∧ (parseMethodDescriptor yX8_isTold.desc).map (fun d => d.parameters.length) = some 4 := by decide +kernel
set_option maxHeartbeats 4000000 in
set_option maxRecDepth 100000 in
theorem k_X8_isTold (l : Launch) (D : va_G) (cI cZ : ClassId) (mo ps mpa nl nv msz mcd mbe mba : Nat) (ol : Int32) (op os svn ms1 ms2 ms3 ms4 mfa mim mik : Nat) (g : Nat → Nat) (n v tk line pl : Nat) (hnl : nl ≤ 20) (hg : ∀ j, g j ≤ 126) (htk : tk < 2 ^ 20) (hte : ∀ t, tk.testBit t = true → t + n ≤ nl) (hv : v < 4) (hx3 : ∃ t, t < 20 ∧ tk.testBit t = true) (hln : line < n) (hp : pl < 8) : Met l yX8_isTold wsX8_isTold ({ frames := 2, cells := 0, slots := 0, locals := 50 }) (mPc [.ref mo, .int (nI v), .int (nI tk), .int (nI line), .int (nI pl)] D cI cZ [(mo, .inr (8, [.int (nI ps), .ref mpa, .int (nI nl), .int (nI nv), .ref msz, .ref mcd, .ref mbe, .ref mba, .int ol, .int (nI op), .int (nI os), .int (nI svn), .ref ms1, .ref ms2, .ref ms3, .ref ms4, .ref mfa, .ref mim, .ref mik])), (mcd, aN cI 640 g)]) (QcRead (bI (tlB g v tk nl line pl))) 0 0 (fun _ => False) := by
  refine Met.ofW (cc := cX8_isTold) (maxL := 6) (ret := (some .boolean)) (by decide) rfl ?_
  intro p e s m args below meth c s₁ BB hml hv
  obtain ⟨hargs, hP, hD0, hK⟩ := hv
  have hx := BB.exec
  have hb := BB.bytes
  have hr := BB.returns
  have hts := atoms_spec (ws := wsX8_isTold) BB.pre
  have hown : s.vm.findClass RX8 = some m.cls := findClass_of_methodNamed BB.named
  have hlocks := BB.notSynchronized
  have hcf : CallFix p m c cX8_isTold 6 s args wsX8_isTold RX8 := ⟨hx, hb, hml, hown, hts⟩
  have hD := hD0
  rw [hargs, lg_entry_eq, ← hargs]
  have hl := lv_entry ([.ref mo, .int (nI v), .int (nI tk), .int (nI line), .int (nI pl)]) (n := 6) (Nat.le_of_ble_eq_true rfl)
  generalize (lg_sl ([.ref mo, .int (nI v), .int (nI tk), .int (nI line), .int (nI pl)]) ++ List.replicate (6 - (lg_sl ([.ref mo, .int (nI v), .int (nI tk), .int (nI line), .int (nI pl)])).length) Slot.unset).toArray = ls at hl ⊢
  have hl : lv_has ls 6 [(0, .ref mo), (1, .int (nI v)), (2, .int (nI tk)), (3, .int (nI line)), (4, .int (nI pl))] := hl
  obtain ⟨Q, hQ⟩ : ∃ Q, Q = MQ below (QcRead (bI (tlB g v tk nl line pl))) args s 0 0 (fun _ => False) := ⟨_, rfl⟩
  rw [← hQ]
  have hls := ls_lt hx3
  have hle := hte _ hls.2
  refine lv_aload_n hx hb dX8_isTold_0 rfl (lv_at hl 0 rfl) ?_
  refine lv_iload_n hx hb dX8_isTold_1 rfl (lv_at hl 1 rfl) ?_
  refine lv_iload_n hx hb dX8_isTold_2 rfl (lv_at hl 2 rfl) ?_
  refine m_rdS (As := [.int (nI tk)]) (rest := [.int (nI v), .ref mo]) (wc := []) hcf (k_X8_least (l := l) (D := D) (cI := cI) (cZ := cZ) (x := tk) (hx2 := htk) (hx3 := hx3)) (va_cwS 1 hts gX8_isTold_X8_least rfl rfl rfl yd_X8_least.2 ⟨Nat.le_of_ble_eq_true rfl, Nat.le_of_ble_eq_true rfl⟩) (m_preS hK hP hD [] (by decide) rfl) rfl hl.1 rfl (Nat.le_of_ble_eq_true rfl) dX8_isTold_3 ⟨Nat.zero_le _, Nat.zero_le _⟩ ?_
  refine lv_iload_n hx hb dX8_isTold_6 rfl (lv_at hl 3 rfl) ?_
  refine m_add hx hb dX8_isTold_7 ?_
  refine lv_iload hx hb dX8_isTold_8 (lv_at hl 4 rfl) ?_
  refine m_rdV (As := [.int (nI v), .int (nI ((lsN tk) + line)), .int (nI pl)]) (rest := []) (wc := [(mo, .inr (8, [.int (nI ps), .ref mpa, .int (nI nl), .int (nI nv), .ref msz, .ref mcd, .ref mbe, .ref mba, .int ol, .int (nI op), .int (nI os), .int (nI svn), .ref ms1, .ref ms2, .ref ms3, .ref ms4, .ref mfa, .ref mim, .ref mik])), (mcd, aN cI 640 g)]) hcf (k_X8_signAt (l := l) (D := D) (cI := cI) (cZ := cZ) (v := v) (ln := (lsN tk) + line) (k := pl) (mo := mo) (ps := ps) (mpa := mpa) (nl := nl) (nv := nv) (msz := msz) (mcd := mcd) (mbe := mbe) (mba := mba) (ol := ol) (op := op) (os := os) (svn := svn) (ms1 := ms1) (ms2 := ms2) (ms3 := ms3) (ms4 := ms4) (mfa := mfa) (mim := mim) (mik := mik) (g := g) (hv := hv) (hln := by omega) (hk := hp)) (cwV 3 hts gX8_isTold_X8_signAt rfl rfl rfl yd_X8_signAt ⟨Nat.le_of_ble_eq_true rfl, Nat.le_of_ble_eq_true rfl⟩) (m_preV hK hP hD [0, 1] (by decide) rfl rfl rfl) rfl hl.1 rfl (Nat.le_of_ble_eq_true rfl) dX8_isTold_10 ⟨Nat.zero_le _, Nat.zero_le _⟩ ?_
  refine m_top (y := nI (rgN g v (lsN tk + line) pl)) rfl ?_
  refine lv_istore (lv' := [(5, .int (nI (rgN g v (lsN tk + line) pl))), (0, .ref mo), (1, .int (nI v)), (2, .int (nI tk)), (3, .int (nI line)), (4, .int (nI pl))]) hx hb dX8_isTold_13 hl (by decide) rfl (fun ls hl => ?_)
  refine lv_iload hx hb dX8_isTold_15 (lv_at hl 0 rfl) ?_
  refine m_rdS (As := [.int (nI (rgN g v (lsN tk + line) pl))]) (rest := []) (wc := []) hcf (k_X8_isName (l := l) (D := D) (cI := cI) (cZ := cZ) (a := rgN g v (lsN tk + line) pl) (ha := Nat.lt_of_le_of_lt (hg _) (by decide))) (va_cwS 1 hts gX8_isTold_X8_isName rfl rfl rfl yd_X8_isName.2 ⟨Nat.le_of_ble_eq_true rfl, Nat.le_of_ble_eq_true rfl⟩) (m_preS hK hP hD [] (by decide) rfl) rfl hl.1 rfl (Nat.le_of_ble_eq_true rfl) dX8_isTold_17 ⟨Nat.zero_le _, Nat.zero_le _⟩ ?_
  refine m_ifB_ne (tgt := 31) hx hb dX8_isTold_20 (by decide) (fun c_20 => ?_) (fun c_20 => ?_)
  · refine lv_aload_n hx hb dX8_isTold_31 rfl (lv_at hl 1 rfl) ?_
    refine lv_iload_n hx hb dX8_isTold_32 rfl (lv_at hl 2 rfl) ?_
    refine lv_iload_n hx hb dX8_isTold_33 rfl (lv_at hl 3 rfl) ?_
    refine lv_iload_n hx hb dX8_isTold_34 rfl (lv_at hl 4 rfl) ?_
    refine lv_iload hx hb dX8_isTold_35 (lv_at hl 5 rfl) ?_
    refine m_rdV (As := [.int (nI v), .int (nI tk), .int (nI line), .int (nI pl)]) (rest := []) (wc := [(mo, .inr (8, [.int (nI ps), .ref mpa, .int (nI nl), .int (nI nv), .ref msz, .ref mcd, .ref mbe, .ref mba, .int ol, .int (nI op), .int (nI os), .int (nI svn), .ref ms1, .ref ms2, .ref ms3, .ref ms4, .ref mfa, .ref mim, .ref mik])), (mcd, aN cI 640 g)]) hcf (k_X8_isSame (l := l) (D := D) (cI := cI) (cZ := cZ) (v := v) (tk := tk) (line := line) (pl := pl) (mo := mo) (ps := ps) (mpa := mpa) (nl := nl) (nv := nv) (msz := msz) (mcd := mcd) (mbe := mbe) (mba := mba) (ol := ol) (op := op) (os := os) (svn := svn) (ms1 := ms1) (ms2 := ms2) (ms3 := ms3) (ms4 := ms4) (mfa := mfa) (mim := mim) (mik := mik) (g := g) (n := n) (hnl := hnl) (hg := hg) (htk := htk) (hte := hte) (hv := hv) (hx3 := hx3) (hln := hln) (hp := hp)) (cwV 4 hts gX8_isTold_X8_isSame rfl rfl rfl yd_X8_isSame ⟨Nat.le_of_ble_eq_true rfl, Nat.le_of_ble_eq_true rfl⟩) (m_preV hK hP hD [0, 1] (by decide) rfl rfl rfl) rfl hl.1 rfl (Nat.le_of_ble_eq_true rfl) dX8_isTold_37 ⟨Nat.zero_le _, Nat.zero_le _⟩ ?_
    refine m_ifB_ne (tgt := 47) hx hb dX8_isTold_40 (by decide) (fun c_40 => ?_) (fun c_40 => ?_)
    · refine lv_iconst (v := nI 0) hx hb dX8_isTold_47 (by decide) ?_
      rw [hQ]
      exact m_zrd hx hb hr hlocks (bb_zero (by unfold tlB; first | (simp [c_40]; done) | (simp [c_20, c_28]; done))) dX8_isTold_48
    · refine lv_iconst (v := nI 1) hx hb dX8_isTold_43 (by decide) ?_
      refine lv_goto (tgt := 48) hx hb dX8_isTold_44 (by decide) ?_
      rw [hQ]
      exact m_zrd hx hb hr hlocks (bb_one (by unfold tlB; first | (simp [c_20, c_40]; done) | (simp [c_28, c_40]; done))) dX8_isTold_48
  · refine lv_iload hx hb dX8_isTold_23 (lv_at hl 0 rfl) ?_
    refine m_rdS (As := [.int (nI (rgN g v (lsN tk + line) pl))]) (rest := []) (wc := []) hcf (k_X8_isNumber (l := l) (D := D) (cI := cI) (cZ := cZ) (a := rgN g v (lsN tk + line) pl) (ha := Nat.lt_of_le_of_lt (hg _) (by decide))) (va_cwS 1 hts gX8_isTold_X8_isNumber rfl rfl rfl yd_X8_isNumber.2 ⟨Nat.le_of_ble_eq_true rfl, Nat.le_of_ble_eq_true rfl⟩) (m_preS hK hP hD [] (by decide) rfl) rfl hl.1 rfl (Nat.le_of_ble_eq_true rfl) dX8_isTold_25 ⟨Nat.zero_le _, Nat.zero_le _⟩ ?_
    refine m_ifB_eq (tgt := 47) hx hb dX8_isTold_28 (by decide) (fun c_28 => ?_) (fun c_28 => ?_)
    · refine lv_iconst (v := nI 0) hx hb dX8_isTold_47 (by decide) ?_
      rw [hQ]
      exact m_zrd hx hb hr hlocks (bb_zero (by unfold tlB; first | (simp [c_40]; done) | (simp [c_20, c_28]; done))) dX8_isTold_48
    · refine lv_aload_n hx hb dX8_isTold_31 rfl (lv_at hl 1 rfl) ?_
      refine lv_iload_n hx hb dX8_isTold_32 rfl (lv_at hl 2 rfl) ?_
      refine lv_iload_n hx hb dX8_isTold_33 rfl (lv_at hl 3 rfl) ?_
      refine lv_iload_n hx hb dX8_isTold_34 rfl (lv_at hl 4 rfl) ?_
      refine lv_iload hx hb dX8_isTold_35 (lv_at hl 5 rfl) ?_
      refine m_rdV (As := [.int (nI v), .int (nI tk), .int (nI line), .int (nI pl)]) (rest := []) (wc := [(mo, .inr (8, [.int (nI ps), .ref mpa, .int (nI nl), .int (nI nv), .ref msz, .ref mcd, .ref mbe, .ref mba, .int ol, .int (nI op), .int (nI os), .int (nI svn), .ref ms1, .ref ms2, .ref ms3, .ref ms4, .ref mfa, .ref mim, .ref mik])), (mcd, aN cI 640 g)]) hcf (k_X8_isSame (l := l) (D := D) (cI := cI) (cZ := cZ) (v := v) (tk := tk) (line := line) (pl := pl) (mo := mo) (ps := ps) (mpa := mpa) (nl := nl) (nv := nv) (msz := msz) (mcd := mcd) (mbe := mbe) (mba := mba) (ol := ol) (op := op) (os := os) (svn := svn) (ms1 := ms1) (ms2 := ms2) (ms3 := ms3) (ms4 := ms4) (mfa := mfa) (mim := mim) (mik := mik) (g := g) (n := n) (hnl := hnl) (hg := hg) (htk := htk) (hte := hte) (hv := hv) (hx3 := hx3) (hln := hln) (hp := hp)) (cwV 4 hts gX8_isTold_X8_isSame rfl rfl rfl yd_X8_isSame ⟨Nat.le_of_ble_eq_true rfl, Nat.le_of_ble_eq_true rfl⟩) (m_preV hK hP hD [0, 1] (by decide) rfl rfl rfl) rfl hl.1 rfl (Nat.le_of_ble_eq_true rfl) dX8_isTold_37 ⟨Nat.zero_le _, Nat.zero_le _⟩ ?_
      refine m_ifB_ne (tgt := 47) hx hb dX8_isTold_40 (by decide) (fun c_40 => ?_) (fun c_40 => ?_)
      · refine lv_iconst (v := nI 0) hx hb dX8_isTold_47 (by decide) ?_
        rw [hQ]
        exact m_zrd hx hb hr hlocks (bb_zero (by unfold tlB; first | (simp [c_40]; done) | (simp [c_20, c_28]; done))) dX8_isTold_48
      · refine lv_iconst (v := nI 1) hx hb dX8_isTold_43 (by decide) ?_
        refine lv_goto (tgt := 48) hx hb dX8_isTold_44 (by decide) ?_
        rw [hQ]
        exact m_zrd hx hb hr hlocks (bb_one (by unfold tlB; first | (simp [c_20, c_40]; done) | (simp [c_28, c_40]; done))) dX8_isTold_48

theorem yd_X8_toldOf : yX8_toldOf.cls = RX8 ∧ yX8_toldOf.cls ≠ "java/lang/invoke/MethodHandle" ∧ yX8_toldOf.cls ≠ "java/lang/invoke/VarHandle" ∧ (parseMethodDescriptor yX8_toldOf.desc).map (fun d => d.parameters.length) = some 3 := by decide +kernel
set_option maxHeartbeats 4000000 in
set_option maxRecDepth 100000 in
theorem k_X8_toldOf (l : Launch) (D : va_G) (cI cZ : ClassId) (mo ps mpa nl nv msz mcd mbe mba : Nat) (ol : Int32) (op os svn ms1 ms2 ms3 ms4 mfa mim mik : Nat) (z g : Nat → Nat) (v tk n : Nat) (hnl : nl ≤ 20) (hz : ∀ j, z j ≤ 8) (hg : ∀ j, g j ≤ 126) (htk : tk < 2 ^ 20) (hte : ∀ t, tk.testBit t = true → t + n ≤ nl) (hv : v < 4) (hx3 : ∃ t, t < 20 ∧ tk.testBit t = true) (hn : n ≤ 20) : Met l yX8_toldOf wsX8_toldOf ({ frames := 3, cells := 0, slots := 0, locals := 75 }) (mPc [.ref mo, .int (nI v), .int (nI tk), .int (nI n)] D cI cZ [(mo, .inr (8, [.int (nI ps), .ref mpa, .int (nI nl), .int (nI nv), .ref msz, .ref mcd, .ref mbe, .ref mba, .int ol, .int (nI op), .int (nI os), .int (nI svn), .ref ms1, .ref ms2, .ref ms3, .ref ms4, .ref mfa, .ref mim, .ref mik])), (msz, aN cI 80 z), (mcd, aN cI 640 g)]) (QcRead (nI (fb_ct (tdQ z g v tk nl) (8 * n)))) 0 0 (fun _ => False) := by
  refine Met.ofW (cc := cX8_toldOf) (maxL := 11) (ret := (some .int)) (by decide) rfl ?_
  intro p e s m args below meth c s₁ BB hml hv
  obtain ⟨hargs, hP, hD0, hK⟩ := hv
  have hx := BB.exec
  have hb := BB.bytes
  have hr := BB.returns
  have hts := atoms_spec (ws := wsX8_toldOf) BB.pre
  have hown : s.vm.findClass RX8 = some m.cls := findClass_of_methodNamed BB.named
  have hlocks := BB.notSynchronized
  have hcf : CallFix p m c cX8_toldOf 11 s args wsX8_toldOf RX8 := ⟨hx, hb, hml, hown, hts⟩
  have hD := hD0
  rw [hargs, lg_entry_eq, ← hargs]
  have hl := lv_entry ([.ref mo, .int (nI v), .int (nI tk), .int (nI n)]) (n := 11) (Nat.le_of_ble_eq_true rfl)
  generalize (lg_sl ([.ref mo, .int (nI v), .int (nI tk), .int (nI n)]) ++ List.replicate (11 - (lg_sl ([.ref mo, .int (nI v), .int (nI tk), .int (nI n)])).length) Slot.unset).toArray = ls at hl ⊢
  have hl : lv_has ls 11 [(0, .ref mo), (1, .int (nI v)), (2, .int (nI tk)), (3, .int (nI n))] := hl
  obtain ⟨Q, hQ⟩ : ∃ Q, Q = MQ below (QcRead (nI (fb_ct (tdQ z g v tk nl) (8 * n)))) args s 0 0 (fun _ => False) := ⟨_, rfl⟩
  rw [← hQ]
  have hls := ls_lt hx3
  have hle := hte _ hls.2
  refine lv_iload_n hx hb dX8_toldOf_0 rfl (lv_at hl 2 rfl) ?_
  refine m_rdS (As := [.int (nI tk)]) (rest := []) (wc := []) hcf (k_X8_least (l := l) (D := D) (cI := cI) (cZ := cZ) (x := tk) (hx2 := htk) (hx3 := hx3)) (va_cwS 1 hts gX8_toldOf_X8_least rfl rfl rfl yd_X8_least.2 ⟨Nat.le_of_ble_eq_true rfl, Nat.le_of_ble_eq_true rfl⟩) (m_preS hK hP hD [] (by decide) rfl) rfl hl.1 rfl (Nat.le_of_ble_eq_true rfl) dX8_toldOf_1 ⟨Nat.zero_le _, Nat.zero_le _⟩ ?_
  refine lv_istore (lv' := [(4, .int (nI (lsN tk))), (0, .ref mo), (1, .int (nI v)), (2, .int (nI tk)), (3, .int (nI n))]) hx hb dX8_toldOf_4 hl (by decide) rfl (fun ls hl => ?_)
  refine lv_iconst (v := nI 0) hx hb dX8_toldOf_6 (by decide) ?_
  refine lv_istore (lv' := [(5, .int (nI 0)), (4, .int (nI (lsN tk))), (0, .ref mo), (1, .int (nI v)), (2, .int (nI tk)), (3, .int (nI n))]) hx hb dX8_toldOf_7 hl (by decide) rfl (fun ls hl => ?_)
  refine lv_iconst (v := nI 0) hx hb dX8_toldOf_9 (by decide) ?_
  refine lv_istore (lv' := [(6, .int (nI 0)), (5, .int (nI 0)), (4, .int (nI (lsN tk))), (0, .ref mo), (1, .int (nI v)), (2, .int (nI tk)), (3, .int (nI n))]) hx hb dX8_toldOf_10 hl (by decide) rfl (fun ls hl => ?_)
  have loop_12 : ∀ (fu : Nat) (a cc : Nat) (hfu : 8 * n - a < fu)  (ha : a ≤ 8 * n) (hcb : cc ≤ a) (hc : cc = fb_ct (tdQ z g v tk nl) a) (ls : Array Slot) (hl : lv_has ls 11 [(0, .ref mo), (1, .int (nI v)), (2, .int (nI tk)), (3, .int (nI n)), (4, .int (nI (lsN tk))), (5, .int (nI cc)), (6, .int (nI a))]), W p l e (headSpec wsX8_toldOf { frames := 3, cells := 0, slots := 0, locals := 75 }).room s m args below meth c s.heap [] 0 0 Q (F0 m 12 ls []) := by
    intro fu
    induction fu with
    | zero => intro a cc hfu; exact absurd hfu (Nat.not_lt_zero _)
    | succ fu ih_12 =>
      intro a cc hfu ha hcb hc ls hl
      refine lv_iload hx hb dX8_toldOf_12 (lv_at hl 6 rfl) ?_
      refine lv_bipush (v := nI 8) hx hb dX8_toldOf_14 (by decide) ?_
      refine lv_iload_n hx hb dX8_toldOf_16 rfl (lv_at hl 3 rfl) ?_
      refine m_mul hx hb dX8_toldOf_17 ?_
      refine m_cmp_ge (tgt := 159) hx hb dX8_toldOf_18 (by decide) (by omega) (by omega) (fun c_18 => ?_) (fun c_18 => ?_)
      · refine lv_iload hx hb dX8_toldOf_159 (lv_at hl 5 rfl) ?_
        rw [hQ]
        have e9 : a = 8 * n := by omega
        exact m_ird hx hb hr hlocks (by rw [hc, e9]) dX8_toldOf_161
      · refine lv_iload hx hb dX8_toldOf_21 (lv_at hl 6 rfl) ?_
        refine lv_bipush (v := nI 8) hx hb dX8_toldOf_23 (by decide) ?_
        refine m_div hx hb (by omega) (by omega) (by omega) dX8_toldOf_25 ?_
        refine lv_istore (lv' := [(7, .int (nI (a / 8))), (0, .ref mo), (1, .int (nI v)), (2, .int (nI tk)), (3, .int (nI n)), (4, .int (nI (lsN tk))), (5, .int (nI cc)), (6, .int (nI a))]) hx hb dX8_toldOf_26 hl (by decide) rfl (fun ls hl => ?_)
        refine lv_iload hx hb dX8_toldOf_28 (lv_at hl 7 rfl) ?_
        refine lv_bipush (v := nI 8) hx hb dX8_toldOf_30 (by decide) ?_
        refine m_rem hx hb (by omega) (by omega) (by omega) dX8_toldOf_32 ?_
        refine lv_istore (lv' := [(8, .int (nI (a % 8))), (7, .int (nI (a / 8))), (0, .ref mo), (1, .int (nI v)), (2, .int (nI tk)), (3, .int (nI n)), (4, .int (nI (lsN tk))), (5, .int (nI cc)), (6, .int (nI a))]) hx hb dX8_toldOf_33 hl (by decide) rfl (fun ls hl => ?_)
        refine lv_iload hx hb dX8_toldOf_35 (lv_at hl 0 rfl) ?_
        refine lv_aload_n hx hb dX8_toldOf_37 rfl (lv_at hl 2 rfl) ?_
        refine lv_iload_n hx hb dX8_toldOf_38 rfl (lv_at hl 3 rfl) ?_
        refine lv_iload hx hb dX8_toldOf_39 (lv_at hl 6 rfl) ?_
        refine lv_iload hx hb dX8_toldOf_41 (lv_at hl 1 rfl) ?_
        refine m_add hx hb dX8_toldOf_43 ?_
        refine m_rdV (As := [.int (nI v), .int (nI ((lsN tk) + (a / 8)))]) (rest := [.int (nI (a % 8))]) (wc := [(mo, .inr (8, [.int (nI ps), .ref mpa, .int (nI nl), .int (nI nv), .ref msz, .ref mcd, .ref mbe, .ref mba, .int ol, .int (nI op), .int (nI os), .int (nI svn), .ref ms1, .ref ms2, .ref ms3, .ref ms4, .ref mfa, .ref mim, .ref mik])), (msz, aN cI 80 z)]) hcf (k_X8_size (l := l) (D := D) (cI := cI) (cZ := cZ) (v := v) (ln := (lsN tk) + (a / 8)) (mo := mo) (ps := ps) (mpa := mpa) (nl := nl) (nv := nv) (msz := msz) (mcd := mcd) (mbe := mbe) (mba := mba) (ol := ol) (op := op) (os := os) (svn := svn) (ms1 := ms1) (ms2 := ms2) (ms3 := ms3) (ms4 := ms4) (mfa := mfa) (mim := mim) (mik := mik) (z := z) (hv := hv) (hln := by omega)) (cwV 2 hts gX8_toldOf_X8_size rfl rfl rfl yd_X8_size ⟨Nat.le_of_ble_eq_true rfl, Nat.le_of_ble_eq_true rfl⟩) (m_preV hK hP hD [0, 1] (by decide) rfl rfl rfl) rfl hl.1 rfl (Nat.le_of_ble_eq_true rfl) dX8_toldOf_44 ⟨Nat.zero_le _, Nat.zero_le _⟩ ?_
        refine m_top (y := nI (szT z v tk (a / 8))) rfl ?_
        refine m_cmp_ge (tgt := 153) hx hb dX8_toldOf_47 (by decide) (by omega) (Nat.lt_of_le_of_lt (hz _) (by decide)) (fun c_47 => ?_) (fun c_47 => ?_)
        · refine lv_iinc (v := nI (a + 1)) (lv' := [(6, .int (nI (a + 1))), (8, .int (nI (a % 8))), (7, .int (nI (a / 8))), (0, .ref mo), (1, .int (nI v)), (2, .int (nI tk)), (3, .int (nI n)), (4, .int (nI (lsN tk))), (5, .int (nI cc))]) hx hb dX8_toldOf_153 hl (k := 8) rfl ((nI_succ _).symm) (by decide) rfl (fun ls hl => ?_)
          refine lv_goto (tgt := 12) hx hb dX8_toldOf_156 (by decide) ?_
          have X9 : tdQ z g v tk nl a = false := by
            unfold tdQ
            first
            | (rw [decide_eq_false (by omega)]; rfl)
            | (rw [c_60, Bool.and_false]; rfl)
          exact ih_12 (a + 1) _ (by omega) (by omega) (by omega) (by rw [fb_ct_succ, X9, hc]; rfl)  ls (lv_sub hl [3, 4, 5, 6, 7, 8, 0] rfl)
        · refine lv_aload_n hx hb dX8_toldOf_50 rfl (lv_at hl 2 rfl) ?_
          refine lv_iload_n hx hb dX8_toldOf_51 rfl (lv_at hl 3 rfl) ?_
          refine lv_iload_n hx hb dX8_toldOf_52 rfl (lv_at hl 4 rfl) ?_
          refine lv_iload hx hb dX8_toldOf_53 (lv_at hl 1 rfl) ?_
          refine lv_iload hx hb dX8_toldOf_55 (lv_at hl 0 rfl) ?_
          refine m_rdV (As := [.int (nI v), .int (nI tk), .int (nI (a / 8)), .int (nI (a % 8))]) (rest := []) (wc := [(mo, .inr (8, [.int (nI ps), .ref mpa, .int (nI nl), .int (nI nv), .ref msz, .ref mcd, .ref mbe, .ref mba, .int ol, .int (nI op), .int (nI os), .int (nI svn), .ref ms1, .ref ms2, .ref ms3, .ref ms4, .ref mfa, .ref mim, .ref mik])), (mcd, aN cI 640 g)]) hcf (k_X8_isTold (l := l) (D := D) (cI := cI) (cZ := cZ) (v := v) (tk := tk) (line := a / 8) (pl := a % 8) (mo := mo) (ps := ps) (mpa := mpa) (nl := nl) (nv := nv) (msz := msz) (mcd := mcd) (mbe := mbe) (mba := mba) (ol := ol) (op := op) (os := os) (svn := svn) (ms1 := ms1) (ms2 := ms2) (ms3 := ms3) (ms4 := ms4) (mfa := mfa) (mim := mim) (mik := mik) (g := g) (n := n) (hnl := hnl) (hg := hg) (htk := htk) (hte := hte) (hv := hv) (hx3 := hx3) (hln := by omega) (hp := by omega)) (cwV 4 hts gX8_toldOf_X8_isTold rfl rfl rfl yd_X8_isTold ⟨Nat.le_of_ble_eq_true rfl, Nat.le_of_ble_eq_true rfl⟩) (m_preV hK hP hD [0, 2] (by decide) rfl rfl rfl) rfl hl.1 rfl (Nat.le_of_ble_eq_true rfl) dX8_toldOf_57 ⟨Nat.zero_le _, Nat.zero_le _⟩ ?_
          refine m_ifB_eq (tgt := 153) hx hb dX8_toldOf_60 (by decide) (fun c_60 => ?_) (fun c_60 => ?_)
          · refine lv_iinc (v := nI (a + 1)) (lv' := [(6, .int (nI (a + 1))), (8, .int (nI (a % 8))), (7, .int (nI (a / 8))), (0, .ref mo), (1, .int (nI v)), (2, .int (nI tk)), (3, .int (nI n)), (4, .int (nI (lsN tk))), (5, .int (nI cc))]) hx hb dX8_toldOf_153 hl (k := 8) rfl ((nI_succ _).symm) (by decide) rfl (fun ls hl => ?_)
            refine lv_goto (tgt := 12) hx hb dX8_toldOf_156 (by decide) ?_
            have X9 : tdQ z g v tk nl a = false := by
              unfold tdQ
              first
              | (rw [decide_eq_false (by omega)]; rfl)
              | (rw [c_60, Bool.and_false]; rfl)
            exact ih_12 (a + 1) _ (by omega) (by omega) (by omega) (by rw [fb_ct_succ, X9, hc]; rfl)  ls (lv_sub hl [3, 4, 5, 6, 7, 8, 0] rfl)
          · refine lv_iconst (v := nI 0) hx hb dX8_toldOf_63 (by decide) ?_
            refine lv_istore (lv' := [(9, .int (nI 0)), (8, .int (nI (a % 8))), (7, .int (nI (a / 8))), (0, .ref mo), (1, .int (nI v)), (2, .int (nI tk)), (3, .int (nI n)), (4, .int (nI (lsN tk))), (5, .int (nI cc)), (6, .int (nI a))]) hx hb dX8_toldOf_64 hl (by decide) rfl (fun ls hl => ?_)
            refine lv_iconst (v := nI 0) hx hb dX8_toldOf_66 (by decide) ?_
            refine lv_istore (lv' := [(10, .int (nI 0)), (9, .int (nI 0)), (8, .int (nI (a % 8))), (7, .int (nI (a / 8))), (0, .ref mo), (1, .int (nI v)), (2, .int (nI tk)), (3, .int (nI n)), (4, .int (nI (lsN tk))), (5, .int (nI cc)), (6, .int (nI a))]) hx hb dX8_toldOf_67 hl (by decide) rfl (fun ls hl => ?_)
            have loop_69 : ∀ (fu : Nat) (k : Nat) (w : Bool) (hfu : a - k < fu)  (hk : k ≤ a) (hw1 : w = false → ∀ j, j < k → hdB z g v tk nl a j = false) (hw2 : w = true → ∃ j, j < a ∧ hdB z g v tk nl a j = true) (ls : Array Slot) (hl : lv_has ls 11 [(0, .ref mo), (1, .int (nI v)), (2, .int (nI tk)), (3, .int (nI n)), (4, .int (nI (lsN tk))), (5, .int (nI cc)), (6, .int (nI a)), (7, .int (nI (a / 8))), (8, .int (nI (a % 8))), (9, .int (bI w)), (10, .int (nI k))]), W p l e (headSpec wsX8_toldOf { frames := 3, cells := 0, slots := 0, locals := 75 }).room s m args below meth c s.heap [] 0 0 Q (F0 m 69 ls []) := by
              intro fu
              induction fu with
              | zero => intro k w hfu; exact absurd hfu (Nat.not_lt_zero _)
              | succ fu ih_69 =>
                intro k w hfu hk hw1 hw2 ls hl
                refine lv_iload hx hb dX8_toldOf_69 (lv_at hl 10 rfl) ?_
                refine lv_iload hx hb dX8_toldOf_71 (lv_at hl 6 rfl) ?_
                refine m_cmp_ge (tgt := 138) hx hb dX8_toldOf_73 (by decide) (by omega) (by omega) (fun c_73 => ?_) (fun c_73 => ?_)
                · refine lv_iload hx hb dX8_toldOf_138 (lv_at hl 5 rfl) ?_
                  refine lv_iload hx hb dX8_toldOf_140 (lv_at hl 9 rfl) ?_
                  refine m_ifB_eq (tgt := 149) hx hb dX8_toldOf_142 (by decide) (fun c_142 => ?_) (fun c_142 => ?_)
                  · refine lv_iconst (v := nI 1) hx hb dX8_toldOf_149 (by decide) ?_
                    refine m_add hx hb dX8_toldOf_150 ?_
                    refine lv_istore (lv' := [(5, .int (nI (cc + 1))), (0, .ref mo), (1, .int (nI v)), (2, .int (nI tk)), (3, .int (nI n)), (4, .int (nI (lsN tk))), (6, .int (nI a)), (7, .int (nI (a / 8))), (8, .int (nI (a % 8))), (9, .int (bI w)), (10, .int (nI k))]) hx hb dX8_toldOf_151 hl (by decide) rfl (fun ls hl => ?_)
                    refine lv_iinc (v := nI (a + 1)) (lv' := [(6, .int (nI (a + 1))), (5, .int (nI (cc + 1))), (0, .ref mo), (1, .int (nI v)), (2, .int (nI tk)), (3, .int (nI n)), (4, .int (nI (lsN tk))), (7, .int (nI (a / 8))), (8, .int (nI (a % 8))), (9, .int (bI w)), (10, .int (nI k))]) hx hb dX8_toldOf_153 hl (k := 6) rfl ((nI_succ _).symm) (by decide) rfl (fun ls hl => ?_)
                    refine lv_goto (tgt := 12) hx hb dX8_toldOf_156 (by decide) ?_
                    have X8 : haB z g v tk nl a = false := haB_f (fun j hj => hw1 c_142 j (by first | (exact absurd c_78 (by rw [c_142]; decide)) | omega))
                    have X9 : tdQ z g v tk nl a = true := by
                      unfold tdQ
                      rw [decide_eq_true c_47, c_60, X8]; rfl
                    exact ih_12 (a + 1) _ (by omega) (by omega) (by omega) (by rw [fb_ct_succ, X9, hc]; rfl)  ls (lv_sub hl [2, 3, 4, 5, 6, 1, 0] rfl)
                  · refine lv_iconst (v := nI 0) hx hb dX8_toldOf_145 (by decide) ?_
                    refine lv_goto (tgt := 150) hx hb dX8_toldOf_146 (by decide) ?_
                    refine m_add hx hb dX8_toldOf_150 ?_
                    refine lv_istore (lv' := [(5, .int (nI (cc + 0))), (0, .ref mo), (1, .int (nI v)), (2, .int (nI tk)), (3, .int (nI n)), (4, .int (nI (lsN tk))), (6, .int (nI a)), (7, .int (nI (a / 8))), (8, .int (nI (a % 8))), (9, .int (bI w)), (10, .int (nI k))]) hx hb dX8_toldOf_151 hl (by decide) rfl (fun ls hl => ?_)
                    refine lv_iinc (v := nI (a + 1)) (lv' := [(6, .int (nI (a + 1))), (5, .int (nI (cc + 0))), (0, .ref mo), (1, .int (nI v)), (2, .int (nI tk)), (3, .int (nI n)), (4, .int (nI (lsN tk))), (7, .int (nI (a / 8))), (8, .int (nI (a % 8))), (9, .int (bI w)), (10, .int (nI k))]) hx hb dX8_toldOf_153 hl (k := 6) rfl ((nI_succ _).symm) (by decide) rfl (fun ls hl => ?_)
                    refine lv_goto (tgt := 12) hx hb dX8_toldOf_156 (by decide) ?_
                    have X8 : haB z g v tk nl a = true := by
                      obtain ⟨j, hj, hh⟩ := hw2 c_142
                      exact haB_t hj hh
                    have X9 : tdQ z g v tk nl a = false := by
                      unfold tdQ
                      rw [X8]; simp
                    exact ih_12 (a + 1) _ (by omega) (by omega) (by omega) (by rw [fb_ct_succ, X9, hc]; rfl)  ls (lv_sub hl [2, 3, 4, 5, 6, 1, 0] rfl)
                · refine lv_iload hx hb dX8_toldOf_76 (lv_at hl 9 rfl) ?_
                  refine m_ifB_ne (tgt := 138) hx hb dX8_toldOf_78 (by decide) (fun c_78 => ?_) (fun c_78 => ?_)
                  · refine lv_iload hx hb dX8_toldOf_138 (lv_at hl 5 rfl) ?_
                    refine lv_iload hx hb dX8_toldOf_140 (lv_at hl 9 rfl) ?_
                    refine m_ifB_eq (tgt := 149) hx hb dX8_toldOf_142 (by decide) (fun c_142 => ?_) (fun c_142 => ?_)
                    · refine lv_iconst (v := nI 1) hx hb dX8_toldOf_149 (by decide) ?_
                      refine m_add hx hb dX8_toldOf_150 ?_
                      refine lv_istore (lv' := [(5, .int (nI (cc + 1))), (0, .ref mo), (1, .int (nI v)), (2, .int (nI tk)), (3, .int (nI n)), (4, .int (nI (lsN tk))), (6, .int (nI a)), (7, .int (nI (a / 8))), (8, .int (nI (a % 8))), (9, .int (bI w)), (10, .int (nI k))]) hx hb dX8_toldOf_151 hl (by decide) rfl (fun ls hl => ?_)
                      refine lv_iinc (v := nI (a + 1)) (lv' := [(6, .int (nI (a + 1))), (5, .int (nI (cc + 1))), (0, .ref mo), (1, .int (nI v)), (2, .int (nI tk)), (3, .int (nI n)), (4, .int (nI (lsN tk))), (7, .int (nI (a / 8))), (8, .int (nI (a % 8))), (9, .int (bI w)), (10, .int (nI k))]) hx hb dX8_toldOf_153 hl (k := 6) rfl ((nI_succ _).symm) (by decide) rfl (fun ls hl => ?_)
                      refine lv_goto (tgt := 12) hx hb dX8_toldOf_156 (by decide) ?_
                      have X8 : haB z g v tk nl a = false := haB_f (fun j hj => hw1 c_142 j (by first | (exact absurd c_78 (by rw [c_142]; decide)) | omega))
                      have X9 : tdQ z g v tk nl a = true := by
                        unfold tdQ
                        rw [decide_eq_true c_47, c_60, X8]; rfl
                      exact ih_12 (a + 1) _ (by omega) (by omega) (by omega) (by rw [fb_ct_succ, X9, hc]; rfl)  ls (lv_sub hl [2, 3, 4, 5, 6, 1, 0] rfl)
                    · refine lv_iconst (v := nI 0) hx hb dX8_toldOf_145 (by decide) ?_
                      refine lv_goto (tgt := 150) hx hb dX8_toldOf_146 (by decide) ?_
                      refine m_add hx hb dX8_toldOf_150 ?_
                      refine lv_istore (lv' := [(5, .int (nI (cc + 0))), (0, .ref mo), (1, .int (nI v)), (2, .int (nI tk)), (3, .int (nI n)), (4, .int (nI (lsN tk))), (6, .int (nI a)), (7, .int (nI (a / 8))), (8, .int (nI (a % 8))), (9, .int (bI w)), (10, .int (nI k))]) hx hb dX8_toldOf_151 hl (by decide) rfl (fun ls hl => ?_)
                      refine lv_iinc (v := nI (a + 1)) (lv' := [(6, .int (nI (a + 1))), (5, .int (nI (cc + 0))), (0, .ref mo), (1, .int (nI v)), (2, .int (nI tk)), (3, .int (nI n)), (4, .int (nI (lsN tk))), (7, .int (nI (a / 8))), (8, .int (nI (a % 8))), (9, .int (bI w)), (10, .int (nI k))]) hx hb dX8_toldOf_153 hl (k := 6) rfl ((nI_succ _).symm) (by decide) rfl (fun ls hl => ?_)
                      refine lv_goto (tgt := 12) hx hb dX8_toldOf_156 (by decide) ?_
                      have X8 : haB z g v tk nl a = true := by
                        obtain ⟨j, hj, hh⟩ := hw2 c_142
                        exact haB_t hj hh
                      have X9 : tdQ z g v tk nl a = false := by
                        unfold tdQ
                        rw [X8]; simp
                      exact ih_12 (a + 1) _ (by omega) (by omega) (by omega) (by rw [fb_ct_succ, X9, hc]; rfl)  ls (lv_sub hl [2, 3, 4, 5, 6, 1, 0] rfl)
                  · refine lv_iload hx hb dX8_toldOf_81 (lv_at hl 10 rfl) ?_
                    refine lv_bipush (v := nI 8) hx hb dX8_toldOf_83 (by decide) ?_
                    refine m_rem hx hb (by omega) (by omega) (by omega) dX8_toldOf_85 ?_
                    refine lv_aload_n hx hb dX8_toldOf_86 rfl (lv_at hl 0 rfl) ?_
                    refine lv_iload_n hx hb dX8_toldOf_87 rfl (lv_at hl 1 rfl) ?_
                    refine lv_iload hx hb dX8_toldOf_88 (lv_at hl 4 rfl) ?_
                    refine lv_iload hx hb dX8_toldOf_90 (lv_at hl 10 rfl) ?_
                    refine lv_bipush (v := nI 8) hx hb dX8_toldOf_92 (by decide) ?_
                    refine m_div hx hb (by omega) (by omega) (by omega) dX8_toldOf_94 ?_
                    refine m_add hx hb dX8_toldOf_95 ?_
                    refine m_rdV (As := [.int (nI v), .int (nI ((lsN tk) + (k / 8)))]) (rest := [.int (nI (k % 8))]) (wc := [(mo, .inr (8, [.int (nI ps), .ref mpa, .int (nI nl), .int (nI nv), .ref msz, .ref mcd, .ref mbe, .ref mba, .int ol, .int (nI op), .int (nI os), .int (nI svn), .ref ms1, .ref ms2, .ref ms3, .ref ms4, .ref mfa, .ref mim, .ref mik])), (msz, aN cI 80 z)]) hcf (k_X8_size (l := l) (D := D) (cI := cI) (cZ := cZ) (v := v) (ln := (lsN tk) + (k / 8)) (mo := mo) (ps := ps) (mpa := mpa) (nl := nl) (nv := nv) (msz := msz) (mcd := mcd) (mbe := mbe) (mba := mba) (ol := ol) (op := op) (os := os) (svn := svn) (ms1 := ms1) (ms2 := ms2) (ms3 := ms3) (ms4 := ms4) (mfa := mfa) (mim := mim) (mik := mik) (z := z) (hv := hv) (hln := by omega)) (cwV 2 hts gX8_toldOf_X8_size rfl rfl rfl yd_X8_size ⟨Nat.le_of_ble_eq_true rfl, Nat.le_of_ble_eq_true rfl⟩) (m_preV hK hP hD [0, 1] (by decide) rfl rfl rfl) rfl hl.1 rfl (Nat.le_of_ble_eq_true rfl) dX8_toldOf_96 ⟨Nat.zero_le _, Nat.zero_le _⟩ ?_
                    refine m_top (y := nI (szT z v tk (k / 8))) rfl ?_
                    refine m_cmp_ge (tgt := 129) hx hb dX8_toldOf_99 (by decide) (by omega) (Nat.lt_of_le_of_lt (hz _) (by decide)) (fun c_99 => ?_) (fun c_99 => ?_)
                    · refine lv_iconst (v := nI 0) hx hb dX8_toldOf_129 (by decide) ?_
                      refine lv_istore (lv' := [(9, .int (nI 0)), (0, .ref mo), (1, .int (nI v)), (2, .int (nI tk)), (3, .int (nI n)), (4, .int (nI (lsN tk))), (5, .int (nI cc)), (6, .int (nI a)), (7, .int (nI (a / 8))), (8, .int (nI (a % 8))), (10, .int (nI k))]) hx hb dX8_toldOf_130 hl (by decide) rfl (fun ls hl => ?_)
                      refine lv_iinc (v := nI (k + 1)) (lv' := [(10, .int (nI (k + 1))), (9, .int (nI 0)), (0, .ref mo), (1, .int (nI v)), (2, .int (nI tk)), (3, .int (nI n)), (4, .int (nI (lsN tk))), (5, .int (nI cc)), (6, .int (nI a)), (7, .int (nI (a / 8))), (8, .int (nI (a % 8)))]) hx hb dX8_toldOf_132 hl (k := 10) rfl ((nI_succ _).symm) (by decide) rfl (fun ls hl => ?_)
                      refine lv_goto (tgt := 69) hx hb dX8_toldOf_135 (by decide) ?_
                      have X7 : hdB z g v tk nl a k = false := by
                        unfold hdB
                        first
                        | (rw [decide_eq_false (by omega)]; rfl)
                        | (rw [c_122, Bool.and_false])
                      exact ih_69 (k + 1) false (by omega) (by omega) (fun _ => lt_s (hw1 c_78) X7) (fun h => by cases h)  ls (lv_sub hl [2, 3, 4, 5, 6, 7, 8, 9, 10, 1, 0] rfl)
                    · refine lv_aload_n hx hb dX8_toldOf_102 rfl (lv_at hl 0 rfl) ?_
                      refine lv_iload_n hx hb dX8_toldOf_103 rfl (lv_at hl 1 rfl) ?_
                      refine lv_iload_n hx hb dX8_toldOf_104 rfl (lv_at hl 2 rfl) ?_
                      refine lv_iload hx hb dX8_toldOf_105 (lv_at hl 7 rfl) ?_
                      refine lv_iload hx hb dX8_toldOf_107 (lv_at hl 8 rfl) ?_
                      refine lv_iload hx hb dX8_toldOf_109 (lv_at hl 10 rfl) ?_
                      refine lv_bipush (v := nI 8) hx hb dX8_toldOf_111 (by decide) ?_
                      refine m_div hx hb (by omega) (by omega) (by omega) dX8_toldOf_113 ?_
                      refine lv_iload hx hb dX8_toldOf_114 (lv_at hl 10 rfl) ?_
                      refine lv_bipush (v := nI 8) hx hb dX8_toldOf_116 (by decide) ?_
                      refine m_rem hx hb (by omega) (by omega) (by omega) dX8_toldOf_118 ?_
                      refine m_rdV (As := [.int (nI v), .int (nI tk), .int (nI (a / 8)), .int (nI (a % 8)), .int (nI (k / 8)), .int (nI (k % 8))]) (rest := []) (wc := [(mo, .inr (8, [.int (nI ps), .ref mpa, .int (nI nl), .int (nI nv), .ref msz, .ref mcd, .ref mbe, .ref mba, .int ol, .int (nI op), .int (nI os), .int (nI svn), .ref ms1, .ref ms2, .ref ms3, .ref ms4, .ref mfa, .ref mim, .ref mik])), (mcd, aN cI 640 g)]) hcf (k_X8_areOne (l := l) (D := D) (cI := cI) (cZ := cZ) (v := v) (tk := tk) (line := a / 8) (pl := a % 8) (to := k / 8) (ax := k % 8) (mo := mo) (ps := ps) (mpa := mpa) (nl := nl) (nv := nv) (msz := msz) (mcd := mcd) (mbe := mbe) (mba := mba) (ol := ol) (op := op) (os := os) (svn := svn) (ms1 := ms1) (ms2 := ms2) (ms3 := ms3) (ms4 := ms4) (mfa := mfa) (mim := mim) (mik := mik) (g := g) (n := n) (hnl := hnl) (hg := hg) (htk := htk) (hte := hte) (hv := hv) (hln := by omega) (hp := by omega) (hl2 := by omega) (hp2 := by omega)) (cwV 6 hts gX8_toldOf_X8_areOne rfl rfl rfl yd_X8_areOne ⟨Nat.le_of_ble_eq_true rfl, Nat.le_of_ble_eq_true rfl⟩) (m_preV hK hP hD [0, 2] (by decide) rfl rfl rfl) rfl hl.1 rfl (Nat.le_of_ble_eq_true rfl) dX8_toldOf_119 ⟨Nat.zero_le _, Nat.zero_le _⟩ ?_
                      refine m_ifB_eq (tgt := 129) hx hb dX8_toldOf_122 (by decide) (fun c_122 => ?_) (fun c_122 => ?_)
                      · refine lv_iconst (v := nI 0) hx hb dX8_toldOf_129 (by decide) ?_
                        refine lv_istore (lv' := [(9, .int (nI 0)), (0, .ref mo), (1, .int (nI v)), (2, .int (nI tk)), (3, .int (nI n)), (4, .int (nI (lsN tk))), (5, .int (nI cc)), (6, .int (nI a)), (7, .int (nI (a / 8))), (8, .int (nI (a % 8))), (10, .int (nI k))]) hx hb dX8_toldOf_130 hl (by decide) rfl (fun ls hl => ?_)
                        refine lv_iinc (v := nI (k + 1)) (lv' := [(10, .int (nI (k + 1))), (9, .int (nI 0)), (0, .ref mo), (1, .int (nI v)), (2, .int (nI tk)), (3, .int (nI n)), (4, .int (nI (lsN tk))), (5, .int (nI cc)), (6, .int (nI a)), (7, .int (nI (a / 8))), (8, .int (nI (a % 8)))]) hx hb dX8_toldOf_132 hl (k := 10) rfl ((nI_succ _).symm) (by decide) rfl (fun ls hl => ?_)
                        refine lv_goto (tgt := 69) hx hb dX8_toldOf_135 (by decide) ?_
                        have X7 : hdB z g v tk nl a k = false := by
                          unfold hdB
                          first
                          | (rw [decide_eq_false (by omega)]; rfl)
                          | (rw [c_122, Bool.and_false])
                        exact ih_69 (k + 1) false (by omega) (by omega) (fun _ => lt_s (hw1 c_78) X7) (fun h => by cases h)  ls (lv_sub hl [2, 3, 4, 5, 6, 7, 8, 9, 10, 1, 0] rfl)
                      · refine lv_iconst (v := nI 1) hx hb dX8_toldOf_125 (by decide) ?_
                        refine lv_goto (tgt := 130) hx hb dX8_toldOf_126 (by decide) ?_
                        refine lv_istore (lv' := [(9, .int (nI 1)), (0, .ref mo), (1, .int (nI v)), (2, .int (nI tk)), (3, .int (nI n)), (4, .int (nI (lsN tk))), (5, .int (nI cc)), (6, .int (nI a)), (7, .int (nI (a / 8))), (8, .int (nI (a % 8))), (10, .int (nI k))]) hx hb dX8_toldOf_130 hl (by decide) rfl (fun ls hl => ?_)
                        refine lv_iinc (v := nI (k + 1)) (lv' := [(10, .int (nI (k + 1))), (9, .int (nI 1)), (0, .ref mo), (1, .int (nI v)), (2, .int (nI tk)), (3, .int (nI n)), (4, .int (nI (lsN tk))), (5, .int (nI cc)), (6, .int (nI a)), (7, .int (nI (a / 8))), (8, .int (nI (a % 8)))]) hx hb dX8_toldOf_132 hl (k := 10) rfl ((nI_succ _).symm) (by decide) rfl (fun ls hl => ?_)
                        refine lv_goto (tgt := 69) hx hb dX8_toldOf_135 (by decide) ?_
                        exact ih_69 (k + 1) true (by omega) (by omega) (fun h => by cases h) (fun _ => ⟨k, c_73, by unfold hdB; rw [decide_eq_true c_99, c_122]; rfl⟩)  ls (lv_sub hl [2, 3, 4, 5, 6, 7, 8, 9, 10, 1, 0] rfl)
            exact loop_69 (a + 1) 0 false (by omega) (by omega) (fun _ j hj => absurd hj (Nat.not_lt_zero j)) (fun h => by cases h)  ls (lv_sub hl [4, 5, 6, 7, 8, 9, 10, 3, 2, 1, 0] rfl)
  exact loop_12 (8 * n + 1) 0 0 (by omega) (by omega) (by omega) rfl  ls (lv_sub hl [3, 4, 5, 6, 2, 1, 0] rfl)

theorem yd_X8_savesOf : yX8_savesOf.cls = RX8 ∧ yX8_savesOf.cls ≠ "java/lang/invoke/MethodHandle" ∧ yX8_savesOf.cls ≠ "java/lang/invoke/VarHandle" ∧ (parseMethodDescriptor yX8_savesOf.desc).map (fun d => d.parameters.length) = some 3 := by decide +kernel
set_option maxHeartbeats 4000000 in
set_option maxRecDepth 100000 in
theorem k_X8_savesOf (l : Launch) (D : va_G) (cI cZ : ClassId) (mo ps mpa nl nv msz mcd mbe mba : Nat) (ol : Int32) (op os svn ms1 ms2 ms3 ms4 mfa mim mik : Nat) (z g : Nat → Nat) (v tk n : Nat) (hnl : nl ≤ 20) (hz : ∀ j, z j ≤ 8) (hg : ∀ j, g j ≤ 126) (htk : tk < 2 ^ 20) (hte : ∀ t, tk.testBit t = true → t + n ≤ nl) (hv : v < 4) (hx3 : ∃ t, t < 20 ∧ tk.testBit t = true) (hn : n ≤ 20) : Met l yX8_savesOf wsX8_savesOf ({ frames := 4, cells := 0, slots := 0, locals := 105 }) (mPc [.ref mo, .int (nI v), .int (nI tk), .int (nI n)] D cI cZ [(mo, .inr (8, [.int (nI ps), .ref mpa, .int (nI nl), .int (nI nv), .ref msz, .ref mcd, .ref mbe, .ref mba, .int ol, .int (nI op), .int (nI os), .int (nI svn), .ref ms1, .ref ms2, .ref ms3, .ref ms4, .ref mfa, .ref mim, .ref mik])), (msz, aN cI 80 z), (mcd, aN cI 640 g)]) (QcRead (svM (bcN tk) n (fb_ct (tdQ z g v tk nl) (8 * n)))) 0 0 (fun _ => False) := by
  refine Met.ofW (cc := cX8_savesOf) (maxL := 5) (ret := (some .int)) (by decide) rfl ?_
  intro p e s m args below meth c s₁ BB hml hv
  obtain ⟨hargs, hP, hD0, hK⟩ := hv
  have hx := BB.exec
  have hb := BB.bytes
  have hr := BB.returns
  have hts := atoms_spec (ws := wsX8_savesOf) BB.pre
  have hown : s.vm.findClass RX8 = some m.cls := findClass_of_methodNamed BB.named
  have hlocks := BB.notSynchronized
  have hcf : CallFix p m c cX8_savesOf 5 s args wsX8_savesOf RX8 := ⟨hx, hb, hml, hown, hts⟩
  have hD := hD0
  rw [hargs, lg_entry_eq, ← hargs]
  have hl := lv_entry ([.ref mo, .int (nI v), .int (nI tk), .int (nI n)]) (n := 5) (Nat.le_of_ble_eq_true rfl)
  generalize (lg_sl ([.ref mo, .int (nI v), .int (nI tk), .int (nI n)]) ++ List.replicate (5 - (lg_sl ([.ref mo, .int (nI v), .int (nI tk), .int (nI n)])).length) Slot.unset).toArray = ls at hl ⊢
  have hl : lv_has ls 5 [(0, .ref mo), (1, .int (nI v)), (2, .int (nI tk)), (3, .int (nI n))] := hl
  obtain ⟨Q, hQ⟩ : ∃ Q, Q = MQ below (QcRead (svM (bcN tk) n (fb_ct (tdQ z g v tk nl) (8 * n)))) args s 0 0 (fun _ => False) := ⟨_, rfl⟩
  rw [← hQ]
  refine lv_iload_n hx hb dX8_savesOf_0 rfl (lv_at hl 2 rfl) ?_
  refine m_rdS (As := [.int (nI tk)]) (rest := []) (wc := []) hcf (k_X8_bits (l := l) (D := D) (cI := cI) (cZ := cZ) (x := tk) (hx2 := htk)) (va_cwS 1 hts gX8_savesOf_X8_bits rfl rfl rfl yd_X8_bits.2 ⟨Nat.le_of_ble_eq_true rfl, Nat.le_of_ble_eq_true rfl⟩) (m_preS hK hP hD [] (by decide) rfl) rfl hl.1 rfl (Nat.le_of_ble_eq_true rfl) dX8_savesOf_1 ⟨Nat.zero_le _, Nat.zero_le _⟩ ?_
  refine lv_istore (lv' := [(4, .int (nI (bcN tk))), (0, .ref mo), (1, .int (nI v)), (2, .int (nI tk)), (3, .int (nI n))]) hx hb dX8_savesOf_4 hl (by decide) rfl (fun ls hl => ?_)
  refine lv_iload_n hx hb dX8_savesOf_6 rfl (lv_at hl 4 rfl) ?_
  refine lv_iload hx hb dX8_savesOf_7 (lv_at hl 0 rfl) ?_
  refine m_mul hx hb dX8_savesOf_9 ?_
  refine lv_iload_n hx hb dX8_savesOf_10 rfl (lv_at hl 4 rfl) ?_
  refine lv_isub hx hb dX8_savesOf_11 ?_
  refine lv_iconst (v := nI 1) hx hb dX8_savesOf_12 (by decide) ?_
  refine lv_isub hx hb dX8_savesOf_13 ?_
  refine lv_iload hx hb dX8_savesOf_14 (lv_at hl 0 rfl) ?_
  refine lv_isub hx hb dX8_savesOf_16 ?_
  refine lv_aload_n hx hb dX8_savesOf_17 rfl (lv_at hl 1 rfl) ?_
  refine lv_iload_n hx hb dX8_savesOf_18 rfl (lv_at hl 2 rfl) ?_
  refine lv_iload_n hx hb dX8_savesOf_19 rfl (lv_at hl 3 rfl) ?_
  refine lv_iload_n hx hb dX8_savesOf_20 rfl (lv_at hl 4 rfl) ?_
  refine m_rdV (As := [.int (nI v), .int (nI tk), .int (nI n)]) (rest := [.int ((((nI (n * (bcN tk))) - (nI n)) - (nI 1)) - (nI (bcN tk)))]) (wc := [(mo, .inr (8, [.int (nI ps), .ref mpa, .int (nI nl), .int (nI nv), .ref msz, .ref mcd, .ref mbe, .ref mba, .int ol, .int (nI op), .int (nI os), .int (nI svn), .ref ms1, .ref ms2, .ref ms3, .ref ms4, .ref mfa, .ref mim, .ref mik])), (msz, aN cI 80 z), (mcd, aN cI 640 g)]) hcf (k_X8_toldOf (l := l) (D := D) (cI := cI) (cZ := cZ) (v := v) (tk := tk) (n := n) (mo := mo) (ps := ps) (mpa := mpa) (nl := nl) (nv := nv) (msz := msz) (mcd := mcd) (mbe := mbe) (mba := mba) (ol := ol) (op := op) (os := os) (svn := svn) (ms1 := ms1) (ms2 := ms2) (ms3 := ms3) (ms4 := ms4) (mfa := mfa) (mim := mim) (mik := mik) (z := z) (g := g) (hnl := hnl) (hz := hz) (hg := hg) (htk := htk) (hte := hte) (hv := hv) (hx3 := hx3) (hn := hn)) (cwV 3 hts gX8_savesOf_X8_toldOf rfl rfl rfl yd_X8_toldOf ⟨Nat.le_of_ble_eq_true rfl, Nat.le_of_ble_eq_true rfl⟩) (m_preV hK hP hD [0, 1, 2] (by decide) rfl rfl rfl) rfl hl.1 rfl (Nat.le_of_ble_eq_true rfl) dX8_savesOf_21 ⟨Nat.zero_le _, Nat.zero_le _⟩ ?_
  refine lv_isub hx hb dX8_savesOf_24 ?_
  rw [hQ]
  exact m_ird hx hb hr hlocks rfl dX8_savesOf_25

theorem plQ_u {nv : Nat} {v : Int32} {ins : Bool} {X : Int32} (h : ixB v nv = false) : plQ nv v ins X = -1001 := if_neg (by rw [h]; decide)
theorem plQ_o {nv : Nat} {v : Int32} {ins : Bool} {X : Int32} (h : ixB v nv = true) (h2 : ins = false) : plQ nv v ins X = -1002 := by unfold plQ; rw [if_pos h, if_neg (by rw [h2]; decide)]

theorem yd_X8_pulled : yX8_pulled.cls = RX8 ∧ yX8_pulled.cls ≠ "java/lang/invoke/MethodHandle" ∧ yX8_pulled.cls ≠ "java/lang/invoke/VarHandle" ∧ (parseMethodDescriptor yX8_pulled.desc).map (fun d => d.parameters.length) = some 5 := by decide +kernel
set_option maxHeartbeats 4000000 in
set_option maxRecDepth 100000 in
theorem k_X8_pulled (l : Launch) (D : va_G) (cI cZ : ClassId) (mo ps mpa nl nv msz mcd mbe mba : Nat) (ol : Int32) (op os svn ms1 ms2 ms3 ms4 mfa mim mik : Nat) (be ba : Nat → Nat) (z g : Nat → Nat) (ve way sta n wh : Int32) (hnl : nl ≤ 20) (hnv : nv ≤ 4) (hz : ∀ j, z j ≤ 8) (hg : ∀ j, g j ≤ 126) (hbe : ∀ j, be j ≤ 126) (hba : ∀ j, ba j ≤ 126) (hop : op ≤ 100) (hos : os ≤ 126) : Met l yX8_pulled wsX8_pulled ({ frames := 5, cells := 0, slots := 0, locals := 129 }) (mPc [.ref mo, .int ve, .int way, .int sta, .int n, .int wh] D cI cZ [(mo, .inr (8, [.int (nI ps), .ref mpa, .int (nI nl), .int (nI nv), .ref msz, .ref mcd, .ref mbe, .ref mba, .int ol, .int (nI op), .int (nI os), .int (nI svn), .ref ms1, .ref ms2, .ref ms3, .ref ms4, .ref mfa, .ref mim, .ref mik])), (mbe, aN cI 26 be), (mba, aN cI 26 ba), (msz, aN cI 80 z), (mcd, aN cI 640 g)]) (mQi D (mA [(mo, .inr (8, [.int (nI ps), .ref mpa, .int (nI nl), .int (nI nv), .ref msz, .ref mcd, .ref mbe, .ref mba, .int ol, .int (nI op), .int (nI os), .int (nI svn), .ref ms1, .ref ms2, .ref ms3, .ref ms4, .ref mfa, .ref mim, .ref mik])), (mbe, aN cI 26 be), (mba, aN cI 26 ba), (msz, aN cI 80 z), (mcd, aN cI 640 g)]) (fun (r : Int32) (u : (Nat → Nat) × (Nat → Nat)) => r = plQ nv ve (ixB way 3 && ixB sta 20 && lnB n && ixB wh 3) (plR (bcN ((tkF (mkN (fun k => rmB (cN way) z g (cN ve) nl (cN sta) k (cN n) ol op os) (nl + 1 - (cN n))) (cN n) nl).1)) ((tkF (mkN (fun k => rmB (cN way) z g (cN ve) nl (cN sta) k (cN n) ol op os) (nl + 1 - (cN n))) (cN n) nl).1) (fb_ct (tdQ z g (cN ve) ((tkF (mkN (fun k => rmB (cN way) z g (cN ve) nl (cN sta) k (cN n) ol op os) (nl + 1 - (cN n))) (cN n) nl).1) nl) (8 * cN n)) (svM (bcN ((tkF (mkN (fun k => rmB (cN way) z g (cN ve) nl (cN sta) k (cN n) ol op os) (nl + 1 - (cN n))) (cN n) nl).1)) (cN n) (fb_ct (tdQ z g (cN ve) ((tkF (mkN (fun k => rmB (cN way) z g (cN ve) nl (cN sta) k (cN n) ol op os) (nl + 1 - (cN n))) (cN n) nl).1) nl) (8 * cN n))) wh) ∧ (∀ j, u.1 j ≤ 126) ∧ (∀ j, u.2 j ≤ 126)) (fun (u : (Nat → Nat) × (Nat → Nat)) => [(mo, .inr (8, [.int (nI ps), .ref mpa, .int (nI nl), .int (nI nv), .ref msz, .ref mcd, .ref mbe, .ref mba, .int ol, .int (nI op), .int (nI os), .int (nI svn), .ref ms1, .ref ms2, .ref ms3, .ref ms4, .ref mfa, .ref mim, .ref mik])), (mbe, aN cI 26 u.1), (mba, aN cI 26 u.2), (msz, aN cI 80 z), (mcd, aN cI 640 g)])) 0 0 (mA [(mo, .inr (8, [.int (nI ps), .ref mpa, .int (nI nl), .int (nI nv), .ref msz, .ref mcd, .ref mbe, .ref mba, .int ol, .int (nI op), .int (nI os), .int (nI svn), .ref ms1, .ref ms2, .ref ms3, .ref ms4, .ref mfa, .ref mim, .ref mik])), (mbe, aN cI 26 be), (mba, aN cI 26 ba), (msz, aN cI 80 z), (mcd, aN cI 640 g)]) := by
  refine Met.ofW (cc := cX8_pulled) (maxL := 7) (ret := (some .int)) (by decide) rfl ?_
  intro p e s m args below meth c s₁ BB hml hv
  obtain ⟨hargs, hP, hD0, hK⟩ := hv
  have hx := BB.exec
  have hb := BB.bytes
  have hr := BB.returns
  have hts := atoms_spec (ws := wsX8_pulled) BB.pre
  have hown : s.vm.findClass RX8 = some m.cls := findClass_of_methodNamed BB.named
  have hlocks := BB.notSynchronized
  have hcf : CallFix p m c cX8_pulled 7 s args wsX8_pulled RX8 := ⟨hx, hb, hml, hown, hts⟩
  obtain ⟨A, hAe⟩ : ∃ A, A = mA [(mo, .inr (8, [.int (nI ps), .ref mpa, .int (nI nl), .int (nI nv), .ref msz, .ref mcd, .ref mbe, .ref mba, .int ol, .int (nI op), .int (nI os), .int (nI svn), .ref ms1, .ref ms2, .ref ms3, .ref ms4, .ref mfa, .ref mim, .ref mik])), (mbe, aN cI 26 be), (mba, aN cI 26 ba), (msz, aN cI 80 z), (mcd, aN cI 640 g)] := ⟨_, rfl⟩
  have hD : va_D A [(mo, .inr (8, [.int (nI ps), .ref mpa, .int (nI nl), .int (nI nv), .ref msz, .ref mcd, .ref mbe, .ref mba, .int ol, .int (nI op), .int (nI os), .int (nI svn), .ref ms1, .ref ms2, .ref ms3, .ref ms4, .ref mfa, .ref mim, .ref mik])), (mbe, aN cI 26 be), (mba, aN cI 26 ba), (msz, aN cI 80 z), (mcd, aN cI 640 g)] := ⟨hD0.1, fun k q h => by rw [hAe]; exact ⟨k, q.2, h⟩⟩
  have hS : va_S A s.heap s.heap [] := va_S.rf
  rw [← hAe]
  rw [hargs, lg_entry_eq, ← hargs]
  have hl := lv_entry ([.ref mo, .int ve, .int way, .int sta, .int n, .int wh]) (n := 7) (Nat.le_of_ble_eq_true rfl)
  generalize (lg_sl ([.ref mo, .int ve, .int way, .int sta, .int n, .int wh]) ++ List.replicate (7 - (lg_sl ([.ref mo, .int ve, .int way, .int sta, .int n, .int wh])).length) Slot.unset).toArray = ls at hl ⊢
  have hl : lv_has ls 7 [(0, .ref mo), (1, .int ve), (2, .int way), (3, .int sta), (4, .int n), (5, .int wh)] := hl
  obtain ⟨Q, hQ⟩ : ∃ Q, Q = MQ below (mQi D A (fun (r : Int32) (u : (Nat → Nat) × (Nat → Nat)) => r = plQ nv ve (ixB way 3 && ixB sta 20 && lnB n && ixB wh 3) (plR (bcN ((tkF (mkN (fun k => rmB (cN way) z g (cN ve) nl (cN sta) k (cN n) ol op os) (nl + 1 - (cN n))) (cN n) nl).1)) ((tkF (mkN (fun k => rmB (cN way) z g (cN ve) nl (cN sta) k (cN n) ol op os) (nl + 1 - (cN n))) (cN n) nl).1) (fb_ct (tdQ z g (cN ve) ((tkF (mkN (fun k => rmB (cN way) z g (cN ve) nl (cN sta) k (cN n) ol op os) (nl + 1 - (cN n))) (cN n) nl).1) nl) (8 * cN n)) (svM (bcN ((tkF (mkN (fun k => rmB (cN way) z g (cN ve) nl (cN sta) k (cN n) ol op os) (nl + 1 - (cN n))) (cN n) nl).1)) (cN n) (fb_ct (tdQ z g (cN ve) ((tkF (mkN (fun k => rmB (cN way) z g (cN ve) nl (cN sta) k (cN n) ol op os) (nl + 1 - (cN n))) (cN n) nl).1) nl) (8 * cN n))) wh) ∧ (∀ j, u.1 j ≤ 126) ∧ (∀ j, u.2 j ≤ 126)) (fun (u : (Nat → Nat) × (Nat → Nat)) => [(mo, .inr (8, [.int (nI ps), .ref mpa, .int (nI nl), .int (nI nv), .ref msz, .ref mcd, .ref mbe, .ref mba, .int ol, .int (nI op), .int (nI os), .int (nI svn), .ref ms1, .ref ms2, .ref ms3, .ref ms4, .ref mfa, .ref mim, .ref mik])), (mbe, aN cI 26 u.1), (mba, aN cI 26 u.2), (msz, aN cI 80 z), (mcd, aN cI 640 g)])) args s 0 0 A := ⟨_, rfl⟩
  rw [← hQ]
  refine lv_aload_n hx hb dX8_pulled_0 rfl (lv_at hl 0 rfl) ?_
  refine lv_iload_n hx hb dX8_pulled_1 rfl (lv_at hl 1 rfl) ?_
  refine m_rdV (As := [.int ve]) (rest := []) (wc := [(mo, .inr (8, [.int (nI ps), .ref mpa, .int (nI nl), .int (nI nv), .ref msz, .ref mcd, .ref mbe, .ref mba, .int ol, .int (nI op), .int (nI os), .int (nI svn), .ref ms1, .ref ms2, .ref ms3, .ref ms4, .ref mfa, .ref mim, .ref mik]))]) hcf (k_X8_isVersion (l := l) (D := D) (cI := cI) (cZ := cZ) (x := ve) (mo := mo) (ps := ps) (mpa := mpa) (nl := nl) (nv := nv) (msz := msz) (mcd := mcd) (mbe := mbe) (mba := mba) (ol := ol) (op := op) (os := os) (svn := svn) (ms1 := ms1) (ms2 := ms2) (ms3 := ms3) (ms4 := ms4) (mfa := mfa) (mim := mim) (mik := mik) (hnl := hnl) (hnv := hnv)) (cwV 1 hts gX8_pulled_X8_isVersion rfl rfl rfl yd_X8_isVersion ⟨Nat.le_of_ble_eq_true rfl, Nat.le_of_ble_eq_true rfl⟩) (m_preV hK hP hD [0] (by decide) rfl rfl rfl) rfl hl.1 rfl (Nat.le_of_ble_eq_true rfl) dX8_pulled_2 ⟨Nat.zero_le _, Nat.zero_le _⟩ ?_
  refine m_ifB_ne (tgt := 12) hx hb dX8_pulled_5 (by decide) (fun c_5 => ?_) (fun c_5 => ?_)
  · obtain ⟨e_v, i_v⟩ := ixB_cN (by omega) c_5
    refine lv_iload_n hx hb dX8_pulled_12 rfl (lv_at hl 2 rfl) ?_
    refine m_rdS (As := [.int way]) (rest := []) (wc := []) hcf (k_X8_isWay (l := l) (D := D) (cI := cI) (cZ := cZ) (x := way) ) (va_cwS 1 hts gX8_pulled_X8_isWay rfl rfl rfl yd_X8_isWay.2 ⟨Nat.le_of_ble_eq_true rfl, Nat.le_of_ble_eq_true rfl⟩) (m_preS hK hP hD [] (by decide) rfl) rfl hl.1 rfl (Nat.le_of_ble_eq_true rfl) dX8_pulled_13 ⟨Nat.zero_le _, Nat.zero_le _⟩ ?_
    refine m_ifB_eq (tgt := 44) hx hb dX8_pulled_16 (by decide) (fun c_16 => ?_) (fun c_16 => ?_)
    · refine lv_sipush (v := (-1002)) hx hb dX8_pulled_44 (by decide) ?_
      rw [hQ]
      exact m_iwr hx hb hr hlocks (be, ba) (⟨by rw [plQ_o c_5 (by first | (simp [c_16, c_23, c_31, c_41]; done) | (simp [c_16]; done) | (simp [c_23]; done) | (simp [c_31]; done) | (simp [c_41]; done))], hbe, hba⟩) hP hS dX8_pulled_47
    · obtain ⟨e_w, i_w⟩ := ixB_cN (by decide) c_16
      refine lv_iload_n hx hb dX8_pulled_19 rfl (lv_at hl 3 rfl) ?_
      refine m_rdS (As := [.int sta]) (rest := []) (wc := []) hcf (k_X8_isStart (l := l) (D := D) (cI := cI) (cZ := cZ) (x := sta) ) (va_cwS 1 hts gX8_pulled_X8_isStart rfl rfl rfl yd_X8_isStart.2 ⟨Nat.le_of_ble_eq_true rfl, Nat.le_of_ble_eq_true rfl⟩) (m_preS hK hP hD [] (by decide) rfl) rfl hl.1 rfl (Nat.le_of_ble_eq_true rfl) dX8_pulled_20 ⟨Nat.zero_le _, Nat.zero_le _⟩ ?_
      refine m_ifB_eq (tgt := 44) hx hb dX8_pulled_23 (by decide) (fun c_23 => ?_) (fun c_23 => ?_)
      · refine lv_sipush (v := (-1002)) hx hb dX8_pulled_44 (by decide) ?_
        rw [hQ]
        exact m_iwr hx hb hr hlocks (be, ba) (⟨by rw [plQ_o c_5 (by first | (simp [c_16, c_23, c_31, c_41]; done) | (simp [c_16]; done) | (simp [c_23]; done) | (simp [c_31]; done) | (simp [c_41]; done))], hbe, hba⟩) hP hS dX8_pulled_47
      · obtain ⟨e_s, i_s⟩ := ixB_cN (by decide) c_23
        refine lv_iload hx hb dX8_pulled_26 (lv_at hl 4 rfl) ?_
        refine m_rdS (As := [.int n]) (rest := []) (wc := []) hcf (k_X8_isLength (l := l) (D := D) (cI := cI) (cZ := cZ) (x := n) ) (va_cwS 1 hts gX8_pulled_X8_isLength rfl rfl rfl yd_X8_isLength.2 ⟨Nat.le_of_ble_eq_true rfl, Nat.le_of_ble_eq_true rfl⟩) (m_preS hK hP hD [] (by decide) rfl) rfl hl.1 rfl (Nat.le_of_ble_eq_true rfl) dX8_pulled_28 ⟨Nat.zero_le _, Nat.zero_le _⟩ ?_
        refine m_ifB_eq (tgt := 44) hx hb dX8_pulled_31 (by decide) (fun c_31 => ?_) (fun c_31 => ?_)
        · refine lv_sipush (v := (-1002)) hx hb dX8_pulled_44 (by decide) ?_
          rw [hQ]
          exact m_iwr hx hb hr hlocks (be, ba) (⟨by rw [plQ_o c_5 (by first | (simp [c_16, c_23, c_31, c_41]; done) | (simp [c_16]; done) | (simp [c_23]; done) | (simp [c_31]; done) | (simp [c_41]; done))], hbe, hba⟩) hP hS dX8_pulled_47
        · obtain ⟨e_n, i_n, j_n⟩ := lnB_cN c_31
          refine lv_iload hx hb dX8_pulled_34 (lv_at hl 5 rfl) ?_
          refine lv_iconst (v := nI 0) hx hb dX8_pulled_36 (by decide) ?_
          refine lv_iconst (v := nI 2) hx hb dX8_pulled_37 (by decide) ?_
          refine m_rdS (As := [.int wh, .int (nI 0), .int (nI 2)]) (rest := []) (wc := []) hcf (k_X8_in (l := l) (D := D) (cI := cI) (cZ := cZ) (x := wh) (lo := nI 0) (hi := nI 2) ) (va_cwS 3 hts gX8_pulled_X8_in rfl rfl rfl yd_X8_in.2 ⟨Nat.le_of_ble_eq_true rfl, Nat.le_of_ble_eq_true rfl⟩) (m_preS hK hP hD [] (by decide) rfl) rfl hl.1 rfl (Nat.le_of_ble_eq_true rfl) dX8_pulled_38 ⟨Nat.zero_le _, Nat.zero_le _⟩ ?_
          refine m_top (y := bI (ixB wh 3)) (by rw [inB_ix0 (by decide)]) ?_
          refine m_ifB_ne (tgt := 48) hx hb dX8_pulled_41 (by decide) (fun c_41 => ?_) (fun c_41 => ?_)
          · have KI : (ixB way 3 && ixB sta 20 && lnB n && ixB wh 3) = true := by first | (simp [c_16, c_23, c_31, c_41]; done) | (simp [c_16]; done) | (simp [c_23]; done) | (simp [c_31]; done) | (simp [c_41]; done)
            have hl : lv_has ls 7 [(0, .ref mo), (1, .int (nI (cN ve))), (2, .int (nI (cN way))), (3, .int (nI (cN sta))), (4, .int (nI (cN n))), (5, .int wh)] := by rw [← e_v, ← e_w, ← e_s, ← e_n]; exact hl
            refine lv_aload_n hx hb dX8_pulled_48 rfl (lv_at hl 0 rfl) ?_
            refine lv_aload_n hx hb dX8_pulled_49 rfl (lv_at hl 0 rfl) ?_
            refine lv_iload_n hx hb dX8_pulled_50 rfl (lv_at hl 1 rfl) ?_
            refine lv_iload_n hx hb dX8_pulled_51 rfl (lv_at hl 2 rfl) ?_
            refine lv_iload_n hx hb dX8_pulled_52 rfl (lv_at hl 3 rfl) ?_
            refine lv_iload hx hb dX8_pulled_53 (lv_at hl 4 rfl) ?_
            refine m_wrV (As := [.int (nI (cN ve)), .int (nI (cN way)), .int (nI (cN sta)), .int (nI (cN n))]) (rest := [.ref mo]) (wc := [(mo, .inr (8, [.int (nI ps), .ref mpa, .int (nI nl), .int (nI nv), .ref msz, .ref mcd, .ref mbe, .ref mba, .int ol, .int (nI op), .int (nI os), .int (nI svn), .ref ms1, .ref ms2, .ref ms3, .ref ms4, .ref mfa, .ref mim, .ref mik])), (mbe, aN cI 26 be), (mba, aN cI 26 ba), (msz, aN cI 80 z), (mcd, aN cI 640 g)]) hcf (k_X8_likeOf (l := l) (D := D) (cI := cI) (cZ := cZ) (v := cN ve) (way := cN way) (sta := cN sta) (n := cN n) (mo := mo) (ps := ps) (mpa := mpa) (nl := nl) (nv := nv) (msz := msz) (mcd := mcd) (mbe := mbe) (mba := mba) (ol := ol) (op := op) (os := os) (svn := svn) (ms1 := ms1) (ms2 := ms2) (ms3 := ms3) (ms4 := ms4) (mfa := mfa) (mim := mim) (mik := mik) (be := be) (ba := ba) (z := z) (g := g) (hnl := hnl) (hnv := hnv) (hz := hz) (hg := hg) (hbe := hbe) (hba := hba) (hop := hop) (hos := hos) (hw := by omega) (hv := by omega) (h1 := by omega) (hn := by omega) (hn1 := by omega)) (cwV 4 hts gX8_pulled_X8_likeOf rfl rfl rfl yd_X8_likeOf ⟨Nat.le_of_ble_eq_true rfl, Nat.le_of_ble_eq_true rfl⟩) hK hP hD hS [0, 1, 2, 3, 4] (by decide) rfl rfl rfl rfl hl.1 rfl (Nat.le_of_ble_eq_true rfl) dX8_pulled_55 ⟨Nat.zero_le _, Nat.zero_le _⟩ (fun _ => rfl) (fun (u : (Nat → Nat) × (Nat → Nat)) => [(mo, .inr (8, [.int (nI ps), .ref mpa, .int (nI nl), .int (nI nv), .ref msz, .ref mcd, .ref mbe, .ref mba, .int ol, .int (nI op), .int (nI os), .int (nI svn), .ref ms1, .ref ms2, .ref ms3, .ref ms4, .ref mfa, .ref mim, .ref mik])), (mbe, aN cI 26 u.1), (mba, aN cI 26 u.2), (msz, aN cI 80 z), (mcd, aN cI 640 g)]) (fun _ => rfl) (fun r u H locs hp_55 hP hD hS => ?_)
            obtain ⟨beu_55, bau_55⟩ := u
            have hP : va_P D vwCl [(mo, .inr (8, [.int (nI ps), .ref mpa, .int (nI nl), .int (nI nv), .ref msz, .ref mcd, .ref mbe, .ref mba, .int ol, .int (nI op), .int (nI os), .int (nI svn), .ref ms1, .ref ms2, .ref ms3, .ref ms4, .ref mfa, .ref mim, .ref mik])), (mbe, aN cI 26 beu_55), (mba, aN cI 26 bau_55), (msz, aN cI 80 z), (mcd, aN cI 640 g)] H := hP
            have hD : va_D A [(mo, .inr (8, [.int (nI ps), .ref mpa, .int (nI nl), .int (nI nv), .ref msz, .ref mcd, .ref mbe, .ref mba, .int ol, .int (nI op), .int (nI os), .int (nI svn), .ref ms1, .ref ms2, .ref ms3, .ref ms4, .ref mfa, .ref mim, .ref mik])), (mbe, aN cI 26 beu_55), (mba, aN cI 26 bau_55), (msz, aN cI 80 z), (mcd, aN cI 640 g)] := hD
            try dsimp only at hp_55
            obtain ⟨hr_hp_55, hp_55⟩ := hp_55
            rw [hr_hp_55]
            refine lv_iload hx hb dX8_pulled_58 (lv_at hl 4 rfl) ?_
            refine m_rdV (As := [.int (nI (mkN (fun k => rmB (cN way) z g (cN ve) nl (cN sta) k (cN n) ol op os) (nl + 1 - (cN n)))), .int (nI (cN n))]) (rest := []) (wc := [(mo, .inr (8, [.int (nI ps), .ref mpa, .int (nI nl), .int (nI nv), .ref msz, .ref mcd, .ref mbe, .ref mba, .int ol, .int (nI op), .int (nI os), .int (nI svn), .ref ms1, .ref ms2, .ref ms3, .ref ms4, .ref mfa, .ref mim, .ref mik]))]) hcf (k_X8_takenOf (l := l) (D := D) (cI := cI) (cZ := cZ) (gr := mkN (fun k => rmB (cN way) z g (cN ve) nl (cN sta) k (cN n) ol op os) (nl + 1 - (cN n))) (n := cN n) (mo := mo) (ps := ps) (mpa := mpa) (nl := nl) (nv := nv) (msz := msz) (mcd := mcd) (mbe := mbe) (mba := mba) (ol := ol) (op := op) (os := os) (svn := svn) (ms1 := ms1) (ms2 := ms2) (ms3 := ms3) (ms4 := ms4) (mfa := mfa) (mim := mim) (mik := mik) (hnl := hnl) (hgr := lm_lt hnl i_n) (hn := by omega)) (cwV 2 hts gX8_pulled_X8_takenOf rfl rfl rfl yd_X8_takenOf ⟨Nat.le_of_ble_eq_true rfl, Nat.le_of_ble_eq_true rfl⟩) (m_preV hK hP hD [0] (by decide) rfl rfl rfl) rfl hl.1 rfl (Nat.le_of_ble_eq_true rfl) dX8_pulled_60 ⟨Nat.zero_le _, Nat.zero_le _⟩ ?_
            refine lv_istore (lv' := [(6, .int (nI ((tkF (mkN (fun k => rmB (cN way) z g (cN ve) nl (cN sta) k (cN n) ol op os) (nl + 1 - (cN n))) (cN n) nl).1))), (0, .ref mo), (1, .int (nI (cN ve))), (2, .int (nI (cN way))), (3, .int (nI (cN sta))), (4, .int (nI (cN n))), (5, .int wh)]) hx hb dX8_pulled_63 hl (by decide) rfl (fun ls hl => ?_)
            have hS9 : mkN (fun k => rmB (cN way) z g (cN ve) nl (cN sta) k (cN n) ol op os) (nl + 1 - (cN n)) < 2 ^ 20 := lm_lt hnl i_n
            have hte9 : ∀ t, ((tkF (mkN (fun k => rmB (cN way) z g (cN ve) nl (cN sta) k (cN n) ol op os) (nl + 1 - (cN n))) (cN n) nl).1).testBit t = true → t + cN n ≤ nl := fun t h => (lm_end (tk_sub h)).1
            have htk9 : (tkF (mkN (fun k => rmB (cN way) z g (cN ve) nl (cN sta) k (cN n) ol op os) (nl + 1 - (cN n))) (cN n) nl).1 < 2 ^ 20 := Nat.lt_of_lt_of_le (tkI_ok (gr := mkN (fun k => rmB (cN way) z g (cN ve) nl (cN sta) k (cN n) ol op os) (nl + 1 - (cN n))) (n := cN n) (fun t h => Nat.le_trans (lm_end h).1 hnl) nl).2.2.2.1 (Nat.pow_le_pow_right (by omega) hnl)
            have hbc := bcN_le ((tkF (mkN (fun k => rmB (cN way) z g (cN ve) nl (cN sta) k (cN n) ol op os) (nl + 1 - (cN n))) (cN n) nl).1)
            refine lv_iload hx hb dX8_pulled_65 (lv_at hl 0 rfl) ?_
            refine m_rdS (As := [.int (nI ((tkF (mkN (fun k => rmB (cN way) z g (cN ve) nl (cN sta) k (cN n) ol op os) (nl + 1 - (cN n))) (cN n) nl).1))]) (rest := []) (wc := []) hcf (k_X8_bits (l := l) (D := D) (cI := cI) (cZ := cZ) (x := (tkF (mkN (fun k => rmB (cN way) z g (cN ve) nl (cN sta) k (cN n) ol op os) (nl + 1 - (cN n))) (cN n) nl).1) (hx2 := htk9)) (va_cwS 1 hts gX8_pulled_X8_bits rfl rfl rfl yd_X8_bits.2 ⟨Nat.le_of_ble_eq_true rfl, Nat.le_of_ble_eq_true rfl⟩) (m_preS hK hP hD [] (by decide) rfl) rfl hl.1 rfl (Nat.le_of_ble_eq_true rfl) dX8_pulled_67 ⟨Nat.zero_le _, Nat.zero_le _⟩ ?_
            refine lv_iconst (v := nI 2) hx hb dX8_pulled_70 (by decide) ?_
            refine m_cmp_ge (tgt := 78) hx hb dX8_pulled_71 (by decide) (by omega) (by omega) (fun c_71 => ?_) (fun c_71 => ?_)
            · refine lv_iload hx hb dX8_pulled_78 (lv_at hl 6 rfl) ?_
              refine lv_if_ne (tgt := 88) hx hb dX8_pulled_80 (by decide) (fun c_80 => ?_) (fun c_80 => ?_)
              · refine lv_iload hx hb dX8_pulled_88 (lv_at hl 6 rfl) ?_
                refine lv_iconst (v := nI 1) hx hb dX8_pulled_90 (by decide) ?_
                refine lv_icmp_ne (tgt := 106) hx hb dX8_pulled_91 (by decide) (fun c_91 => ?_) (fun c_91 => ?_)
                · refine lv_aload_n hx hb dX8_pulled_106 rfl (lv_at hl 1 rfl) ?_
                  refine lv_iload_n hx hb dX8_pulled_107 rfl (lv_at hl 2 rfl) ?_
                  refine lv_iload hx hb dX8_pulled_108 (lv_at hl 0 rfl) ?_
                  refine lv_iload hx hb dX8_pulled_110 (lv_at hl 5 rfl) ?_
                  refine m_rdV (As := [.int (nI (cN ve)), .int (nI ((tkF (mkN (fun k => rmB (cN way) z g (cN ve) nl (cN sta) k (cN n) ol op os) (nl + 1 - (cN n))) (cN n) nl).1)), .int (nI (cN n))]) (rest := []) (wc := [(mo, .inr (8, [.int (nI ps), .ref mpa, .int (nI nl), .int (nI nv), .ref msz, .ref mcd, .ref mbe, .ref mba, .int ol, .int (nI op), .int (nI os), .int (nI svn), .ref ms1, .ref ms2, .ref ms3, .ref ms4, .ref mfa, .ref mim, .ref mik])), (msz, aN cI 80 z), (mcd, aN cI 640 g)]) hcf (k_X8_savesOf (l := l) (D := D) (cI := cI) (cZ := cZ) (v := cN ve) (tk := (tkF (mkN (fun k => rmB (cN way) z g (cN ve) nl (cN sta) k (cN n) ol op os) (nl + 1 - (cN n))) (cN n) nl).1) (n := cN n) (mo := mo) (ps := ps) (mpa := mpa) (nl := nl) (nv := nv) (msz := msz) (mcd := mcd) (mbe := mbe) (mba := mba) (ol := ol) (op := op) (os := os) (svn := svn) (ms1 := ms1) (ms2 := ms2) (ms3 := ms3) (ms4 := ms4) (mfa := mfa) (mim := mim) (mik := mik) (z := z) (g := g) (hnl := hnl) (hz := hz) (hg := hg) (htk := htk9) (hte := hte9) (hv := by omega) (hx3 := bc_ex (by omega)) (hn := by omega)) (cwV 3 hts gX8_pulled_X8_savesOf rfl rfl rfl yd_X8_savesOf ⟨Nat.le_of_ble_eq_true rfl, Nat.le_of_ble_eq_true rfl⟩) (m_preV hK hP hD [0, 3, 4] (by decide) rfl rfl rfl) rfl hl.1 rfl (Nat.le_of_ble_eq_true rfl) dX8_pulled_112 ⟨Nat.zero_le _, Nat.zero_le _⟩ ?_
                  rw [hQ]
                  exact m_iwr hx hb hr hlocks (beu_55, bau_55) (⟨by rw [plQ_v c_5 KI]; unfold plR; rw [if_neg (by omega), if_neg c_80, if_neg (show ¬ wh = 1 from c_91)], hp_55.1, hp_55.2⟩) hP hS dX8_pulled_115
                · refine lv_aload_n hx hb dX8_pulled_94 rfl (lv_at hl 1 rfl) ?_
                  refine lv_iload_n hx hb dX8_pulled_95 rfl (lv_at hl 2 rfl) ?_
                  refine lv_iload hx hb dX8_pulled_96 (lv_at hl 0 rfl) ?_
                  refine lv_iload hx hb dX8_pulled_98 (lv_at hl 5 rfl) ?_
                  refine m_rdV (As := [.int (nI (cN ve)), .int (nI ((tkF (mkN (fun k => rmB (cN way) z g (cN ve) nl (cN sta) k (cN n) ol op os) (nl + 1 - (cN n))) (cN n) nl).1)), .int (nI (cN n))]) (rest := []) (wc := [(mo, .inr (8, [.int (nI ps), .ref mpa, .int (nI nl), .int (nI nv), .ref msz, .ref mcd, .ref mbe, .ref mba, .int ol, .int (nI op), .int (nI os), .int (nI svn), .ref ms1, .ref ms2, .ref ms3, .ref ms4, .ref mfa, .ref mim, .ref mik])), (msz, aN cI 80 z), (mcd, aN cI 640 g)]) hcf (k_X8_toldOf (l := l) (D := D) (cI := cI) (cZ := cZ) (v := cN ve) (tk := (tkF (mkN (fun k => rmB (cN way) z g (cN ve) nl (cN sta) k (cN n) ol op os) (nl + 1 - (cN n))) (cN n) nl).1) (n := cN n) (mo := mo) (ps := ps) (mpa := mpa) (nl := nl) (nv := nv) (msz := msz) (mcd := mcd) (mbe := mbe) (mba := mba) (ol := ol) (op := op) (os := os) (svn := svn) (ms1 := ms1) (ms2 := ms2) (ms3 := ms3) (ms4 := ms4) (mfa := mfa) (mim := mim) (mik := mik) (z := z) (g := g) (hnl := hnl) (hz := hz) (hg := hg) (htk := htk9) (hte := hte9) (hv := by omega) (hx3 := bc_ex (by omega)) (hn := by omega)) (cwV 3 hts gX8_pulled_X8_toldOf rfl rfl rfl yd_X8_toldOf ⟨Nat.le_of_ble_eq_true rfl, Nat.le_of_ble_eq_true rfl⟩) (m_preV hK hP hD [0, 3, 4] (by decide) rfl rfl rfl) rfl hl.1 rfl (Nat.le_of_ble_eq_true rfl) dX8_pulled_100 ⟨Nat.zero_le _, Nat.zero_le _⟩ ?_
                  refine lv_goto (tgt := 115) hx hb dX8_pulled_103 (by decide) ?_
                  rw [hQ]
                  exact m_iwr hx hb hr hlocks (beu_55, bau_55) (⟨by rw [plQ_v c_5 KI]; unfold plR; rw [if_neg (by omega), if_neg c_80, if_pos (show wh = 1 from c_91)], hp_55.1, hp_55.2⟩) hP hS dX8_pulled_115
              · refine lv_iload hx hb dX8_pulled_83 (lv_at hl 0 rfl) ?_
                refine lv_goto (tgt := 115) hx hb dX8_pulled_85 (by decide) ?_
                rw [hQ]
                exact m_iwr hx hb hr hlocks (beu_55, bau_55) (⟨by rw [plQ_v c_5 KI]; unfold plR; rw [if_neg (by omega), if_pos c_80], hp_55.1, hp_55.2⟩) hP hS dX8_pulled_115
            · refine lv_sipush (v := (-1005)) hx hb dX8_pulled_74 (by decide) ?_
              rw [hQ]
              exact m_iwr hx hb hr hlocks (beu_55, bau_55) (⟨by rw [plQ_v c_5 KI]; unfold plR; rw [if_pos c_71], hp_55.1, hp_55.2⟩) hP hS dX8_pulled_77
          · refine lv_sipush (v := (-1002)) hx hb dX8_pulled_44 (by decide) ?_
            rw [hQ]
            exact m_iwr hx hb hr hlocks (be, ba) (⟨by rw [plQ_o c_5 (by first | (simp [c_16, c_23, c_31, c_41]; done) | (simp [c_16]; done) | (simp [c_23]; done) | (simp [c_31]; done) | (simp [c_41]; done))], hbe, hba⟩) hP hS dX8_pulled_47
  · refine lv_sipush (v := (-1001)) hx hb dX8_pulled_8 (by decide) ?_
    rw [hQ]
    exact m_iwr hx hb hr hlocks (be, ba) (⟨by rw [plQ_u c_5], hbe, hba⟩) hP hS dX8_pulled_11
