theorem yd_X8_alike : yX8_alike.cls = RX8 ∧ yX8_alike.cls ≠ "java/lang/invoke/MethodHandle" ∧ yX8_alike.cls ≠ "java/lang/invoke/VarHandle" ∧ (parseMethodDescriptor yX8_alike.desc).map (fun d => d.parameters.length) = some 5 := by decide +kernel
set_option maxHeartbeats 4000000 in
set_option maxRecDepth 100000 in
theorem k_X8_alike (l : Launch) (D : va_G) (cI cZ : ClassId) (mo ps mpa nl nv msz mcd mbe mba : Nat) (ol : Int32) (op os svn ms1 ms2 ms3 ms4 mfa mim mik : Nat) (be ba : Nat → Nat) (z g : Nat → Nat) (ve way one oth n : Int32) (hnl : nl ≤ 20) (hnv : nv ≤ 4) (hz : ∀ j, z j ≤ 8) (hg : ∀ j, g j ≤ 126) (hbe : ∀ j, be j ≤ 126) (hba : ∀ j, ba j ≤ 126) (hop : op ≤ 100) (hos : os ≤ 126) : Met l yX8_alike wsX8_alike ({ frames := 4, cells := 0, slots := 0, locals := 93 }) (mPc [.ref mo, .int ve, .int way, .int one, .int oth, .int n] D cI cZ [(mo, .inr (8, [.int (nI ps), .ref mpa, .int (nI nl), .int (nI nv), .ref msz, .ref mcd, .ref mbe, .ref mba, .int ol, .int (nI op), .int (nI os), .int (nI svn), .ref ms1, .ref ms2, .ref ms3, .ref ms4, .ref mfa, .ref mim, .ref mik])), (mbe, aN cI 26 be), (mba, aN cI 26 ba), (msz, aN cI 80 z), (mcd, aN cI 640 g)]) (mQi D (mA [(mo, .inr (8, [.int (nI ps), .ref mpa, .int (nI nl), .int (nI nv), .ref msz, .ref mcd, .ref mbe, .ref mba, .int ol, .int (nI op), .int (nI os), .int (nI svn), .ref ms1, .ref ms2, .ref ms3, .ref ms4, .ref mfa, .ref mim, .ref mik])), (mbe, aN cI 26 be), (mba, aN cI 26 ba), (msz, aN cI 80 z), (mcd, aN cI 640 g)]) (fun (r : Int32) (u : (Nat → Nat) × (Nat → Nat)) => r = rfQ nv ve (ixB way 3 && arB one oth n) (bI (rmB (cN way) z g (cN ve) nl (cN one) (cN oth) (cN n) ol op os)) ∧ (∀ j, u.1 j ≤ 126) ∧ (∀ j, u.2 j ≤ 126)) (fun (u : (Nat → Nat) × (Nat → Nat)) => [(mo, .inr (8, [.int (nI ps), .ref mpa, .int (nI nl), .int (nI nv), .ref msz, .ref mcd, .ref mbe, .ref mba, .int ol, .int (nI op), .int (nI os), .int (nI svn), .ref ms1, .ref ms2, .ref ms3, .ref ms4, .ref mfa, .ref mim, .ref mik])), (mbe, aN cI 26 u.1), (mba, aN cI 26 u.2), (msz, aN cI 80 z), (mcd, aN cI 640 g)])) 0 0 (mA [(mo, .inr (8, [.int (nI ps), .ref mpa, .int (nI nl), .int (nI nv), .ref msz, .ref mcd, .ref mbe, .ref mba, .int ol, .int (nI op), .int (nI os), .int (nI svn), .ref ms1, .ref ms2, .ref ms3, .ref ms4, .ref mfa, .ref mim, .ref mik])), (mbe, aN cI 26 be), (mba, aN cI 26 ba), (msz, aN cI 80 z), (mcd, aN cI 640 g)]) := by
  refine Met.ofW (cc := cX8_alike) (maxL := 6) (ret := (some .int)) (by decide) rfl ?_
  intro p e s m args below meth c s₁ BB hml hv
  obtain ⟨hargs, hP, hD0, hK⟩ := hv
  have hx := BB.exec
  have hb := BB.bytes
  have hr := BB.returns
  have hts := atoms_spec (ws := wsX8_alike) BB.pre
  have hown : s.vm.findClass RX8 = some m.cls := findClass_of_methodNamed BB.named
  have hlocks := BB.notSynchronized
  have hcf : CallFix p m c cX8_alike 6 s args wsX8_alike RX8 := ⟨hx, hb, hml, hown, hts⟩
  obtain ⟨A, hAe⟩ : ∃ A, A = mA [(mo, .inr (8, [.int (nI ps), .ref mpa, .int (nI nl), .int (nI nv), .ref msz, .ref mcd, .ref mbe, .ref mba, .int ol, .int (nI op), .int (nI os), .int (nI svn), .ref ms1, .ref ms2, .ref ms3, .ref ms4, .ref mfa, .ref mim, .ref mik])), (mbe, aN cI 26 be), (mba, aN cI 26 ba), (msz, aN cI 80 z), (mcd, aN cI 640 g)] := ⟨_, rfl⟩
  have hD : va_D A [(mo, .inr (8, [.int (nI ps), .ref mpa, .int (nI nl), .int (nI nv), .ref msz, .ref mcd, .ref mbe, .ref mba, .int ol, .int (nI op), .int (nI os), .int (nI svn), .ref ms1, .ref ms2, .ref ms3, .ref ms4, .ref mfa, .ref mim, .ref mik])), (mbe, aN cI 26 be), (mba, aN cI 26 ba), (msz, aN cI 80 z), (mcd, aN cI 640 g)] := ⟨hD0.1, fun k q h => by rw [hAe]; exact ⟨k, q.2, h⟩⟩
  have hS : va_S A s.heap s.heap [] := va_S.rf
  rw [← hAe]
  rw [hargs, lg_entry_eq, ← hargs]
  have hl := lv_entry ([.ref mo, .int ve, .int way, .int one, .int oth, .int n]) (n := 6) (Nat.le_of_ble_eq_true rfl)
  generalize (lg_sl ([.ref mo, .int ve, .int way, .int one, .int oth, .int n]) ++ List.replicate (6 - (lg_sl ([.ref mo, .int ve, .int way, .int one, .int oth, .int n])).length) Slot.unset).toArray = ls at hl ⊢
  have hl : lv_has ls 6 [(0, .ref mo), (1, .int ve), (2, .int way), (3, .int one), (4, .int oth), (5, .int n)] := hl
  obtain ⟨Q, hQ⟩ : ∃ Q, Q = MQ below (mQi D A (fun (r : Int32) (u : (Nat → Nat) × (Nat → Nat)) => r = rfQ nv ve (ixB way 3 && arB one oth n) (bI (rmB (cN way) z g (cN ve) nl (cN one) (cN oth) (cN n) ol op os)) ∧ (∀ j, u.1 j ≤ 126) ∧ (∀ j, u.2 j ≤ 126)) (fun (u : (Nat → Nat) × (Nat → Nat)) => [(mo, .inr (8, [.int (nI ps), .ref mpa, .int (nI nl), .int (nI nv), .ref msz, .ref mcd, .ref mbe, .ref mba, .int ol, .int (nI op), .int (nI os), .int (nI svn), .ref ms1, .ref ms2, .ref ms3, .ref ms4, .ref mfa, .ref mim, .ref mik])), (mbe, aN cI 26 u.1), (mba, aN cI 26 u.2), (msz, aN cI 80 z), (mcd, aN cI 640 g)])) args s 0 0 A := ⟨_, rfl⟩
  rw [← hQ]
  refine lv_aload_n hx hb dX8_alike_0 rfl (lv_at hl 0 rfl) ?_
  refine lv_iload_n hx hb dX8_alike_1 rfl (lv_at hl 1 rfl) ?_
  refine m_rdV (As := [.int ve]) (rest := []) (wc := [(mo, .inr (8, [.int (nI ps), .ref mpa, .int (nI nl), .int (nI nv), .ref msz, .ref mcd, .ref mbe, .ref mba, .int ol, .int (nI op), .int (nI os), .int (nI svn), .ref ms1, .ref ms2, .ref ms3, .ref ms4, .ref mfa, .ref mim, .ref mik]))]) hcf (k_X8_isVersion (l := l) (D := D) (cI := cI) (cZ := cZ) (x := ve) (mo := mo) (ps := ps) (mpa := mpa) (nl := nl) (nv := nv) (msz := msz) (mcd := mcd) (mbe := mbe) (mba := mba) (ol := ol) (op := op) (os := os) (svn := svn) (ms1 := ms1) (ms2 := ms2) (ms3 := ms3) (ms4 := ms4) (mfa := mfa) (mim := mim) (mik := mik) (hnl := hnl) (hnv := hnv)) (cwV 1 hts gX8_alike_X8_isVersion rfl rfl rfl yd_X8_isVersion ⟨Nat.le_of_ble_eq_true rfl, Nat.le_of_ble_eq_true rfl⟩) (m_preV hK hP hD [0] (by decide) rfl rfl rfl) rfl hl.1 rfl (Nat.le_of_ble_eq_true rfl) dX8_alike_2 ⟨Nat.zero_le _, Nat.zero_le _⟩ ?_
  refine m_ifB_ne (tgt := 10) hx hb dX8_alike_5 (by decide) (fun c_5 => ?_) (fun c_5 => ?_)
  · obtain ⟨e_v, i_v⟩ := ixB_cN (by omega) c_5
    refine lv_iload_n hx hb dX8_alike_10 rfl (lv_at hl 2 rfl) ?_
    refine lv_iload_n hx hb dX8_alike_11 rfl (lv_at hl 3 rfl) ?_
    refine lv_iload hx hb dX8_alike_12 (lv_at hl 4 rfl) ?_
    refine lv_iload hx hb dX8_alike_14 (lv_at hl 5 rfl) ?_
    refine m_rdS (As := [.int way, .int one, .int oth, .int n]) (rest := []) (wc := []) hcf (k_X8_areRows (l := l) (D := D) (cI := cI) (cZ := cZ) (way := way) (one := one) (oth := oth) (n := n) ) (va_cwS 4 hts gX8_alike_X8_areRows rfl rfl rfl yd_X8_areRows.2 ⟨Nat.le_of_ble_eq_true rfl, Nat.le_of_ble_eq_true rfl⟩) (m_preS hK hP hD [] (by decide) rfl) rfl hl.1 rfl (Nat.le_of_ble_eq_true rfl) dX8_alike_16 ⟨Nat.zero_le _, Nat.zero_le _⟩ ?_
    refine m_ifB_ne (tgt := 27) hx hb dX8_alike_19 (by decide) (fun c_19 => ?_) (fun c_19 => ?_)
    · obtain ⟨K1, K2, K3⟩ := arB_iff.mp (Bool.and_eq_true_iff.mp c_19).2
      obtain ⟨e_w, i_w⟩ := ixB_cN (by decide) (Bool.and_eq_true_iff.mp c_19).1
      obtain ⟨e_1, i_1⟩ := ixB_cN (by decide) K1
      obtain ⟨e_2, i_2⟩ := ixB_cN (by decide) K2
      obtain ⟨e_n, i_n, j_n⟩ := lnB_cN K3
      have hl : lv_has ls 6 [(0, .ref mo), (1, .int (nI (cN ve))), (2, .int (nI (cN way))), (3, .int (nI (cN one))), (4, .int (nI (cN oth))), (5, .int (nI (cN n)))] := by rw [← e_v, ← e_w, ← e_1, ← e_2, ← e_n]; exact hl
      refine lv_aload_n hx hb dX8_alike_27 rfl (lv_at hl 0 rfl) ?_
      refine lv_iload_n hx hb dX8_alike_28 rfl (lv_at hl 1 rfl) ?_
      refine lv_iload_n hx hb dX8_alike_29 rfl (lv_at hl 2 rfl) ?_
      refine lv_iload_n hx hb dX8_alike_30 rfl (lv_at hl 3 rfl) ?_
      refine lv_iload hx hb dX8_alike_31 (lv_at hl 4 rfl) ?_
      refine lv_iload hx hb dX8_alike_33 (lv_at hl 5 rfl) ?_
      refine m_wrV (As := [.int (nI (cN ve)), .int (nI (cN way)), .int (nI (cN one)), .int (nI (cN oth)), .int (nI (cN n))]) (rest := []) (wc := [(mo, .inr (8, [.int (nI ps), .ref mpa, .int (nI nl), .int (nI nv), .ref msz, .ref mcd, .ref mbe, .ref mba, .int ol, .int (nI op), .int (nI os), .int (nI svn), .ref ms1, .ref ms2, .ref ms3, .ref ms4, .ref mfa, .ref mim, .ref mik])), (mbe, aN cI 26 be), (mba, aN cI 26 ba), (msz, aN cI 80 z), (mcd, aN cI 640 g)]) hcf (k_X8_rowsAlike (l := l) (D := D) (cI := cI) (cZ := cZ) (v := cN ve) (way := cN way) (one := cN one) (oth := cN oth) (n := cN n) (mo := mo) (ps := ps) (mpa := mpa) (nl := nl) (nv := nv) (msz := msz) (mcd := mcd) (mbe := mbe) (mba := mba) (ol := ol) (op := op) (os := os) (svn := svn) (ms1 := ms1) (ms2 := ms2) (ms3 := ms3) (ms4 := ms4) (mfa := mfa) (mim := mim) (mik := mik) (be := be) (ba := ba) (z := z) (g := g) (hnl := hnl) (hnv := hnv) (hz := hz) (hg := hg) (hbe := hbe) (hba := hba) (hw := by omega) (hv := by omega) (h1 := by omega) (h2 := by omega) (hn := by omega) (hop := hop) (hos := hos)) (cwV 5 hts gX8_alike_X8_rowsAlike rfl rfl rfl yd_X8_rowsAlike ⟨Nat.le_of_ble_eq_true rfl, Nat.le_of_ble_eq_true rfl⟩) hK hP hD hS [0, 1, 2, 3, 4] (by decide) rfl rfl rfl rfl hl.1 rfl (Nat.le_of_ble_eq_true rfl) dX8_alike_35 ⟨Nat.zero_le _, Nat.zero_le _⟩ (fun _ => rfl) (fun (u : (Nat → Nat) × (Nat → Nat)) => [(mo, .inr (8, [.int (nI ps), .ref mpa, .int (nI nl), .int (nI nv), .ref msz, .ref mcd, .ref mbe, .ref mba, .int ol, .int (nI op), .int (nI os), .int (nI svn), .ref ms1, .ref ms2, .ref ms3, .ref ms4, .ref mfa, .ref mim, .ref mik])), (mbe, aN cI 26 u.1), (mba, aN cI 26 u.2), (msz, aN cI 80 z), (mcd, aN cI 640 g)]) (fun _ => rfl) (fun r u H locs hp_35 hP hD hS => ?_)
      obtain ⟨beu_35, bau_35⟩ := u
      have hP : va_P D vwCl [(mo, .inr (8, [.int (nI ps), .ref mpa, .int (nI nl), .int (nI nv), .ref msz, .ref mcd, .ref mbe, .ref mba, .int ol, .int (nI op), .int (nI os), .int (nI svn), .ref ms1, .ref ms2, .ref ms3, .ref ms4, .ref mfa, .ref mim, .ref mik])), (mbe, aN cI 26 beu_35), (mba, aN cI 26 bau_35), (msz, aN cI 80 z), (mcd, aN cI 640 g)] H := hP
      have hD : va_D A [(mo, .inr (8, [.int (nI ps), .ref mpa, .int (nI nl), .int (nI nv), .ref msz, .ref mcd, .ref mbe, .ref mba, .int ol, .int (nI op), .int (nI os), .int (nI svn), .ref ms1, .ref ms2, .ref ms3, .ref ms4, .ref mfa, .ref mim, .ref mik])), (mbe, aN cI 26 beu_35), (mba, aN cI 26 bau_35), (msz, aN cI 80 z), (mcd, aN cI 640 g)] := hD
      try dsimp only at hp_35
      obtain ⟨hr_hp_35, hp_35⟩ := hp_35
      rw [hr_hp_35]
      refine m_ifB_eq (tgt := 45) hx hb dX8_alike_38 (by decide) (fun c_38 => ?_) (fun c_38 => ?_)
      · refine lv_iconst (v := nI 0) hx hb dX8_alike_45 (by decide) ?_
        rw [hQ]
        exact m_iwr hx hb hr hlocks (beu_35, bau_35) (⟨by rw [rfQ_v c_5 c_19]; exact bb_zero c_38, hp_35.2.1, hp_35.2.2⟩) hP hS dX8_alike_46
      · refine lv_iconst (v := nI 1) hx hb dX8_alike_41 (by decide) ?_
        refine lv_goto (tgt := 46) hx hb dX8_alike_42 (by decide) ?_
        rw [hQ]
        exact m_iwr hx hb hr hlocks (beu_35, bau_35) (⟨by rw [rfQ_v c_5 c_19]; exact bb_one c_38, hp_35.2.1, hp_35.2.2⟩) hP hS dX8_alike_46
    · refine lv_bipush (v := (-2)) hx hb dX8_alike_22 (by decide) ?_
      refine lv_goto (tgt := 46) hx hb dX8_alike_24 (by decide) ?_
      rw [hQ]
      exact m_iwr hx hb hr hlocks (be, ba) (⟨by rw [rfQ_o c_5 c_19], hbe, hba⟩) hP hS dX8_alike_46
  · refine lv_iconst (v := (-1)) hx hb dX8_alike_8 (by decide) ?_
    rw [hQ]
    exact m_iwr hx hb hr hlocks (be, ba) (⟨by rw [rfQ_u c_5], hbe, hba⟩) hP hS dX8_alike_9

theorem yd_X8_likeOf : yX8_likeOf.cls = RX8 ∧ yX8_likeOf.cls ≠ "java/lang/invoke/MethodHandle" ∧ yX8_likeOf.cls ≠ "java/lang/invoke/VarHandle" ∧ (parseMethodDescriptor yX8_likeOf.desc).map (fun d => d.parameters.length) = some 4 := by decide +kernel
set_option maxHeartbeats 4000000 in
set_option maxRecDepth 100000 in
theorem k_X8_likeOf (l : Launch) (D : va_G) (cI cZ : ClassId) (mo ps mpa nl nv msz mcd mbe mba : Nat) (ol : Int32) (op os svn ms1 ms2 ms3 ms4 mfa mim mik : Nat) (be ba : Nat → Nat) (z g : Nat → Nat) (v way sta n : Nat) (hnl : nl ≤ 20) (hnv : nv ≤ 4) (hz : ∀ j, z j ≤ 8) (hg : ∀ j, g j ≤ 126) (hbe : ∀ j, be j ≤ 126) (hba : ∀ j, ba j ≤ 126) (hop : op ≤ 100) (hos : os ≤ 126) (hw : way ≤ 2) (hv : v < 4) (h1 : sta ≤ 20) (hn : n ≤ 21) (hn1 : 1 ≤ n) : Met l yX8_likeOf wsX8_likeOf ({ frames := 4, cells := 0, slots := 0, locals := 93 }) (mPc [.ref mo, .int (nI v), .int (nI way), .int (nI sta), .int (nI n)] D cI cZ [(mo, .inr (8, [.int (nI ps), .ref mpa, .int (nI nl), .int (nI nv), .ref msz, .ref mcd, .ref mbe, .ref mba, .int ol, .int (nI op), .int (nI os), .int (nI svn), .ref ms1, .ref ms2, .ref ms3, .ref ms4, .ref mfa, .ref mim, .ref mik])), (mbe, aN cI 26 be), (mba, aN cI 26 ba), (msz, aN cI 80 z), (mcd, aN cI 640 g)]) (mQi D (mA [(mo, .inr (8, [.int (nI ps), .ref mpa, .int (nI nl), .int (nI nv), .ref msz, .ref mcd, .ref mbe, .ref mba, .int ol, .int (nI op), .int (nI os), .int (nI svn), .ref ms1, .ref ms2, .ref ms3, .ref ms4, .ref mfa, .ref mim, .ref mik])), (mbe, aN cI 26 be), (mba, aN cI 26 ba), (msz, aN cI 80 z), (mcd, aN cI 640 g)]) (fun (r : Int32) (u : (Nat → Nat) × (Nat → Nat)) => r = nI (mkN (fun k => rmB way z g v nl sta k n ol op os) (nl + 1 - n)) ∧ (∀ j, u.1 j ≤ 126) ∧ (∀ j, u.2 j ≤ 126)) (fun (u : (Nat → Nat) × (Nat → Nat)) => [(mo, .inr (8, [.int (nI ps), .ref mpa, .int (nI nl), .int (nI nv), .ref msz, .ref mcd, .ref mbe, .ref mba, .int ol, .int (nI op), .int (nI os), .int (nI svn), .ref ms1, .ref ms2, .ref ms3, .ref ms4, .ref mfa, .ref mim, .ref mik])), (mbe, aN cI 26 u.1), (mba, aN cI 26 u.2), (msz, aN cI 80 z), (mcd, aN cI 640 g)])) 0 0 (mA [(mo, .inr (8, [.int (nI ps), .ref mpa, .int (nI nl), .int (nI nv), .ref msz, .ref mcd, .ref mbe, .ref mba, .int ol, .int (nI op), .int (nI os), .int (nI svn), .ref ms1, .ref ms2, .ref ms3, .ref ms4, .ref mfa, .ref mim, .ref mik])), (mbe, aN cI 26 be), (mba, aN cI 26 ba), (msz, aN cI 80 z), (mcd, aN cI 640 g)]) := by
  refine Met.ofW (cc := cX8_likeOf) (maxL := 7) (ret := (some .int)) (by decide) rfl ?_
  intro p e s m args below meth c s₁ BB hml hv
  obtain ⟨hargs, hP, hD0, hK⟩ := hv
  have hx := BB.exec
  have hb := BB.bytes
  have hr := BB.returns
  have hts := atoms_spec (ws := wsX8_likeOf) BB.pre
  have hown : s.vm.findClass RX8 = some m.cls := findClass_of_methodNamed BB.named
  have hlocks := BB.notSynchronized
  have hcf : CallFix p m c cX8_likeOf 7 s args wsX8_likeOf RX8 := ⟨hx, hb, hml, hown, hts⟩
  obtain ⟨A, hAe⟩ : ∃ A, A = mA [(mo, .inr (8, [.int (nI ps), .ref mpa, .int (nI nl), .int (nI nv), .ref msz, .ref mcd, .ref mbe, .ref mba, .int ol, .int (nI op), .int (nI os), .int (nI svn), .ref ms1, .ref ms2, .ref ms3, .ref ms4, .ref mfa, .ref mim, .ref mik])), (mbe, aN cI 26 be), (mba, aN cI 26 ba), (msz, aN cI 80 z), (mcd, aN cI 640 g)] := ⟨_, rfl⟩
  have hD : va_D A [(mo, .inr (8, [.int (nI ps), .ref mpa, .int (nI nl), .int (nI nv), .ref msz, .ref mcd, .ref mbe, .ref mba, .int ol, .int (nI op), .int (nI os), .int (nI svn), .ref ms1, .ref ms2, .ref ms3, .ref ms4, .ref mfa, .ref mim, .ref mik])), (mbe, aN cI 26 be), (mba, aN cI 26 ba), (msz, aN cI 80 z), (mcd, aN cI 640 g)] := ⟨hD0.1, fun k q h => by rw [hAe]; exact ⟨k, q.2, h⟩⟩
  have hS : va_S A s.heap s.heap [] := va_S.rf
  rw [← hAe]
  rw [hargs, lg_entry_eq, ← hargs]
  have hl := lv_entry ([.ref mo, .int (nI v), .int (nI way), .int (nI sta), .int (nI n)]) (n := 7) (Nat.le_of_ble_eq_true rfl)
  generalize (lg_sl ([.ref mo, .int (nI v), .int (nI way), .int (nI sta), .int (nI n)]) ++ List.replicate (7 - (lg_sl ([.ref mo, .int (nI v), .int (nI way), .int (nI sta), .int (nI n)])).length) Slot.unset).toArray = ls at hl ⊢
  have hl : lv_has ls 7 [(0, .ref mo), (1, .int (nI v)), (2, .int (nI way)), (3, .int (nI sta)), (4, .int (nI n))] := hl
  obtain ⟨Q, hQ⟩ : ∃ Q, Q = MQ below (mQi D A (fun (r : Int32) (u : (Nat → Nat) × (Nat → Nat)) => r = nI (mkN (fun k => rmB way z g v nl sta k n ol op os) (nl + 1 - n)) ∧ (∀ j, u.1 j ≤ 126) ∧ (∀ j, u.2 j ≤ 126)) (fun (u : (Nat → Nat) × (Nat → Nat)) => [(mo, .inr (8, [.int (nI ps), .ref mpa, .int (nI nl), .int (nI nv), .ref msz, .ref mcd, .ref mbe, .ref mba, .int ol, .int (nI op), .int (nI os), .int (nI svn), .ref ms1, .ref ms2, .ref ms3, .ref ms4, .ref mfa, .ref mim, .ref mik])), (mbe, aN cI 26 u.1), (mba, aN cI 26 u.2), (msz, aN cI 80 z), (mcd, aN cI 640 g)])) args s 0 0 A := ⟨_, rfl⟩
  rw [← hQ]
  have i_X8 : ∀ w ∈ u_ws RX8 TX8 19, w ∈ wsX8_likeOf := by decide +kernel
  have f_58 := hts (.fieldLink RX8 58 "SameAgainModel" "lines" "I") (by decide +kernel)
  refine lv_iconst (v := nI 0) hx hb dX8_likeOf_0 (by decide) ?_
  refine lv_istore (lv' := [(5, .int (nI 0)), (0, .ref mo), (1, .int (nI v)), (2, .int (nI way)), (3, .int (nI sta)), (4, .int (nI n))]) hx hb dX8_likeOf_1 hl (by decide) rfl (fun ls hl => ?_)
  refine lv_iconst (v := nI 0) hx hb dX8_likeOf_3 (by decide) ?_
  refine lv_istore (lv' := [(6, .int (nI 0)), (5, .int (nI 0)), (0, .ref mo), (1, .int (nI v)), (2, .int (nI way)), (3, .int (nI sta)), (4, .int (nI n))]) hx hb dX8_likeOf_4 hl (by decide) rfl (fun ls hl => ?_)
  have loop_6 : ∀ (fu : Nat) (k f : Nat) (b1 b2 : Nat → Nat) (hfu : nl + 1 - n - k < fu)  (hk : k ≤ nl + 1 - n) (hb1 : ∀ j, b1 j ≤ 126) (hb2 : ∀ j, b2 j ≤ 126) (hf : f = mkN (fun k => rmB way z g v nl sta k n ol op os) k) (H : Heap) (locs : List Loc) (hP : va_P D vwCl [(mo, .inr (8, [.int (nI ps), .ref mpa, .int (nI nl), .int (nI nv), .ref msz, .ref mcd, .ref mbe, .ref mba, .int ol, .int (nI op), .int (nI os), .int (nI svn), .ref ms1, .ref ms2, .ref ms3, .ref ms4, .ref mfa, .ref mim, .ref mik])), (mbe, aN cI 26 b1), (mba, aN cI 26 b2), (msz, aN cI 80 z), (mcd, aN cI 640 g)] H) (hD : va_D A [(mo, .inr (8, [.int (nI ps), .ref mpa, .int (nI nl), .int (nI nv), .ref msz, .ref mcd, .ref mbe, .ref mba, .int ol, .int (nI op), .int (nI os), .int (nI svn), .ref ms1, .ref ms2, .ref ms3, .ref ms4, .ref mfa, .ref mim, .ref mik])), (mbe, aN cI 26 b1), (mba, aN cI 26 b2), (msz, aN cI 80 z), (mcd, aN cI 640 g)]) (hS : va_S A s.heap H locs) (ls : Array Slot) (hl : lv_has ls 7 [(0, .ref mo), (1, .int (nI v)), (2, .int (nI way)), (3, .int (nI sta)), (4, .int (nI n)), (5, .int (nI f)), (6, .int (nI k))]), W p l e (headSpec wsX8_likeOf { frames := 4, cells := 0, slots := 0, locals := 93 }).room s m args below meth c H locs 0 0 Q (F0 m 6 ls []) := by
    intro fu
    induction fu with
    | zero => intro k f b1 b2 hfu; exact absurd hfu (Nat.not_lt_zero _)
    | succ fu ih_6 =>
      intro k f b1 b2 hfu hk hb1 hb2 hf H locs hP hD hS ls hl
      refine lv_iload hx hb dX8_likeOf_6 (lv_at hl 6 rfl) ?_
      refine lv_iload hx hb dX8_likeOf_8 (lv_at hl 4 rfl) ?_
      refine m_add hx hb dX8_likeOf_10 ?_
      refine lv_aload_n hx hb dX8_likeOf_11 rfl (lv_at hl 0 rfl) ?_
      refine va_get (D := D) (ci := 8) (v := .int (nI nl)) (C := RX8) (T := TX8) (N := 19) hx hb hts i_X8 hown hK.1 hP 0 rfl rfl 2 (by decide) f_58 (fun _ h9 => h9) rfl dX8_likeOf_12 ?_
      refine m_cmp_gt (tgt := 61) hx hb dX8_likeOf_15 (by decide) (by omega) (by omega) (fun c_15 => ?_) (fun c_15 => ?_)
      · refine lv_iload hx hb dX8_likeOf_61 (lv_at hl 5 rfl) ?_
        rw [hQ]
        have E9 : f = mkN (fun k => rmB way z g v nl sta k n ol op os) (nl + 1 - n) := by
          first
          | (have e9 : k = nl + 1 - n := by omega
             rw [hf, e9]; done)
          | (have e8 := of_decide_eq_false c_25
             rw [hf, mkN_0 (fun j hj => by unfold rmB; rw [decide_eq_false e8]; rfl), mkN_0 (fun j hj => by unfold rmB; rw [decide_eq_false e8]; rfl)])
        exact m_iwr hx hb hr hlocks (b1, b2) (⟨by rw [E9], hb1, hb2⟩) hP hS dX8_likeOf_63
      · refine lv_aload_n hx hb dX8_likeOf_18 rfl (lv_at hl 0 rfl) ?_
        refine lv_iload_n hx hb dX8_likeOf_19 rfl (lv_at hl 3 rfl) ?_
        refine lv_iload hx hb dX8_likeOf_20 (lv_at hl 4 rfl) ?_
        refine m_rdV (As := [.int (nI sta), .int (nI n)]) (rest := []) (wc := [(mo, .inr (8, [.int (nI ps), .ref mpa, .int (nI nl), .int (nI nv), .ref msz, .ref mcd, .ref mbe, .ref mba, .int ol, .int (nI op), .int (nI os), .int (nI svn), .ref ms1, .ref ms2, .ref ms3, .ref ms4, .ref mfa, .ref mim, .ref mik]))]) hcf (k_X8_isThere (l := l) (D := D) (cI := cI) (cZ := cZ) (sta := sta) (n := n) (mo := mo) (ps := ps) (mpa := mpa) (nl := nl) (nv := nv) (msz := msz) (mcd := mcd) (mbe := mbe) (mba := mba) (ol := ol) (op := op) (os := os) (svn := svn) (ms1 := ms1) (ms2 := ms2) (ms3 := ms3) (ms4 := ms4) (mfa := mfa) (mim := mim) (mik := mik) (hnl := hnl) (h1 := by omega) (hn := by omega)) (cwV 2 hts gX8_likeOf_X8_isThere rfl rfl rfl yd_X8_isThere ⟨Nat.le_of_ble_eq_true rfl, Nat.le_of_ble_eq_true rfl⟩) (m_preV hK hP hD [0] (by decide) rfl rfl rfl) rfl hl.1 rfl (Nat.le_of_ble_eq_true rfl) dX8_likeOf_22 ⟨Nat.zero_le _, Nat.zero_le _⟩ ?_
        refine m_ifB_eq (tgt := 61) hx hb dX8_likeOf_25 (by decide) (fun c_25 => ?_) (fun c_25 => ?_)
        · refine lv_iload hx hb dX8_likeOf_61 (lv_at hl 5 rfl) ?_
          rw [hQ]
          have E9 : f = mkN (fun k => rmB way z g v nl sta k n ol op os) (nl + 1 - n) := by
            first
            | (have e9 : k = nl + 1 - n := by omega
               rw [hf, e9]; done)
            | (have e8 := of_decide_eq_false c_25
               rw [hf, mkN_0 (fun j hj => by unfold rmB; rw [decide_eq_false e8]; rfl), mkN_0 (fun j hj => by unfold rmB; rw [decide_eq_false e8]; rfl)])
          exact m_iwr hx hb hr hlocks (b1, b2) (⟨by rw [E9], hb1, hb2⟩) hP hS dX8_likeOf_63
        · refine lv_iload hx hb dX8_likeOf_28 (lv_at hl 5 rfl) ?_
          refine lv_aload_n hx hb dX8_likeOf_30 rfl (lv_at hl 0 rfl) ?_
          refine lv_iload_n hx hb dX8_likeOf_31 rfl (lv_at hl 1 rfl) ?_
          refine lv_iload_n hx hb dX8_likeOf_32 rfl (lv_at hl 2 rfl) ?_
          refine lv_iload_n hx hb dX8_likeOf_33 rfl (lv_at hl 3 rfl) ?_
          refine lv_iload hx hb dX8_likeOf_34 (lv_at hl 6 rfl) ?_
          refine lv_iload hx hb dX8_likeOf_36 (lv_at hl 4 rfl) ?_
          refine m_wrV (As := [.int (nI v), .int (nI way), .int (nI sta), .int (nI k), .int (nI n)]) (rest := [.int (nI f)]) (wc := [(mo, .inr (8, [.int (nI ps), .ref mpa, .int (nI nl), .int (nI nv), .ref msz, .ref mcd, .ref mbe, .ref mba, .int ol, .int (nI op), .int (nI os), .int (nI svn), .ref ms1, .ref ms2, .ref ms3, .ref ms4, .ref mfa, .ref mim, .ref mik])), (mbe, aN cI 26 b1), (mba, aN cI 26 b2), (msz, aN cI 80 z), (mcd, aN cI 640 g)]) hcf (k_X8_rowsAlike (l := l) (D := D) (cI := cI) (cZ := cZ) (v := v) (way := way) (one := sta) (oth := k) (n := n) (mo := mo) (ps := ps) (mpa := mpa) (nl := nl) (nv := nv) (msz := msz) (mcd := mcd) (mbe := mbe) (mba := mba) (ol := ol) (op := op) (os := os) (svn := svn) (ms1 := ms1) (ms2 := ms2) (ms3 := ms3) (ms4 := ms4) (mfa := mfa) (mim := mim) (mik := mik) (be := b1) (ba := b2) (z := z) (g := g) (hnl := hnl) (hnv := hnv) (hz := hz) (hg := hg) (hbe := hb1) (hba := hb2) (hw := hw) (hv := hv) (h1 := h1) (h2 := by omega) (hn := hn) (hop := hop) (hos := hos)) (cwV 5 hts gX8_likeOf_X8_rowsAlike rfl rfl rfl yd_X8_rowsAlike ⟨Nat.le_of_ble_eq_true rfl, Nat.le_of_ble_eq_true rfl⟩) hK hP hD hS [0, 1, 2, 3, 4] (by decide) rfl rfl rfl rfl hl.1 rfl (Nat.le_of_ble_eq_true rfl) dX8_likeOf_38 ⟨Nat.zero_le _, Nat.zero_le _⟩ (fun _ => rfl) (fun (u : (Nat → Nat) × (Nat → Nat)) => [(mo, .inr (8, [.int (nI ps), .ref mpa, .int (nI nl), .int (nI nv), .ref msz, .ref mcd, .ref mbe, .ref mba, .int ol, .int (nI op), .int (nI os), .int (nI svn), .ref ms1, .ref ms2, .ref ms3, .ref ms4, .ref mfa, .ref mim, .ref mik])), (mbe, aN cI 26 u.1), (mba, aN cI 26 u.2), (msz, aN cI 80 z), (mcd, aN cI 640 g)]) (fun _ => rfl) (fun r u H locs hp_38 hP hD hS => ?_)
          obtain ⟨beu_38, bau_38⟩ := u
          have hP : va_P D vwCl [(mo, .inr (8, [.int (nI ps), .ref mpa, .int (nI nl), .int (nI nv), .ref msz, .ref mcd, .ref mbe, .ref mba, .int ol, .int (nI op), .int (nI os), .int (nI svn), .ref ms1, .ref ms2, .ref ms3, .ref ms4, .ref mfa, .ref mim, .ref mik])), (mbe, aN cI 26 beu_38), (mba, aN cI 26 bau_38), (msz, aN cI 80 z), (mcd, aN cI 640 g)] H := hP
          have hD : va_D A [(mo, .inr (8, [.int (nI ps), .ref mpa, .int (nI nl), .int (nI nv), .ref msz, .ref mcd, .ref mbe, .ref mba, .int ol, .int (nI op), .int (nI os), .int (nI svn), .ref ms1, .ref ms2, .ref ms3, .ref ms4, .ref mfa, .ref mim, .ref mik])), (mbe, aN cI 26 beu_38), (mba, aN cI 26 bau_38), (msz, aN cI 80 z), (mcd, aN cI 640 g)] := hD
          try dsimp only at hp_38
          obtain ⟨hr_hp_38, hp_38⟩ := hp_38
          rw [hr_hp_38]
          refine m_ifB_eq (tgt := 51) hx hb dX8_likeOf_41 (by decide) (fun c_41 => ?_) (fun c_41 => ?_)
          · refine lv_iconst (v := nI 0) hx hb dX8_likeOf_51 (by decide) ?_
            refine m_or hx hb dX8_likeOf_52 ?_
            refine lv_istore (lv' := [(5, .int (nI (f ||| 0))), (0, .ref mo), (1, .int (nI v)), (2, .int (nI way)), (3, .int (nI sta)), (4, .int (nI n)), (6, .int (nI k))]) hx hb dX8_likeOf_53 hl (by decide) rfl (fun ls hl => ?_)
            refine lv_iinc (v := nI (k + 1)) (lv' := [(6, .int (nI (k + 1))), (5, .int (nI (f ||| 0))), (0, .ref mo), (1, .int (nI v)), (2, .int (nI way)), (3, .int (nI sta)), (4, .int (nI n))]) hx hb dX8_likeOf_55 hl (k := 6) rfl ((nI_succ _).symm) (by decide) rfl (fun ls hl => ?_)
            refine lv_goto (tgt := 6) hx hb dX8_likeOf_58 (by decide) ?_
            exact ih_6 (k + 1) _ _ _ (by omega) (by omega) hp_38.2.1 hp_38.2.2 (by rw [Nat.or_zero, hf]; exact mkN_f c_41) _ _ hP hD hS ls (lv_sub hl [2, 3, 4, 5, 6, 1, 0] rfl)
          · refine lv_iconst (v := nI 1) hx hb dX8_likeOf_44 (by decide) ?_
            refine lv_iload hx hb dX8_likeOf_45 (lv_at hl 6 rfl) ?_
            refine m_shl1 hx hb (by omega) dX8_likeOf_47 ?_
            refine lv_goto (tgt := 52) hx hb dX8_likeOf_48 (by decide) ?_
            refine m_or hx hb dX8_likeOf_52 ?_
            refine lv_istore (lv' := [(5, .int (nI (f ||| (2 ^ k)))), (0, .ref mo), (1, .int (nI v)), (2, .int (nI way)), (3, .int (nI sta)), (4, .int (nI n)), (6, .int (nI k))]) hx hb dX8_likeOf_53 hl (by decide) rfl (fun ls hl => ?_)
            refine lv_iinc (v := nI (k + 1)) (lv' := [(6, .int (nI (k + 1))), (5, .int (nI (f ||| (2 ^ k)))), (0, .ref mo), (1, .int (nI v)), (2, .int (nI way)), (3, .int (nI sta)), (4, .int (nI n))]) hx hb dX8_likeOf_55 hl (k := 6) rfl ((nI_succ _).symm) (by decide) rfl (fun ls hl => ?_)
            refine lv_goto (tgt := 6) hx hb dX8_likeOf_58 (by decide) ?_
            exact ih_6 (k + 1) _ _ _ (by omega) (by omega) hp_38.2.1 hp_38.2.2 (by rw [hf]; exact mkN_t c_41) _ _ hP hD hS ls (lv_sub hl [2, 3, 4, 5, 6, 1, 0] rfl)
  exact loop_6 (nl + 2) 0 0 be ba (by omega) (by omega) hbe hba rfl _ _ hP hD hS ls (lv_sub hl [2, 3, 4, 5, 6, 1, 0] rfl)

theorem yd_X8_bits : yX8_bits.cls = RX8 ∧ yX8_bits.cls ≠ "java/lang/invoke/MethodHandle" ∧ yX8_bits.cls ≠ "java/lang/invoke/VarHandle" ∧ (parseMethodDescriptor yX8_bits.desc).map (fun d => d.parameters.length) = some 1 := by decide +kernel
set_option maxHeartbeats 4000000 in
set_option maxRecDepth 100000 in
theorem k_X8_bits (l : Launch) (D : va_G) (cI cZ : ClassId) (x : Nat) (hx2 : x < 2 ^ 20) : Met l yX8_bits wsX8_bits ({ frames := 0, cells := 0, slots := 0, locals := 0 }) (mPc [.int (nI x)] D cI cZ []) (QcRead (nI (bcN x))) 0 0 (fun _ => False) := by
  refine Met.ofW (cc := cX8_bits) (maxL := 3) (ret := (some .int)) (by decide) rfl ?_
  intro p e s m args below meth c s₁ BB hml hv
  obtain ⟨hargs, hP, hD0, hK⟩ := hv
  have hx := BB.exec
  have hb := BB.bytes
  have hr := BB.returns
  have hts := atoms_spec (ws := wsX8_bits) BB.pre
  have hown : s.vm.findClass RX8 = some m.cls := findClass_of_methodNamed BB.named
  have hlocks := BB.notSynchronized
  have hcf : CallFix p m c cX8_bits 3 s args wsX8_bits RX8 := ⟨hx, hb, hml, hown, hts⟩
  have hD := hD0
  rw [hargs, lg_entry_eq, ← hargs]
  have hl := lv_entry ([.int (nI x)]) (n := 3) (Nat.le_of_ble_eq_true rfl)
  generalize (lg_sl ([.int (nI x)]) ++ List.replicate (3 - (lg_sl ([.int (nI x)])).length) Slot.unset).toArray = ls at hl ⊢
  have hl : lv_has ls 3 [(0, .int (nI x))] := hl
  obtain ⟨Q, hQ⟩ : ∃ Q, Q = MQ below (QcRead (nI (bcN x))) args s 0 0 (fun _ => False) := ⟨_, rfl⟩
  rw [← hQ]
  refine lv_iconst (v := nI 0) hx hb dX8_bits_0 (by decide) ?_
  refine lv_istore_n (lv' := [(1, .int (nI 0)), (0, .int (nI x))]) hx hb dX8_bits_1 rfl hl (by decide) rfl (fun ls hl => ?_)
  refine lv_iconst (v := nI 0) hx hb dX8_bits_2 (by decide) ?_
  refine lv_istore_n (lv' := [(2, .int (nI 0)), (1, .int (nI 0)), (0, .int (nI x))]) hx hb dX8_bits_3 rfl hl (by decide) rfl (fun ls hl => ?_)
  have loop_4 : ∀ (fu : Nat) (k cc : Nat) (hfu : 20 - k < fu)  (hk : k ≤ 20) (hc : cc = fb_ct (fun j => x.testBit j) k) (ls : Array Slot) (hl : lv_has ls 3 [(0, .int (nI x)), (1, .int (nI cc)), (2, .int (nI k))]), W p l e (headSpec wsX8_bits { frames := 0, cells := 0, slots := 0, locals := 0 }).room s m args below meth c s.heap [] 0 0 Q (F0 m 4 ls []) := by
    intro fu
    induction fu with
    | zero => intro k cc hfu; exact absurd hfu (Nat.not_lt_zero _)
    | succ fu ih_4 =>
      intro k cc hfu hk hc ls hl
      refine lv_iload_n hx hb dX8_bits_4 rfl (lv_at hl 2 rfl) ?_
      refine lv_bipush (v := nI 20) hx hb dX8_bits_5 (by decide) ?_
      refine m_cmp_ge (tgt := 24) hx hb dX8_bits_7 (by decide) (by omega) (by omega) (fun c_7 => ?_) (fun c_7 => ?_)
      · refine lv_iload_n hx hb dX8_bits_24 rfl (lv_at hl 1 rfl) ?_
        rw [hQ]
        have e9 : k = 20 := by omega
        exact m_ird hx hb hr hlocks (by rw [hc, e9]; rfl) dX8_bits_25
      · refine lv_iload_n hx hb dX8_bits_10 rfl (lv_at hl 1 rfl) ?_
        refine lv_iload_n hx hb dX8_bits_11 rfl (lv_at hl 0 rfl) ?_
        refine lv_iload_n hx hb dX8_bits_12 rfl (lv_at hl 2 rfl) ?_
        refine m_shr hx hb (by omega) (by omega) dX8_bits_13 ?_
        refine lv_iconst (v := nI 1) hx hb dX8_bits_14 (by decide) ?_
        refine m_and hx hb dX8_bits_15 ?_
        refine m_add hx hb dX8_bits_16 ?_
        refine lv_istore_n (lv' := [(1, .int (nI (cc + ((x >>> k) &&& 1)))), (0, .int (nI x)), (2, .int (nI k))]) hx hb dX8_bits_17 rfl hl (by decide) rfl (fun ls hl => ?_)
        refine lv_iinc (v := nI (k + 1)) (lv' := [(2, .int (nI (k + 1))), (1, .int (nI (cc + ((x >>> k) &&& 1)))), (0, .int (nI x))]) hx hb dX8_bits_18 hl (k := 2) rfl ((nI_succ _).symm) (by decide) rfl (fun ls hl => ?_)
        refine lv_goto (tgt := 4) hx hb dX8_bits_21 (by decide) ?_
        exact ih_4 (k + 1) _ (by omega) (by omega) (by rw [hc, bit1, fb_ct_succ])  ls (lv_sub hl [2, 1, 0] rfl)
  exact loop_4 21 0 0 (by omega) (by omega) rfl  ls (lv_sub hl [2, 1, 0] rfl)

theorem yd_X8_least : yX8_least.cls = RX8 ∧ yX8_least.cls ≠ "java/lang/invoke/MethodHandle" ∧ yX8_least.cls ≠ "java/lang/invoke/VarHandle" ∧ (parseMethodDescriptor yX8_least.desc).map (fun d => d.parameters.length) = some 1 := by decide +kernel
set_option maxHeartbeats 4000000 in
set_option maxRecDepth 100000 in
theorem k_X8_least (l : Launch) (D : va_G) (cI cZ : ClassId) (x : Nat) (hx2 : x < 2 ^ 20) (hx3 : ∃ t, t < 20 ∧ x.testBit t = true) : Met l yX8_least wsX8_least ({ frames := 0, cells := 0, slots := 0, locals := 0 }) (mPc [.int (nI x)] D cI cZ []) (QcRead (nI (lsN x))) 0 0 (fun _ => False) := by
  refine Met.ofW (cc := cX8_least) (maxL := 2) (ret := (some .int)) (by decide) rfl ?_
  intro p e s m args below meth c s₁ BB hml hv
  obtain ⟨hargs, hP, hD0, hK⟩ := hv
  have hx := BB.exec
  have hb := BB.bytes
  have hr := BB.returns
  have hts := atoms_spec (ws := wsX8_least) BB.pre
  have hown : s.vm.findClass RX8 = some m.cls := findClass_of_methodNamed BB.named
  have hlocks := BB.notSynchronized
  have hcf : CallFix p m c cX8_least 2 s args wsX8_least RX8 := ⟨hx, hb, hml, hown, hts⟩
  have hD := hD0
  rw [hargs, lg_entry_eq, ← hargs]
  have hl := lv_entry ([.int (nI x)]) (n := 2) (Nat.le_of_ble_eq_true rfl)
  generalize (lg_sl ([.int (nI x)]) ++ List.replicate (2 - (lg_sl ([.int (nI x)])).length) Slot.unset).toArray = ls at hl ⊢
  have hl : lv_has ls 2 [(0, .int (nI x))] := hl
  obtain ⟨Q, hQ⟩ : ∃ Q, Q = MQ below (QcRead (nI (lsN x))) args s 0 0 (fun _ => False) := ⟨_, rfl⟩
  rw [← hQ]
  have hl9 := ls_lt hx3
  refine lv_iconst (v := nI 0) hx hb dX8_least_0 (by decide) ?_
  refine lv_istore_n (lv' := [(1, .int (nI 0)), (0, .int (nI x))]) hx hb dX8_least_1 rfl hl (by decide) rfl (fun ls hl => ?_)
  have loop_2 : ∀ (fu : Nat) (k : Nat) (hfu : 20 - k < fu)  (hk : k ≤ lsN x) (hall : ∀ j, j < k → x.testBit j = false) (ls : Array Slot) (hl : lv_has ls 2 [(0, .int (nI x)), (1, .int (nI k))]), W p l e (headSpec wsX8_least { frames := 0, cells := 0, slots := 0, locals := 0 }).room s m args below meth c s.heap [] 0 0 Q (F0 m 2 ls []) := by
    intro fu
    induction fu with
    | zero => intro k hfu; exact absurd hfu (Nat.not_lt_zero _)
    | succ fu ih_2 =>
      intro k hfu hk hall ls hl
      refine lv_iload_n hx hb dX8_least_2 rfl (lv_at hl 0 rfl) ?_
      refine lv_iload_n hx hb dX8_least_3 rfl (lv_at hl 1 rfl) ?_
      refine m_shr hx hb (by omega) (by omega) dX8_least_4 ?_
      refine lv_iconst (v := nI 1) hx hb dX8_least_5 (by decide) ?_
      refine m_and hx hb dX8_least_6 ?_
      refine m_if_ne (tgt := 16) hx hb dX8_least_7 (by decide) (Nat.lt_of_le_of_lt (bit1_le _ _) (by decide)) (fun c_7 => ?_) (fun c_7 => ?_)
      · refine lv_iload_n hx hb dX8_least_16 rfl (lv_at hl 1 rfl) ?_
        rw [hQ]
        exact m_ird hx hb hr hlocks (by rw [show lsN x = k from first_eq (by omega) hall (fun _ => bit1_1 c_7)]) dX8_least_17
      · refine lv_iinc (v := nI (k + 1)) (lv' := [(1, .int (nI (k + 1))), (0, .int (nI x))]) hx hb dX8_least_10 hl (k := 1) rfl ((nI_succ _).symm) (by decide) rfl (fun ls hl => ?_)
        refine lv_goto (tgt := 2) hx hb dX8_least_13 (by decide) ?_
        have n9 : k ≠ lsN x := fun e => by
          have h9 := bit1_0 c_7
          rw [e, hl9.2] at h9
          cases h9
        exact ih_2 (k + 1) (by omega) (by omega) (lt_s hall (bit1_0 c_7))  ls (lv_sub hl [1, 0] rfl)
  exact loop_2 21 0 (by omega) (by omega) (fun j hj => absurd hj (Nat.not_lt_zero j))  ls (lv_sub hl [1, 0] rfl)

theorem yd_X8_like : yX8_like.cls = RX8 ∧ yX8_like.cls ≠ "java/lang/invoke/MethodHandle" ∧ yX8_like.cls ≠ "java/lang/invoke/VarHandle" ∧ (parseMethodDescriptor yX8_like.desc).map (fun d => d.parameters.length) = some 4 := by decide +kernel
set_option maxHeartbeats 4000000 in
set_option maxRecDepth 100000 in
theorem k_X8_like (l : Launch) (D : va_G) (cI cZ : ClassId) (mo ps mpa nl nv msz mcd mbe mba : Nat) (ol : Int32) (op os svn ms1 ms2 ms3 ms4 mfa mim mik : Nat) (be ba : Nat → Nat) (z g : Nat → Nat) (ve way sta n : Int32) (hnl : nl ≤ 20) (hnv : nv ≤ 4) (hz : ∀ j, z j ≤ 8) (hg : ∀ j, g j ≤ 126) (hbe : ∀ j, be j ≤ 126) (hba : ∀ j, ba j ≤ 126) (hop : op ≤ 100) (hos : os ≤ 126) : Met l yX8_like wsX8_like ({ frames := 5, cells := 0, slots := 0, locals := 119 }) (mPc [.ref mo, .int ve, .int way, .int sta, .int n] D cI cZ [(mo, .inr (8, [.int (nI ps), .ref mpa, .int (nI nl), .int (nI nv), .ref msz, .ref mcd, .ref mbe, .ref mba, .int ol, .int (nI op), .int (nI os), .int (nI svn), .ref ms1, .ref ms2, .ref ms3, .ref ms4, .ref mfa, .ref mim, .ref mik])), (mbe, aN cI 26 be), (mba, aN cI 26 ba), (msz, aN cI 80 z), (mcd, aN cI 640 g)]) (mQi D (mA [(mo, .inr (8, [.int (nI ps), .ref mpa, .int (nI nl), .int (nI nv), .ref msz, .ref mcd, .ref mbe, .ref mba, .int ol, .int (nI op), .int (nI os), .int (nI svn), .ref ms1, .ref ms2, .ref ms3, .ref ms4, .ref mfa, .ref mim, .ref mik])), (mbe, aN cI 26 be), (mba, aN cI 26 ba), (msz, aN cI 80 z), (mcd, aN cI 640 g)]) (fun (r : Int32) (u : (Nat → Nat) × (Nat → Nat)) => r = rfQ nv ve (ixB way 3 && ixB sta 20 && lnB n) (nI (mkN (fun k => rmB (cN way) z g (cN ve) nl (cN sta) k (cN n) ol op os) (nl + 1 - (cN n)))) ∧ (∀ j, u.1 j ≤ 126) ∧ (∀ j, u.2 j ≤ 126)) (fun (u : (Nat → Nat) × (Nat → Nat)) => [(mo, .inr (8, [.int (nI ps), .ref mpa, .int (nI nl), .int (nI nv), .ref msz, .ref mcd, .ref mbe, .ref mba, .int ol, .int (nI op), .int (nI os), .int (nI svn), .ref ms1, .ref ms2, .ref ms3, .ref ms4, .ref mfa, .ref mim, .ref mik])), (mbe, aN cI 26 u.1), (mba, aN cI 26 u.2), (msz, aN cI 80 z), (mcd, aN cI 640 g)])) 0 0 (mA [(mo, .inr (8, [.int (nI ps), .ref mpa, .int (nI nl), .int (nI nv), .ref msz, .ref mcd, .ref mbe, .ref mba, .int ol, .int (nI op), .int (nI os), .int (nI svn), .ref ms1, .ref ms2, .ref ms3, .ref ms4, .ref mfa, .ref mim, .ref mik])), (mbe, aN cI 26 be), (mba, aN cI 26 ba), (msz, aN cI 80 z), (mcd, aN cI 640 g)]) := by
  refine Met.ofW (cc := cX8_like) (maxL := 5) (ret := (some .int)) (by decide) rfl ?_
  intro p e s m args below meth c s₁ BB hml hv
  obtain ⟨hargs, hP, hD0, hK⟩ := hv
  have hx := BB.exec
  have hb := BB.bytes
  have hr := BB.returns
  have hts := atoms_spec (ws := wsX8_like) BB.pre
  have hown : s.vm.findClass RX8 = some m.cls := findClass_of_methodNamed BB.named
  have hlocks := BB.notSynchronized
  have hcf : CallFix p m c cX8_like 5 s args wsX8_like RX8 := ⟨hx, hb, hml, hown, hts⟩
  obtain ⟨A, hAe⟩ : ∃ A, A = mA [(mo, .inr (8, [.int (nI ps), .ref mpa, .int (nI nl), .int (nI nv), .ref msz, .ref mcd, .ref mbe, .ref mba, .int ol, .int (nI op), .int (nI os), .int (nI svn), .ref ms1, .ref ms2, .ref ms3, .ref ms4, .ref mfa, .ref mim, .ref mik])), (mbe, aN cI 26 be), (mba, aN cI 26 ba), (msz, aN cI 80 z), (mcd, aN cI 640 g)] := ⟨_, rfl⟩
  have hD : va_D A [(mo, .inr (8, [.int (nI ps), .ref mpa, .int (nI nl), .int (nI nv), .ref msz, .ref mcd, .ref mbe, .ref mba, .int ol, .int (nI op), .int (nI os), .int (nI svn), .ref ms1, .ref ms2, .ref ms3, .ref ms4, .ref mfa, .ref mim, .ref mik])), (mbe, aN cI 26 be), (mba, aN cI 26 ba), (msz, aN cI 80 z), (mcd, aN cI 640 g)] := ⟨hD0.1, fun k q h => by rw [hAe]; exact ⟨k, q.2, h⟩⟩
  have hS : va_S A s.heap s.heap [] := va_S.rf
  rw [← hAe]
  rw [hargs, lg_entry_eq, ← hargs]
  have hl := lv_entry ([.ref mo, .int ve, .int way, .int sta, .int n]) (n := 5) (Nat.le_of_ble_eq_true rfl)
  generalize (lg_sl ([.ref mo, .int ve, .int way, .int sta, .int n]) ++ List.replicate (5 - (lg_sl ([.ref mo, .int ve, .int way, .int sta, .int n])).length) Slot.unset).toArray = ls at hl ⊢
  have hl : lv_has ls 5 [(0, .ref mo), (1, .int ve), (2, .int way), (3, .int sta), (4, .int n)] := hl
  obtain ⟨Q, hQ⟩ : ∃ Q, Q = MQ below (mQi D A (fun (r : Int32) (u : (Nat → Nat) × (Nat → Nat)) => r = rfQ nv ve (ixB way 3 && ixB sta 20 && lnB n) (nI (mkN (fun k => rmB (cN way) z g (cN ve) nl (cN sta) k (cN n) ol op os) (nl + 1 - (cN n)))) ∧ (∀ j, u.1 j ≤ 126) ∧ (∀ j, u.2 j ≤ 126)) (fun (u : (Nat → Nat) × (Nat → Nat)) => [(mo, .inr (8, [.int (nI ps), .ref mpa, .int (nI nl), .int (nI nv), .ref msz, .ref mcd, .ref mbe, .ref mba, .int ol, .int (nI op), .int (nI os), .int (nI svn), .ref ms1, .ref ms2, .ref ms3, .ref ms4, .ref mfa, .ref mim, .ref mik])), (mbe, aN cI 26 u.1), (mba, aN cI 26 u.2), (msz, aN cI 80 z), (mcd, aN cI 640 g)])) args s 0 0 A := ⟨_, rfl⟩
  rw [← hQ]
  refine lv_aload_n hx hb dX8_like_0 rfl (lv_at hl 0 rfl) ?_
  refine lv_iload_n hx hb dX8_like_1 rfl (lv_at hl 1 rfl) ?_
  refine m_rdV (As := [.int ve]) (rest := []) (wc := [(mo, .inr (8, [.int (nI ps), .ref mpa, .int (nI nl), .int (nI nv), .ref msz, .ref mcd, .ref mbe, .ref mba, .int ol, .int (nI op), .int (nI os), .int (nI svn), .ref ms1, .ref ms2, .ref ms3, .ref ms4, .ref mfa, .ref mim, .ref mik]))]) hcf (k_X8_isVersion (l := l) (D := D) (cI := cI) (cZ := cZ) (x := ve) (mo := mo) (ps := ps) (mpa := mpa) (nl := nl) (nv := nv) (msz := msz) (mcd := mcd) (mbe := mbe) (mba := mba) (ol := ol) (op := op) (os := os) (svn := svn) (ms1 := ms1) (ms2 := ms2) (ms3 := ms3) (ms4 := ms4) (mfa := mfa) (mim := mim) (mik := mik) (hnl := hnl) (hnv := hnv)) (cwV 1 hts gX8_like_X8_isVersion rfl rfl rfl yd_X8_isVersion ⟨Nat.le_of_ble_eq_true rfl, Nat.le_of_ble_eq_true rfl⟩) (m_preV hK hP hD [0] (by decide) rfl rfl rfl) rfl hl.1 rfl (Nat.le_of_ble_eq_true rfl) dX8_like_2 ⟨Nat.zero_le _, Nat.zero_le _⟩ ?_
  refine m_ifB_ne (tgt := 10) hx hb dX8_like_5 (by decide) (fun c_5 => ?_) (fun c_5 => ?_)
  · obtain ⟨e_v, i_v⟩ := ixB_cN (by omega) c_5
    refine lv_iload_n hx hb dX8_like_10 rfl (lv_at hl 2 rfl) ?_
    refine m_rdS (As := [.int way]) (rest := []) (wc := []) hcf (k_X8_isWay (l := l) (D := D) (cI := cI) (cZ := cZ) (x := way) ) (va_cwS 1 hts gX8_like_X8_isWay rfl rfl rfl yd_X8_isWay.2 ⟨Nat.le_of_ble_eq_true rfl, Nat.le_of_ble_eq_true rfl⟩) (m_preS hK hP hD [] (by decide) rfl) rfl hl.1 rfl (Nat.le_of_ble_eq_true rfl) dX8_like_11 ⟨Nat.zero_le _, Nat.zero_le _⟩ ?_
    refine m_ifB_eq (tgt := 44) hx hb dX8_like_14 (by decide) (fun c_14 => ?_) (fun c_14 => ?_)
    · refine lv_bipush (v := (-2)) hx hb dX8_like_44 (by decide) ?_
      rw [hQ]
      exact m_iwr hx hb hr hlocks (be, ba) (⟨by rw [rfQ_o c_5 (by first | (simp [c_14, c_21, c_29]; done) | (simp [c_14]; done) | (simp [c_21]; done) | (simp [c_29]; done))], hbe, hba⟩) hP hS dX8_like_46
    · obtain ⟨e_w, i_w⟩ := ixB_cN (by decide) c_14
      refine lv_iload_n hx hb dX8_like_17 rfl (lv_at hl 3 rfl) ?_
      refine m_rdS (As := [.int sta]) (rest := []) (wc := []) hcf (k_X8_isStart (l := l) (D := D) (cI := cI) (cZ := cZ) (x := sta) ) (va_cwS 1 hts gX8_like_X8_isStart rfl rfl rfl yd_X8_isStart.2 ⟨Nat.le_of_ble_eq_true rfl, Nat.le_of_ble_eq_true rfl⟩) (m_preS hK hP hD [] (by decide) rfl) rfl hl.1 rfl (Nat.le_of_ble_eq_true rfl) dX8_like_18 ⟨Nat.zero_le _, Nat.zero_le _⟩ ?_
      refine m_ifB_eq (tgt := 44) hx hb dX8_like_21 (by decide) (fun c_21 => ?_) (fun c_21 => ?_)
      · refine lv_bipush (v := (-2)) hx hb dX8_like_44 (by decide) ?_
        rw [hQ]
        exact m_iwr hx hb hr hlocks (be, ba) (⟨by rw [rfQ_o c_5 (by first | (simp [c_14, c_21, c_29]; done) | (simp [c_14]; done) | (simp [c_21]; done) | (simp [c_29]; done))], hbe, hba⟩) hP hS dX8_like_46
      · obtain ⟨e_s, i_s⟩ := ixB_cN (by decide) c_21
        refine lv_iload hx hb dX8_like_24 (lv_at hl 4 rfl) ?_
        refine m_rdS (As := [.int n]) (rest := []) (wc := []) hcf (k_X8_isLength (l := l) (D := D) (cI := cI) (cZ := cZ) (x := n) ) (va_cwS 1 hts gX8_like_X8_isLength rfl rfl rfl yd_X8_isLength.2 ⟨Nat.le_of_ble_eq_true rfl, Nat.le_of_ble_eq_true rfl⟩) (m_preS hK hP hD [] (by decide) rfl) rfl hl.1 rfl (Nat.le_of_ble_eq_true rfl) dX8_like_26 ⟨Nat.zero_le _, Nat.zero_le _⟩ ?_
        refine m_ifB_eq (tgt := 44) hx hb dX8_like_29 (by decide) (fun c_29 => ?_) (fun c_29 => ?_)
        · refine lv_bipush (v := (-2)) hx hb dX8_like_44 (by decide) ?_
          rw [hQ]
          exact m_iwr hx hb hr hlocks (be, ba) (⟨by rw [rfQ_o c_5 (by first | (simp [c_14, c_21, c_29]; done) | (simp [c_14]; done) | (simp [c_21]; done) | (simp [c_29]; done))], hbe, hba⟩) hP hS dX8_like_46
        · obtain ⟨e_n, i_n, j_n⟩ := lnB_cN c_29
          have hl : lv_has ls 5 [(0, .ref mo), (1, .int (nI (cN ve))), (2, .int (nI (cN way))), (3, .int (nI (cN sta))), (4, .int (nI (cN n)))] := by rw [← e_v, ← e_w, ← e_s, ← e_n]; exact hl
          refine lv_aload_n hx hb dX8_like_32 rfl (lv_at hl 0 rfl) ?_
          refine lv_iload_n hx hb dX8_like_33 rfl (lv_at hl 1 rfl) ?_
          refine lv_iload_n hx hb dX8_like_34 rfl (lv_at hl 2 rfl) ?_
          refine lv_iload_n hx hb dX8_like_35 rfl (lv_at hl 3 rfl) ?_
          refine lv_iload hx hb dX8_like_36 (lv_at hl 4 rfl) ?_
          refine m_wrV (As := [.int (nI (cN ve)), .int (nI (cN way)), .int (nI (cN sta)), .int (nI (cN n))]) (rest := []) (wc := [(mo, .inr (8, [.int (nI ps), .ref mpa, .int (nI nl), .int (nI nv), .ref msz, .ref mcd, .ref mbe, .ref mba, .int ol, .int (nI op), .int (nI os), .int (nI svn), .ref ms1, .ref ms2, .ref ms3, .ref ms4, .ref mfa, .ref mim, .ref mik])), (mbe, aN cI 26 be), (mba, aN cI 26 ba), (msz, aN cI 80 z), (mcd, aN cI 640 g)]) hcf (k_X8_likeOf (l := l) (D := D) (cI := cI) (cZ := cZ) (v := cN ve) (way := cN way) (sta := cN sta) (n := cN n) (mo := mo) (ps := ps) (mpa := mpa) (nl := nl) (nv := nv) (msz := msz) (mcd := mcd) (mbe := mbe) (mba := mba) (ol := ol) (op := op) (os := os) (svn := svn) (ms1 := ms1) (ms2 := ms2) (ms3 := ms3) (ms4 := ms4) (mfa := mfa) (mim := mim) (mik := mik) (be := be) (ba := ba) (z := z) (g := g) (hnl := hnl) (hnv := hnv) (hz := hz) (hg := hg) (hbe := hbe) (hba := hba) (hop := hop) (hos := hos) (hw := by omega) (hv := by omega) (h1 := by omega) (hn := by omega) (hn1 := by omega)) (cwV 4 hts gX8_like_X8_likeOf rfl rfl rfl yd_X8_likeOf ⟨Nat.le_of_ble_eq_true rfl, Nat.le_of_ble_eq_true rfl⟩) hK hP hD hS [0, 1, 2, 3, 4] (by decide) rfl rfl rfl rfl hl.1 rfl (Nat.le_of_ble_eq_true rfl) dX8_like_38 ⟨Nat.zero_le _, Nat.zero_le _⟩ (fun _ => rfl) (fun (u : (Nat → Nat) × (Nat → Nat)) => [(mo, .inr (8, [.int (nI ps), .ref mpa, .int (nI nl), .int (nI nv), .ref msz, .ref mcd, .ref mbe, .ref mba, .int ol, .int (nI op), .int (nI os), .int (nI svn), .ref ms1, .ref ms2, .ref ms3, .ref ms4, .ref mfa, .ref mim, .ref mik])), (mbe, aN cI 26 u.1), (mba, aN cI 26 u.2), (msz, aN cI 80 z), (mcd, aN cI 640 g)]) (fun _ => rfl) (fun r u H locs hp_38 hP hD hS => ?_)
          obtain ⟨beu_38, bau_38⟩ := u
          have hP : va_P D vwCl [(mo, .inr (8, [.int (nI ps), .ref mpa, .int (nI nl), .int (nI nv), .ref msz, .ref mcd, .ref mbe, .ref mba, .int ol, .int (nI op), .int (nI os), .int (nI svn), .ref ms1, .ref ms2, .ref ms3, .ref ms4, .ref mfa, .ref mim, .ref mik])), (mbe, aN cI 26 beu_38), (mba, aN cI 26 bau_38), (msz, aN cI 80 z), (mcd, aN cI 640 g)] H := hP
          have hD : va_D A [(mo, .inr (8, [.int (nI ps), .ref mpa, .int (nI nl), .int (nI nv), .ref msz, .ref mcd, .ref mbe, .ref mba, .int ol, .int (nI op), .int (nI os), .int (nI svn), .ref ms1, .ref ms2, .ref ms3, .ref ms4, .ref mfa, .ref mim, .ref mik])), (mbe, aN cI 26 beu_38), (mba, aN cI 26 bau_38), (msz, aN cI 80 z), (mcd, aN cI 640 g)] := hD
          try dsimp only at hp_38
          obtain ⟨hr_hp_38, hp_38⟩ := hp_38
          rw [hr_hp_38]
          refine lv_goto (tgt := 46) hx hb dX8_like_41 (by decide) ?_
          rw [hQ]
          exact m_iwr hx hb hr hlocks (beu_38, bau_38) (⟨by rw [rfQ_v c_5 (by first | (simp [c_14, c_21, c_29]; done) | (simp [c_14]; done) | (simp [c_21]; done) | (simp [c_29]; done))], hp_38.1, hp_38.2⟩) hP hS dX8_like_46
  · refine lv_iconst (v := (-1)) hx hb dX8_like_8 (by decide) ?_
    rw [hQ]
    exact m_iwr hx hb hr hlocks (be, ba) (⟨by rw [rfQ_u c_5], hbe, hba⟩) hP hS dX8_like_9

theorem bc_ex {x : Nat} (h : 1 ≤ bcN x) : ∃ t, t < 20 ∧ x.testBit t = true := by
  obtain ⟨k, h1, h2⟩ := fb_ct_pos.mp (show 0 < bcN x by omega)
  exact ⟨k, h1, h2⟩
theorem lm_lt {p : Nat → Bool} {nl n : Nat} (h : nl ≤ 20) (hn : 1 ≤ n) : mkN p (nl + 1 - n) < 2 ^ 20 := Nat.lt_of_lt_of_le (mkN_lt _ _) (Nat.pow_le_pow_right (by omega) (by omega))

theorem yd_X8_groups : yX8_groups.cls = RX8 ∧ yX8_groups.cls ≠ "java/lang/invoke/MethodHandle" ∧ yX8_groups.cls ≠ "java/lang/invoke/VarHandle" ∧ (parseMethodDescriptor yX8_groups.desc).map (fun d => d.parameters.length) = some 4 := by decide +kernel
set_option maxHeartbeats 4000000 in
set_option maxRecDepth 100000 in
theorem k_X8_groups (l : Launch) (D : va_G) (cI cZ : ClassId) (mo ps mpa nl nv msz mcd mbe mba : Nat) (ol : Int32) (op os svn ms1 ms2 ms3 ms4 mfa mim mik : Nat) (be ba : Nat → Nat) (z g : Nat → Nat) (ve way n gi : Int32) (hnl : nl ≤ 20) (hnv : nv ≤ 4) (hz : ∀ j, z j ≤ 8) (hg : ∀ j, g j ≤ 126) (hbe : ∀ j, be j ≤ 126) (hba : ∀ j, ba j ≤ 126) (hop : op ≤ 100) (hos : os ≤ 126) : Met l yX8_groups wsX8_groups ({ frames := 5, cells := 0, slots := 0, locals := 119 }) (mPc [.ref mo, .int ve, .int way, .int n, .int gi] D cI cZ [(mo, .inr (8, [.int (nI ps), .ref mpa, .int (nI nl), .int (nI nv), .ref msz, .ref mcd, .ref mbe, .ref mba, .int ol, .int (nI op), .int (nI os), .int (nI svn), .ref ms1, .ref ms2, .ref ms3, .ref ms4, .ref mfa, .ref mim, .ref mik])), (mbe, aN cI 26 be), (mba, aN cI 26 ba), (msz, aN cI 80 z), (mcd, aN cI 640 g)]) (mQi D (mA [(mo, .inr (8, [.int (nI ps), .ref mpa, .int (nI nl), .int (nI nv), .ref msz, .ref mcd, .ref mbe, .ref mba, .int ol, .int (nI op), .int (nI os), .int (nI svn), .ref ms1, .ref ms2, .ref ms3, .ref ms4, .ref mfa, .ref mim, .ref mik])), (mbe, aN cI 26 be), (mba, aN cI 26 ba), (msz, aN cI 80 z), (mcd, aN cI 640 g)]) (fun (r : Int32) (u : (Nat → Nat) × (Nat → Nat)) => r = rfQ nv ve (ixB way 3 && lnB n) (grF (fun w => decide (2 ≤ bcN (mkN (fun k => rmB (cN way) z g (cN ve) nl w k (cN n) ol op os) (nl + 1 - (cN n))) ∧ lsN (mkN (fun k => rmB (cN way) z g (cN ve) nl w k (cN n) ol op os) (nl + 1 - (cN n))) = w)) gi (nl + 1 - cN n) 0 0) ∧ (∀ j, u.1 j ≤ 126) ∧ (∀ j, u.2 j ≤ 126)) (fun (u : (Nat → Nat) × (Nat → Nat)) => [(mo, .inr (8, [.int (nI ps), .ref mpa, .int (nI nl), .int (nI nv), .ref msz, .ref mcd, .ref mbe, .ref mba, .int ol, .int (nI op), .int (nI os), .int (nI svn), .ref ms1, .ref ms2, .ref ms3, .ref ms4, .ref mfa, .ref mim, .ref mik])), (mbe, aN cI 26 u.1), (mba, aN cI 26 u.2), (msz, aN cI 80 z), (mcd, aN cI 640 g)])) 0 0 (mA [(mo, .inr (8, [.int (nI ps), .ref mpa, .int (nI nl), .int (nI nv), .ref msz, .ref mcd, .ref mbe, .ref mba, .int ol, .int (nI op), .int (nI os), .int (nI svn), .ref ms1, .ref ms2, .ref ms3, .ref ms4, .ref mfa, .ref mim, .ref mik])), (mbe, aN cI 26 be), (mba, aN cI 26 ba), (msz, aN cI 80 z), (mcd, aN cI 640 g)]) := by
  refine Met.ofW (cc := cX8_groups) (maxL := 8) (ret := (some .int)) (by decide) rfl ?_
  intro p e s m args below meth c s₁ BB hml hv
  obtain ⟨hargs, hP, hD0, hK⟩ := hv
  have hx := BB.exec
  have hb := BB.bytes
  have hr := BB.returns
  have hts := atoms_spec (ws := wsX8_groups) BB.pre
  have hown : s.vm.findClass RX8 = some m.cls := findClass_of_methodNamed BB.named
  have hlocks := BB.notSynchronized
  have hcf : CallFix p m c cX8_groups 8 s args wsX8_groups RX8 := ⟨hx, hb, hml, hown, hts⟩
  obtain ⟨A, hAe⟩ : ∃ A, A = mA [(mo, .inr (8, [.int (nI ps), .ref mpa, .int (nI nl), .int (nI nv), .ref msz, .ref mcd, .ref mbe, .ref mba, .int ol, .int (nI op), .int (nI os), .int (nI svn), .ref ms1, .ref ms2, .ref ms3, .ref ms4, .ref mfa, .ref mim, .ref mik])), (mbe, aN cI 26 be), (mba, aN cI 26 ba), (msz, aN cI 80 z), (mcd, aN cI 640 g)] := ⟨_, rfl⟩
  have hD : va_D A [(mo, .inr (8, [.int (nI ps), .ref mpa, .int (nI nl), .int (nI nv), .ref msz, .ref mcd, .ref mbe, .ref mba, .int ol, .int (nI op), .int (nI os), .int (nI svn), .ref ms1, .ref ms2, .ref ms3, .ref ms4, .ref mfa, .ref mim, .ref mik])), (mbe, aN cI 26 be), (mba, aN cI 26 ba), (msz, aN cI 80 z), (mcd, aN cI 640 g)] := ⟨hD0.1, fun k q h => by rw [hAe]; exact ⟨k, q.2, h⟩⟩
  have hS : va_S A s.heap s.heap [] := va_S.rf
  rw [← hAe]
  rw [hargs, lg_entry_eq, ← hargs]
  have hl := lv_entry ([.ref mo, .int ve, .int way, .int n, .int gi]) (n := 8) (Nat.le_of_ble_eq_true rfl)
  generalize (lg_sl ([.ref mo, .int ve, .int way, .int n, .int gi]) ++ List.replicate (8 - (lg_sl ([.ref mo, .int ve, .int way, .int n, .int gi])).length) Slot.unset).toArray = ls at hl ⊢
  have hl : lv_has ls 8 [(0, .ref mo), (1, .int ve), (2, .int way), (3, .int n), (4, .int gi)] := hl
  obtain ⟨Q, hQ⟩ : ∃ Q, Q = MQ below (mQi D A (fun (r : Int32) (u : (Nat → Nat) × (Nat → Nat)) => r = rfQ nv ve (ixB way 3 && lnB n) (grF (fun w => decide (2 ≤ bcN (mkN (fun k => rmB (cN way) z g (cN ve) nl w k (cN n) ol op os) (nl + 1 - (cN n))) ∧ lsN (mkN (fun k => rmB (cN way) z g (cN ve) nl w k (cN n) ol op os) (nl + 1 - (cN n))) = w)) gi (nl + 1 - cN n) 0 0) ∧ (∀ j, u.1 j ≤ 126) ∧ (∀ j, u.2 j ≤ 126)) (fun (u : (Nat → Nat) × (Nat → Nat)) => [(mo, .inr (8, [.int (nI ps), .ref mpa, .int (nI nl), .int (nI nv), .ref msz, .ref mcd, .ref mbe, .ref mba, .int ol, .int (nI op), .int (nI os), .int (nI svn), .ref ms1, .ref ms2, .ref ms3, .ref ms4, .ref mfa, .ref mim, .ref mik])), (mbe, aN cI 26 u.1), (mba, aN cI 26 u.2), (msz, aN cI 80 z), (mcd, aN cI 640 g)])) args s 0 0 A := ⟨_, rfl⟩
  rw [← hQ]
  have i_X8 : ∀ w ∈ u_ws RX8 TX8 19, w ∈ wsX8_groups := by decide +kernel
  have f_58 := hts (.fieldLink RX8 58 "SameAgainModel" "lines" "I") (by decide +kernel)
  refine lv_aload_n hx hb dX8_groups_0 rfl (lv_at hl 0 rfl) ?_
  refine lv_iload_n hx hb dX8_groups_1 rfl (lv_at hl 1 rfl) ?_
  refine m_rdV (As := [.int ve]) (rest := []) (wc := [(mo, .inr (8, [.int (nI ps), .ref mpa, .int (nI nl), .int (nI nv), .ref msz, .ref mcd, .ref mbe, .ref mba, .int ol, .int (nI op), .int (nI os), .int (nI svn), .ref ms1, .ref ms2, .ref ms3, .ref ms4, .ref mfa, .ref mim, .ref mik]))]) hcf (k_X8_isVersion (l := l) (D := D) (cI := cI) (cZ := cZ) (x := ve) (mo := mo) (ps := ps) (mpa := mpa) (nl := nl) (nv := nv) (msz := msz) (mcd := mcd) (mbe := mbe) (mba := mba) (ol := ol) (op := op) (os := os) (svn := svn) (ms1 := ms1) (ms2 := ms2) (ms3 := ms3) (ms4 := ms4) (mfa := mfa) (mim := mim) (mik := mik) (hnl := hnl) (hnv := hnv)) (cwV 1 hts gX8_groups_X8_isVersion rfl rfl rfl yd_X8_isVersion ⟨Nat.le_of_ble_eq_true rfl, Nat.le_of_ble_eq_true rfl⟩) (m_preV hK hP hD [0] (by decide) rfl rfl rfl) rfl hl.1 rfl (Nat.le_of_ble_eq_true rfl) dX8_groups_2 ⟨Nat.zero_le _, Nat.zero_le _⟩ ?_
  refine m_ifB_ne (tgt := 10) hx hb dX8_groups_5 (by decide) (fun c_5 => ?_) (fun c_5 => ?_)
  · obtain ⟨e_v, i_v⟩ := ixB_cN (by omega) c_5
    refine lv_iload_n hx hb dX8_groups_10 rfl (lv_at hl 2 rfl) ?_
    refine m_rdS (As := [.int way]) (rest := []) (wc := []) hcf (k_X8_isWay (l := l) (D := D) (cI := cI) (cZ := cZ) (x := way) ) (va_cwS 1 hts gX8_groups_X8_isWay rfl rfl rfl yd_X8_isWay.2 ⟨Nat.le_of_ble_eq_true rfl, Nat.le_of_ble_eq_true rfl⟩) (m_preS hK hP hD [] (by decide) rfl) rfl hl.1 rfl (Nat.le_of_ble_eq_true rfl) dX8_groups_11 ⟨Nat.zero_le _, Nat.zero_le _⟩ ?_
    refine m_ifB_eq (tgt := 24) hx hb dX8_groups_14 (by decide) (fun c_14 => ?_) (fun c_14 => ?_)
    · refine lv_bipush (v := (-2)) hx hb dX8_groups_24 (by decide) ?_
      rw [hQ]
      exact m_iwr hx hb hr hlocks (be, ba) (⟨by rw [rfQ_o c_5 (by first | (simp [c_14, c_21]; done) | (simp [c_14]; done) | (simp [c_21]; done))], hbe, hba⟩) hP hS dX8_groups_26
    · obtain ⟨e_w, i_w⟩ := ixB_cN (by decide) c_14
      refine lv_iload_n hx hb dX8_groups_17 rfl (lv_at hl 3 rfl) ?_
      refine m_rdS (As := [.int n]) (rest := []) (wc := []) hcf (k_X8_isLength (l := l) (D := D) (cI := cI) (cZ := cZ) (x := n) ) (va_cwS 1 hts gX8_groups_X8_isLength rfl rfl rfl yd_X8_isLength.2 ⟨Nat.le_of_ble_eq_true rfl, Nat.le_of_ble_eq_true rfl⟩) (m_preS hK hP hD [] (by decide) rfl) rfl hl.1 rfl (Nat.le_of_ble_eq_true rfl) dX8_groups_18 ⟨Nat.zero_le _, Nat.zero_le _⟩ ?_
      refine m_ifB_ne (tgt := 27) hx hb dX8_groups_21 (by decide) (fun c_21 => ?_) (fun c_21 => ?_)
      · obtain ⟨e_n, i_n, j_n⟩ := lnB_cN c_21
        have KI : (ixB way 3 && lnB n) = true := by first | (simp [c_14, c_21]; done) | (simp [c_14]; done) | (simp [c_21]; done)
        have hl : lv_has ls 8 [(0, .ref mo), (1, .int (nI (cN ve))), (2, .int (nI (cN way))), (3, .int (nI (cN n))), (4, .int gi)] := by rw [← e_v, ← e_w, ← e_n]; exact hl
        refine lv_iconst (v := nI 0) hx hb dX8_groups_27 (by decide) ?_
        refine lv_istore (lv' := [(5, .int (nI 0)), (0, .ref mo), (1, .int (nI (cN ve))), (2, .int (nI (cN way))), (3, .int (nI (cN n))), (4, .int gi)]) hx hb dX8_groups_28 hl (by decide) rfl (fun ls hl => ?_)
        refine lv_iconst (v := nI 0) hx hb dX8_groups_30 (by decide) ?_
        refine lv_istore (lv' := [(6, .int (nI 0)), (5, .int (nI 0)), (0, .ref mo), (1, .int (nI (cN ve))), (2, .int (nI (cN way))), (3, .int (nI (cN n))), (4, .int gi)]) hx hb dX8_groups_31 hl (by decide) rfl (fun ls hl => ?_)
        have loop_33 : ∀ (fu : Nat) (w cc : Nat) (b1 b2 : Nat → Nat) (hfu : nl + 1 - cN n - w < fu)  (hw : w ≤ nl + 1 - cN n) (hcc : cc ≤ w) (hb1 : ∀ j, b1 j ≤ 126) (hb2 : ∀ j, b2 j ≤ 126) (hR : grF (fun w => decide (2 ≤ bcN (mkN (fun k => rmB (cN way) z g (cN ve) nl w k (cN n) ol op os) (nl + 1 - (cN n))) ∧ lsN (mkN (fun k => rmB (cN way) z g (cN ve) nl w k (cN n) ol op os) (nl + 1 - (cN n))) = w)) gi (nl + 1 - cN n) 0 0 = grF (fun w => decide (2 ≤ bcN (mkN (fun k => rmB (cN way) z g (cN ve) nl w k (cN n) ol op os) (nl + 1 - (cN n))) ∧ lsN (mkN (fun k => rmB (cN way) z g (cN ve) nl w k (cN n) ol op os) (nl + 1 - (cN n))) = w)) gi (nl + 1 - cN n - w) w cc) (H : Heap) (locs : List Loc) (hP : va_P D vwCl [(mo, .inr (8, [.int (nI ps), .ref mpa, .int (nI nl), .int (nI nv), .ref msz, .ref mcd, .ref mbe, .ref mba, .int ol, .int (nI op), .int (nI os), .int (nI svn), .ref ms1, .ref ms2, .ref ms3, .ref ms4, .ref mfa, .ref mim, .ref mik])), (mbe, aN cI 26 b1), (mba, aN cI 26 b2), (msz, aN cI 80 z), (mcd, aN cI 640 g)] H) (hD : va_D A [(mo, .inr (8, [.int (nI ps), .ref mpa, .int (nI nl), .int (nI nv), .ref msz, .ref mcd, .ref mbe, .ref mba, .int ol, .int (nI op), .int (nI os), .int (nI svn), .ref ms1, .ref ms2, .ref ms3, .ref ms4, .ref mfa, .ref mim, .ref mik])), (mbe, aN cI 26 b1), (mba, aN cI 26 b2), (msz, aN cI 80 z), (mcd, aN cI 640 g)]) (hS : va_S A s.heap H locs) (ls : Array Slot) (hl : lv_has ls 8 [(0, .ref mo), (1, .int (nI (cN ve))), (2, .int (nI (cN way))), (3, .int (nI (cN n))), (4, .int gi), (5, .int (nI cc)), (6, .int (nI w))]), W p l e (headSpec wsX8_groups { frames := 5, cells := 0, slots := 0, locals := 119 }).room s m args below meth c H locs 0 0 Q (F0 m 33 ls []) := by
          intro fu
          induction fu with
          | zero => intro w cc b1 b2 hfu; exact absurd hfu (Nat.not_lt_zero _)
          | succ fu ih_33 =>
            intro w cc b1 b2 hfu hw hcc hb1 hb2 hR H locs hP hD hS ls hl
            refine lv_iload hx hb dX8_groups_33 (lv_at hl 6 rfl) ?_
            refine lv_iload_n hx hb dX8_groups_35 rfl (lv_at hl 3 rfl) ?_
            refine m_add hx hb dX8_groups_36 ?_
            refine lv_aload_n hx hb dX8_groups_37 rfl (lv_at hl 0 rfl) ?_
            refine va_get (D := D) (ci := 8) (v := .int (nI nl)) (C := RX8) (T := TX8) (N := 19) hx hb hts i_X8 hown hK.1 hP 0 rfl rfl 2 (by decide) f_58 (fun _ h9 => h9) rfl dX8_groups_38 ?_
            refine m_cmp_gt (tgt := 93) hx hb dX8_groups_41 (by decide) (by omega) (by omega) (fun c_41 => ?_) (fun c_41 => ?_)
            · refine lv_iload hx hb dX8_groups_93 (lv_at hl 4 rfl) ?_
              refine lv_iconst (v := (-1)) hx hb dX8_groups_95 (by decide) ?_
              refine lv_icmp_ne (tgt := 104) hx hb dX8_groups_96 (by decide) (fun c_96 => ?_) (fun c_96 => ?_)
              · refine lv_bipush (v := (-6)) hx hb dX8_groups_104 (by decide) ?_
                rw [hQ]
                have E9 : nl + 1 - cN n - w = 0 := by omega
                rw [E9] at hR
                exact m_iwr hx hb hr hlocks (b1, b2) (⟨by rw [rfQ_v c_5 KI, hR]; exact (if_neg c_96).symm, hb1, hb2⟩) hP hS dX8_groups_106
              · refine lv_iload hx hb dX8_groups_99 (lv_at hl 5 rfl) ?_
                refine lv_goto (tgt := 106) hx hb dX8_groups_101 (by decide) ?_
                rw [hQ]
                have E9 : nl + 1 - cN n - w = 0 := by omega
                rw [E9] at hR
                exact m_iwr hx hb hr hlocks (b1, b2) (⟨by rw [rfQ_v c_5 KI, hR]; exact (if_pos c_96).symm, hb1, hb2⟩) hP hS dX8_groups_106
            · refine lv_aload_n hx hb dX8_groups_44 rfl (lv_at hl 0 rfl) ?_
              refine lv_iload_n hx hb dX8_groups_45 rfl (lv_at hl 1 rfl) ?_
              refine lv_iload_n hx hb dX8_groups_46 rfl (lv_at hl 2 rfl) ?_
              refine lv_iload hx hb dX8_groups_47 (lv_at hl 6 rfl) ?_
              refine lv_iload_n hx hb dX8_groups_49 rfl (lv_at hl 3 rfl) ?_
              refine m_wrV (As := [.int (nI (cN ve)), .int (nI (cN way)), .int (nI w), .int (nI (cN n))]) (rest := []) (wc := [(mo, .inr (8, [.int (nI ps), .ref mpa, .int (nI nl), .int (nI nv), .ref msz, .ref mcd, .ref mbe, .ref mba, .int ol, .int (nI op), .int (nI os), .int (nI svn), .ref ms1, .ref ms2, .ref ms3, .ref ms4, .ref mfa, .ref mim, .ref mik])), (mbe, aN cI 26 b1), (mba, aN cI 26 b2), (msz, aN cI 80 z), (mcd, aN cI 640 g)]) hcf (k_X8_likeOf (l := l) (D := D) (cI := cI) (cZ := cZ) (v := cN ve) (way := cN way) (sta := w) (n := cN n) (mo := mo) (ps := ps) (mpa := mpa) (nl := nl) (nv := nv) (msz := msz) (mcd := mcd) (mbe := mbe) (mba := mba) (ol := ol) (op := op) (os := os) (svn := svn) (ms1 := ms1) (ms2 := ms2) (ms3 := ms3) (ms4 := ms4) (mfa := mfa) (mim := mim) (mik := mik) (be := b1) (ba := b2) (z := z) (g := g) (hnl := hnl) (hnv := hnv) (hz := hz) (hg := hg) (hbe := hb1) (hba := hb2) (hop := hop) (hos := hos) (hw := by omega) (hv := by omega) (h1 := by omega) (hn := by omega) (hn1 := by omega)) (cwV 4 hts gX8_groups_X8_likeOf rfl rfl rfl yd_X8_likeOf ⟨Nat.le_of_ble_eq_true rfl, Nat.le_of_ble_eq_true rfl⟩) hK hP hD hS [0, 1, 2, 3, 4] (by decide) rfl rfl rfl rfl hl.1 rfl (Nat.le_of_ble_eq_true rfl) dX8_groups_50 ⟨Nat.zero_le _, Nat.zero_le _⟩ (fun _ => rfl) (fun (u : (Nat → Nat) × (Nat → Nat)) => [(mo, .inr (8, [.int (nI ps), .ref mpa, .int (nI nl), .int (nI nv), .ref msz, .ref mcd, .ref mbe, .ref mba, .int ol, .int (nI op), .int (nI os), .int (nI svn), .ref ms1, .ref ms2, .ref ms3, .ref ms4, .ref mfa, .ref mim, .ref mik])), (mbe, aN cI 26 u.1), (mba, aN cI 26 u.2), (msz, aN cI 80 z), (mcd, aN cI 640 g)]) (fun _ => rfl) (fun r u H locs hp_50 hP hD hS => ?_)
              obtain ⟨beu_50, bau_50⟩ := u
              have hP : va_P D vwCl [(mo, .inr (8, [.int (nI ps), .ref mpa, .int (nI nl), .int (nI nv), .ref msz, .ref mcd, .ref mbe, .ref mba, .int ol, .int (nI op), .int (nI os), .int (nI svn), .ref ms1, .ref ms2, .ref ms3, .ref ms4, .ref mfa, .ref mim, .ref mik])), (mbe, aN cI 26 beu_50), (mba, aN cI 26 bau_50), (msz, aN cI 80 z), (mcd, aN cI 640 g)] H := hP
              have hD : va_D A [(mo, .inr (8, [.int (nI ps), .ref mpa, .int (nI nl), .int (nI nv), .ref msz, .ref mcd, .ref mbe, .ref mba, .int ol, .int (nI op), .int (nI os), .int (nI svn), .ref ms1, .ref ms2, .ref ms3, .ref ms4, .ref mfa, .ref mim, .ref mik])), (mbe, aN cI 26 beu_50), (mba, aN cI 26 bau_50), (msz, aN cI 80 z), (mcd, aN cI 640 g)] := hD
              try dsimp only at hp_50
              obtain ⟨hr_hp_50, hp_50⟩ := hp_50
              rw [hr_hp_50]
              refine lv_istore (lv' := [(7, .int (nI (mkN (fun k => rmB (cN way) z g (cN ve) nl w k (cN n) ol op os) (nl + 1 - (cN n))))), (0, .ref mo), (1, .int (nI (cN ve))), (2, .int (nI (cN way))), (3, .int (nI (cN n))), (4, .int gi), (5, .int (nI cc)), (6, .int (nI w))]) hx hb dX8_groups_53 hl (by decide) rfl (fun ls hl => ?_)
              refine lv_iload hx hb dX8_groups_55 (lv_at hl 0 rfl) ?_
              have hbc := bcN_le (mkN (fun k => rmB (cN way) z g (cN ve) nl w k (cN n) ol op os) (nl + 1 - (cN n)))
              have hls := lsN_le (mkN (fun k => rmB (cN way) z g (cN ve) nl w k (cN n) ol op os) (nl + 1 - (cN n)))
              refine m_rdS (As := [.int (nI (mkN (fun k => rmB (cN way) z g (cN ve) nl w k (cN n) ol op os) (nl + 1 - (cN n))))]) (rest := []) (wc := []) hcf (k_X8_bits (l := l) (D := D) (cI := cI) (cZ := cZ) (x := mkN (fun k => rmB (cN way) z g (cN ve) nl w k (cN n) ol op os) (nl + 1 - (cN n))) (hx2 := lm_lt hnl i_n)) (va_cwS 1 hts gX8_groups_X8_bits rfl rfl rfl yd_X8_bits.2 ⟨Nat.le_of_ble_eq_true rfl, Nat.le_of_ble_eq_true rfl⟩) (m_preS hK hP hD [] (by decide) rfl) rfl hl.1 rfl (Nat.le_of_ble_eq_true rfl) dX8_groups_57 ⟨Nat.zero_le _, Nat.zero_le _⟩ ?_
              refine lv_iconst (v := nI 1) hx hb dX8_groups_60 (by decide) ?_
              refine m_cmp_le (tgt := 87) hx hb dX8_groups_61 (by decide) (by omega) (by omega) (fun c_61 => ?_) (fun c_61 => ?_)
              · refine lv_iinc (v := nI (w + 1)) (lv' := [(6, .int (nI (w + 1))), (7, .int (nI (mkN (fun k => rmB (cN way) z g (cN ve) nl w k (cN n) ol op os) (nl + 1 - (cN n))))), (0, .ref mo), (1, .int (nI (cN ve))), (2, .int (nI (cN way))), (3, .int (nI (cN n))), (4, .int gi), (5, .int (nI cc))]) hx hb dX8_groups_87 hl (k := 7) rfl ((nI_succ _).symm) (by decide) rfl (fun ls hl => ?_)
                refine lv_goto (tgt := 33) hx hb dX8_groups_90 (by decide) ?_
                have E9 : nl + 1 - cN n - w = (nl + 1 - cN n - (w + 1)) + 1 := by omega
                rw [E9] at hR
                exact ih_33 (w + 1) cc _ _ (by omega) (by omega) (by omega) hp_50.1 hp_50.2 (by rw [hR, grF_f (p := (fun w => decide (2 ≤ bcN (mkN (fun k => rmB (cN way) z g (cN ve) nl w k (cN n) ol op os) (nl + 1 - (cN n))) ∧ lsN (mkN (fun k => rmB (cN way) z g (cN ve) nl w k (cN n) ol op os) (nl + 1 - (cN n))) = w))) (decide_eq_false (by omega))]) _ _ hP hD hS ls (lv_sub hl [2, 3, 4, 5, 6, 7, 0] rfl)
              · refine lv_iload hx hb dX8_groups_64 (lv_at hl 0 rfl) ?_
                refine m_rdS (As := [.int (nI (mkN (fun k => rmB (cN way) z g (cN ve) nl w k (cN n) ol op os) (nl + 1 - (cN n))))]) (rest := []) (wc := []) hcf (k_X8_least (l := l) (D := D) (cI := cI) (cZ := cZ) (x := mkN (fun k => rmB (cN way) z g (cN ve) nl w k (cN n) ol op os) (nl + 1 - (cN n))) (hx2 := lm_lt hnl i_n) (hx3 := bc_ex (by omega))) (va_cwS 1 hts gX8_groups_X8_least rfl rfl rfl yd_X8_least.2 ⟨Nat.le_of_ble_eq_true rfl, Nat.le_of_ble_eq_true rfl⟩) (m_preS hK hP hD [] (by decide) rfl) rfl hl.1 rfl (Nat.le_of_ble_eq_true rfl) dX8_groups_66 ⟨Nat.zero_le _, Nat.zero_le _⟩ ?_
                refine lv_iload hx hb dX8_groups_69 (lv_at hl 7 rfl) ?_
                refine m_cmp_ne (tgt := 87) hx hb dX8_groups_71 (by decide) (by omega) (by omega) (fun c_71 => ?_) (fun c_71 => ?_)
                · refine lv_iinc (v := nI (w + 1)) (lv' := [(6, .int (nI (w + 1))), (7, .int (nI (mkN (fun k => rmB (cN way) z g (cN ve) nl w k (cN n) ol op os) (nl + 1 - (cN n))))), (0, .ref mo), (1, .int (nI (cN ve))), (2, .int (nI (cN way))), (3, .int (nI (cN n))), (4, .int gi), (5, .int (nI cc))]) hx hb dX8_groups_87 hl (k := 7) rfl ((nI_succ _).symm) (by decide) rfl (fun ls hl => ?_)
                  refine lv_goto (tgt := 33) hx hb dX8_groups_90 (by decide) ?_
                  have E9 : nl + 1 - cN n - w = (nl + 1 - cN n - (w + 1)) + 1 := by omega
                  rw [E9] at hR
                  exact ih_33 (w + 1) cc _ _ (by omega) (by omega) (by omega) hp_50.1 hp_50.2 (by rw [hR, grF_f (p := (fun w => decide (2 ≤ bcN (mkN (fun k => rmB (cN way) z g (cN ve) nl w k (cN n) ol op os) (nl + 1 - (cN n))) ∧ lsN (mkN (fun k => rmB (cN way) z g (cN ve) nl w k (cN n) ol op os) (nl + 1 - (cN n))) = w))) (decide_eq_false (by omega))]) _ _ hP hD hS ls (lv_sub hl [2, 3, 4, 5, 6, 7, 0] rfl)
                · refine lv_iload hx hb dX8_groups_74 (lv_at hl 6 rfl) ?_
                  refine lv_iload hx hb dX8_groups_76 (lv_at hl 5 rfl) ?_
                  refine lv_icmp_ne (tgt := 84) hx hb dX8_groups_78 (by decide) (fun c_78 => ?_) (fun c_78 => ?_)
                  · refine lv_iinc (v := nI (cc + 1)) (lv' := [(5, .int (nI (cc + 1))), (7, .int (nI (mkN (fun k => rmB (cN way) z g (cN ve) nl w k (cN n) ol op os) (nl + 1 - (cN n))))), (0, .ref mo), (1, .int (nI (cN ve))), (2, .int (nI (cN way))), (3, .int (nI (cN n))), (4, .int gi), (6, .int (nI w))]) hx hb dX8_groups_84 hl (k := 6) rfl ((nI_succ _).symm) (by decide) rfl (fun ls hl => ?_)
                    refine lv_iinc (v := nI (w + 1)) (lv' := [(6, .int (nI (w + 1))), (5, .int (nI (cc + 1))), (7, .int (nI (mkN (fun k => rmB (cN way) z g (cN ve) nl w k (cN n) ol op os) (nl + 1 - (cN n))))), (0, .ref mo), (1, .int (nI (cN ve))), (2, .int (nI (cN way))), (3, .int (nI (cN n))), (4, .int gi)]) hx hb dX8_groups_87 hl (k := 7) rfl ((nI_succ _).symm) (by decide) rfl (fun ls hl => ?_)
                    refine lv_goto (tgt := 33) hx hb dX8_groups_90 (by decide) ?_
                    have E9 : nl + 1 - cN n - w = (nl + 1 - cN n - (w + 1)) + 1 := by omega
                    rw [E9] at hR
                    exact ih_33 (w + 1) _ _ _ (by omega) (by omega) (by omega) hp_50.1 hp_50.2 (by rw [hR, grF_n (p := (fun w => decide (2 ≤ bcN (mkN (fun k => rmB (cN way) z g (cN ve) nl w k (cN n) ol op os) (nl + 1 - (cN n))) ∧ lsN (mkN (fun k => rmB (cN way) z g (cN ve) nl w k (cN n) ol op os) (nl + 1 - (cN n))) = w))) (decide_eq_true ⟨by omega, c_71⟩) c_78]) _ _ hP hD hS ls (lv_sub hl [3, 4, 5, 6, 7, 1, 0] rfl)
                  · refine lv_iload hx hb dX8_groups_81 (lv_at hl 7 rfl) ?_
                    rw [hQ]
                    have E9 : nl + 1 - cN n - w = (nl + 1 - cN n - (w + 1)) + 1 := by omega
                    rw [E9] at hR
                    exact m_iwr hx hb hr hlocks (beu_50, bau_50) (⟨by rw [rfQ_v c_5 KI, hR, grF_t (p := (fun w => decide (2 ≤ bcN (mkN (fun k => rmB (cN way) z g (cN ve) nl w k (cN n) ol op os) (nl + 1 - (cN n))) ∧ lsN (mkN (fun k => rmB (cN way) z g (cN ve) nl w k (cN n) ol op os) (nl + 1 - (cN n))) = w))) (decide_eq_true ⟨by omega, c_71⟩) c_78], hp_50.1, hp_50.2⟩) hP hS dX8_groups_83
        exact loop_33 (nl + 2) 0 0 be ba (by omega) (by omega) (by omega) hbe hba rfl _ _ hP hD hS ls (lv_sub hl [2, 3, 4, 5, 6, 1, 0] rfl)
      · refine lv_bipush (v := (-2)) hx hb dX8_groups_24 (by decide) ?_
        rw [hQ]
        exact m_iwr hx hb hr hlocks (be, ba) (⟨by rw [rfQ_o c_5 (by first | (simp [c_14, c_21]; done) | (simp [c_14]; done) | (simp [c_21]; done))], hbe, hba⟩) hP hS dX8_groups_26
  · refine lv_iconst (v := (-1)) hx hb dX8_groups_8 (by decide) ?_
    rw [hQ]
    exact m_iwr hx hb hr hlocks (be, ba) (⟨by rw [rfQ_u c_5], hbe, hba⟩) hP hS dX8_groups_9
